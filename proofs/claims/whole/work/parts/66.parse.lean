/-! the page read as days -/
theorem li12' : (12 : Int32) = nI 12 := li12
def ln (c : Nat) : Nat := if c = 99 ∨ c = 116 then 2 else 1
def dk (c : Nat) : Nat := if c = 99 then 0 else if c = 116 then 1 else if c = 115 then 2 else 3
def ps (pg : Nat → Nat) : Nat → Nat
  | 0 => 0
  | j + 1 => ps pg j + ln (pg (ps pg j))
def dK (pg : Nat → Nat) (j : Nat) : Nat := dk (pg (ps pg j))
def dI (pg : Nat → Nat) (j : Nat) : Nat := if ln (pg (ps pg j)) = 2 then pg (ps pg j + 1) - 48 else 0
def stp (c q : Nat) (w : Bool) : Option (Nat × Bool) := if w = true then (if 49 ≤ c ∧ c ≤ 57 then some (q + 1, false) else none) else if q = 12 then none else if c = 99 ∨ c = 116 then some (q, true) else if c = 115 ∨ c = 119 then some (q + 1, false) else none
def sc (pg : Nat → Nat) : Nat → Nat → Nat → Bool → Nat × Nat × Bool
  | 0, i, q, w => (i, q, w)
  | r + 1, i, q, w => match stp (pg i) q w with
    | none => (i, q, w)
    | some x => sc pg r (i + 1) x.1 x.2
theorem sc_none {pg : Nat → Nat} {r i q : Nat} {w : Bool} (h : stp (pg i) q w = none) : sc pg (r + 1) i q w = (i, q, w) := by
  rw [sc, h]
theorem sc_some {pg : Nat → Nat} {r i q : Nat} {w : Bool} {x : Nat × Bool} (h : stp (pg i) q w = some x) : sc pg (r + 1) i q w = sc pg r (i + 1) x.1 x.2 := by
  rw [sc, h]
theorem sc_le (pg : Nat → Nat) : ∀ r i q w, i ≤ (sc pg r i q w).1 ∧ (sc pg r i q w).1 ≤ i + r
  | 0, i, q, w => ⟨Nat.le_refl _, Nat.le_refl _⟩
  | r + 1, i, q, w => by
    cases h : stp (pg i) q w with
    | none => rw [sc_none h]; exact ⟨Nat.le_refl _, by omega⟩
    | some x =>
      rw [sc_some h]
      have := sc_le pg r (i + 1) x.1 x.2
      omega
def Pv (pg : Nat → Nat) (i q : Nat) (w : Bool) : Prop := q ≤ 12 ∧ (w = false → ps pg q = i) ∧ (w = true → ps pg q + 1 = i ∧ ln (pg (ps pg q)) = 2 ∧ q < 12) ∧ (∀ j, j < q → ps pg (j + 1) ≤ i ∧ dI pg j ≤ 9 ∧ (ln (pg (ps pg j)) = 2 → 48 ≤ pg (ps pg j + 1))) ∧ (w = false → (i = 0 ∧ q = 0) ∨ (0 < i ∧ 0 < q ∧ ln (pg (i - 1)) = 1))
theorem Pv_0 (pg : Nat → Nat) : Pv pg 0 0 false := ⟨by omega, fun _ => rfl, fun h => (by cases h), fun j hj => absurd hj (by omega), fun _ => Or.inl ⟨rfl, rfl⟩⟩
theorem Pv_s {pg : Nat → Nat} {i q : Nat} {w : Bool} {x : Nat × Bool} (h : Pv pg i q w) (hs : stp (pg i) q w = some x) : Pv pg (i + 1) x.1 x.2 := by
  obtain ⟨h1, h2, h3, h4, h5⟩ := h
  unfold stp at hs
  cases w with
  | true =>
    rw [if_pos rfl] at hs
    obtain ⟨g1, g2, g3⟩ := h3 rfl
    by_cases hc : 49 ≤ pg i ∧ pg i ≤ 57
    · rw [if_pos hc] at hs
      cases hs
      have e : ps pg (q + 1) = i + 1 := by show ps pg q + ln (pg (ps pg q)) = _; rw [g2]; omega
      refine ⟨by dsimp only; omega, fun _ => e, fun z => (by cases z), fun j hj => ?_, fun _ => Or.inr ⟨by omega, by dsimp only; omega, ?_⟩⟩
      · dsimp only at hj
        by_cases ej : j = q
        · subst ej
          refine ⟨by omega, ?_, fun _ => by rw [g1]; omega⟩
          unfold dI
          rw [if_pos g2, g1]; omega
        · obtain ⟨k1, k2, k3⟩ := h4 j (by omega)
          exact ⟨by omega, k2, k3⟩
      · show ln (pg i) = 1
        unfold ln
        rw [if_neg (by omega)]
    · rw [if_neg hc] at hs; cases hs
  | false =>
    rw [if_neg (by decide)] at hs
    have g := h2 rfl
    by_cases h12 : q = 12
    · rw [if_pos h12] at hs; cases hs
    · rw [if_neg h12] at hs
      by_cases hc : pg i = 99 ∨ pg i = 116
      · rw [if_pos hc] at hs
        cases hs
        refine ⟨h1, fun z => (by cases z), fun _ => ⟨by dsimp only; omega, by dsimp only; rw [g]; unfold ln; rw [if_pos hc], by dsimp only; omega⟩, fun j hj => ?_, fun z => (by cases z)⟩
        obtain ⟨k1, k2, k3⟩ := h4 j hj
        exact ⟨by omega, k2, k3⟩
      · rw [if_neg hc] at hs
        by_cases hd : pg i = 115 ∨ pg i = 119
        · rw [if_pos hd] at hs
          cases hs
          have el : ln (pg i) = 1 := by unfold ln; rw [if_neg hc]
          have e : ps pg (q + 1) = i + 1 := by show ps pg q + ln (pg (ps pg q)) = _; rw [g, el]
          refine ⟨by dsimp only; omega, fun _ => e, fun z => (by cases z), fun j hj => ?_, fun _ => Or.inr ⟨by omega, by dsimp only; omega, el⟩⟩
          dsimp only at hj
          by_cases ej : j = q
          · subst ej
            refine ⟨by omega, ?_, fun z => by rw [g, el] at z; omega⟩
            unfold dI
            rw [g, el, if_neg (by omega)]; omega
          · obtain ⟨k1, k2, k3⟩ := h4 j (by omega)
            exact ⟨by omega, k2, k3⟩
        · rw [if_neg hd] at hs; cases hs
theorem Pv_sc {pg : Nat → Nat} : ∀ {r i q : Nat} {w : Bool}, Pv pg i q w → (sc pg r i q w).1 = i + r → Pv pg (i + r) (sc pg r i q w).2.1 (sc pg r i q w).2.2
  | 0, i, q, w, h, _ => h
  | r + 1, i, q, w, h, he => by
    cases hs : stp (pg i) q w with
    | none => rw [sc_none hs] at he; dsimp only at he; omega
    | some x =>
      rw [sc_some hs] at he ⊢
      have := Pv_sc (r := r) (Pv_s h hs) (by rw [he]; omega)
      rw [show i + (r + 1) = i + 1 + r by omega]
      exact this
theorem dk_le (c : Nat) : dk c ≤ 3 := by
  unfold dk; repeat' split
  all_goals omega
theorem ln_2 {c : Nat} : ln c = 2 ↔ (c = 99 ∨ c = 116) := by
  unfold ln; split
  · simp_all
  · simp_all
theorem ln_12 (c : Nat) : ln c = 1 ∨ ln c = 2 := by
  unfold ln; split <;> simp
theorem c_hasInches {c : Nat} (h : c ≤ 255) (σ : Hp) : F_X2_hasInches (nI c) σ = decide (c = 99 ∨ c = 116) := by
  unfold F_X2_hasInches
  rw [li99, show (116 : Int32) = nI 116 by decide +kernel]
  simp (disch := omega) only [nI_eq]
  by_cases h1 : c = 99 <;> by_cases h2 : c = 116 <;> simp [h1, h2]
theorem c_isWhole {c : Nat} (h : c ≤ 255) (σ : Hp) : F_X2_isWholeDay (nI c) σ = decide (c = 115 ∨ c = 119) := by
  unfold F_X2_isWholeDay
  rw [show (115 : Int32) = nI 115 by decide +kernel, show (119 : Int32) = nI 119 by decide +kernel]
  simp (disch := omega) only [nI_eq]
  by_cases h1 : c = 115 <;> by_cases h2 : c = 119 <;> simp [h1, h2]
section PARSE
variable {σ : Hp} {m : Tw} {kp : Option Tw} {pg : Nat → Nat} {pn ld lk : Nat}
theorem c_fw (hp : pn ≤ 24) (h1 : σ.1 39 1 = nI pn) (h2 : ∀ i, i < pn → σ.1 40 i = nI (pg i)) (h3 : ∀ i, i < pn → pg i ≤ 255) : ∀ r i q n (w : Bool), i + r = pn → r < n → q ≤ 12 → (w = true → q < 12) → F_X2_firstWrong_6 σ n (nI (q + if w = true then 1 else 0)) w (nI i) = some (nI (sc pg r i q w).1) := by
  intro r
  induction r with
  | zero =>
    intro i q n w hi hn hq hw
    obtain ⟨n, rfl⟩ : ∃ k, n = k + 1 := ⟨n - 1, by omega⟩
    have : i = pn := by omega
    subst this
    rw [F_X2_firstWrong_6, h1, if_pos (nle.mp (fun z => by have := (nI_ltI (by omega) (by omega)).mp z; omega))]
    rfl
  | succ r ih =>
    intro i q n w hi hn hq hw
    obtain ⟨n, rfl⟩ : ∃ k, n = k + 1 := ⟨n - 1, by omega⟩
    have hc := h3 i (by omega)
    rw [F_X2_firstWrong_6, h1, if_neg (le_no (by omega) (by omega) (by omega)), inb_t (by omega) (by omega), if_pos rfl, cl_nI (by omega), lt_p, h2 i (by omega), c_hasInches hc, c_isWhole hc]
    unfold F_X2_firstWrong_71 F_X2_firstWrong_80
    rw [c_hasInches hc, show (49 : Int32) = nI 49 by decide +kernel, show (57 : Int32) = nI 57 by decide +kernel, li12, nI_1, nI_1]
    simp (disch := omega) only [nI_ltI, nI_leI]
    cases w with
    | true =>
      rw [if_pos rfl, if_pos rfl]
      by_cases g1 : pg i < 49
      · rw [if_pos g1, sc_none (by unfold stp; rw [if_pos rfl, if_neg (by omega)])]
      · rw [if_neg g1]
        by_cases g2 : pg i ≤ 57
        · rw [if_pos g2, sc_some (x := (q + 1, false)) (by unfold stp; rw [if_pos rfl, if_pos ⟨by omega, g2⟩])]
          exact ih (i + 1) (q + 1) n false (by omega) (by omega) (by have := hw rfl; omega) (fun z => (by cases z))
        · rw [if_neg g2, sc_none (by unfold stp; rw [if_pos rfl, if_neg (by omega)])]
    | false =>
      rw [if_neg (show ¬ (false = true) by decide), show (q + if false = true then 1 else 0) = q from rfl]
      simp (disch := omega) only [nI_eq]
      by_cases g0 : q = 12
      · rw [if_pos g0, sc_none (by unfold stp; rw [if_neg (by decide), if_pos g0])]
      · rw [if_neg g0]
        by_cases g1 : pg i = 99 ∨ pg i = 116
        · rw [if_pos (by simpa using g1), sc_some (x := (q, true)) (by unfold stp; rw [if_neg (by decide), if_neg g0, if_pos g1]), show decide (pg i = 99 ∨ pg i = 116) = true by simpa using g1]
          exact ih (i + 1) q n true (by omega) (by omega) hq (fun _ => by omega)
        · rw [if_neg (by simpa using g1)]
          by_cases g2 : pg i = 115 ∨ pg i = 119
          · rw [if_pos (by simpa using g2), sc_some (x := (q + 1, false)) (by unfold stp; rw [if_neg (by decide), if_neg g0, if_neg g1, if_pos g2]), show decide (pg i = 99 ∨ pg i = 116) = false by simpa using g1]
            exact ih (i + 1) (q + 1) n false (by omega) (by omega) (by omega) (fun z => (by cases z))
          · rw [if_neg (by simpa using g2), sc_none (by unfold stp; rw [if_neg (by decide), if_neg g0, if_neg g1, if_neg g2])]
def S0 (pg : Nat → Nat) (pn : Nat) : Nat × Nat × Bool := sc pg pn 0 0 false
def faA (pg : Nat → Nat) (pn : Nat) : Int32 := nI (S0 pg pn).1
def idB (pg : Nat → Nat) (pn : Nat) : Bool := decide ((S0 pg pn).1 = pn ∧ (S0 pg pn).2.2 = false ∧ 0 < (S0 pg pn).2.1)
theorem idB_t {pg : Nat → Nat} {pn : Nat} : idB pg pn = true ↔ ((S0 pg pn).1 = pn ∧ (S0 pg pn).2.2 = false ∧ 0 < (S0 pg pn).2.1) := by unfold idB; exact decide_eq_true_iff
def dq (pg : Nat → Nat) (pn : Nat) : Nat := (S0 pg pn).2.1
theorem S0_P (h : (S0 pg pn).1 = pn) : Pv pg pn (S0 pg pn).2.1 (S0 pg pn).2.2 := by
  have := Pv_sc (r := pn) (Pv_0 pg) (by unfold S0 at h; omega)
  rw [Nat.zero_add] at this
  exact this
theorem idB_P (h : idB pg pn = true) : Pv pg pn (dq pg pn) false := by
  have h := idB_t.mp h
  have := S0_P h.1
  rw [h.2.1] at this
  exact this
theorem c_firstWrong (hw : WfG m kp pg pn ld) (hr : RC σ m kp pg pn ld) : F_X2_firstWrong σ = some (faA pg pn) := by
  unfold F_X2_firstWrong
  exact c_fw hw.2.2.1 hr.2.2.2.2.1 hr.2.2.2.2.2.1 hw.2.2.2.1 pn 0 0 fuel false (by omega) (by have := fuel_ge; have := hw.2.2.1; omega) (by omega) (fun z => (by cases z))
theorem c_fault (hw : WfG m kp pg pn ld) (hr : RC σ m kp pg pn ld) : F_X6_fault σ = some (faA pg pn) := by
  unfold F_X6_fault
  rw [c_firstWrong hw hr]; rfl
theorem c_isDays (hw : WfG m kp pg pn ld) (hr : RC σ m kp pg pn ld) : F_X2_isDays σ = some (idB pg pn) := by
  have hp := hw.2.2.1
  have hsl := sc_le pg pn 0 0 false
  have hs1 : (S0 pg pn).1 ≤ pn := by unfold S0; omega
  unfold F_X2_isDays
  rw [c_firstWrong hw hr, hr.2.2.2.2.1, Option.bind_some]
  by_cases h0 : pn = 0
  · subst h0
    rw [if_pos (by decide +kernel)]
    rfl
  · rw [if_neg (show ¬ nI pn ≤ 0 from le_no (b := 0) (by omega) (by omega) (by omega))]
    unfold faA
    by_cases h1 : (S0 pg pn).1 = pn
    · rw [h1, if_pos rfl, li1, pk_sub (by omega), inb_t (by omega) (by omega), cl_nI (by omega), if_pos rfl, hr.2.2.2.2.2.1 _ (by omega), c_hasInches (hw.2.2.2.1 _ (by omega))]
      obtain ⟨g1, g2, g3, g4, g5⟩ := S0_P h1
      cases hwt : (S0 pg pn).2.2 with
      | true =>
        rw [hwt] at g3
        obtain ⟨k1, k2, -⟩ := g3 rfl
        rw [show pn - 1 = ps pg (S0 pg pn).2.1 by omega]
        have : idB pg pn = false := by unfold idB; simp [hwt]
        rw [if_pos (by simpa using ln_2.mp k2), this]
      | false =>
        rw [hwt] at g5
        obtain ⟨k1, k2, k3⟩ := (g5 rfl).resolve_left (fun z => h0 z.1)
        have : idB pg pn = true := idB_t.mpr ⟨h1, hwt, k2⟩
        rw [if_neg (by rw [decide_eq_true_eq]; exact fun z => by have := ln_2.mpr z; omega), this]
    · rw [if_neg (fun z => h1 ((nI_eq (by omega) (by omega)).mp z))]
      have : idB pg pn = false := by unfold idB; simp [h1]
      rw [this]
end PARSE
