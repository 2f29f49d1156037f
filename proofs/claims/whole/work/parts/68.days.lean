/-! days, needed, bears -/
theorem dI_le {pg : Nat → Nat} {pn q : Nat} {w : Bool} (h : Pv pg pn q w) {j : Nat} (hj : j < q) : dI pg j ≤ 9 := (h.2.2.2.1 j hj).2.1
theorem ps_lt {pg : Nat → Nat} {pn q : Nat} {w : Bool} (h : Pv pg pn q w) {j : Nat} (hj : j < q) : ps pg j < pn := by
  have h1 : ps pg j + ln (pg (ps pg j)) ≤ pn := (h.2.2.2.1 j hj).1
  have := ln_12 (pg (ps pg j))
  omega
/-- the letters that begin a day -/
def bgs (c : Nat) : Prop := (c = 99 ∨ c = 116) ∨ (c = 115 ∨ c = 119)
def Pb (pg : Nat → Nat) (q : Nat) (w : Bool) : Prop := ∀ j, j < q + (if w = true then 1 else 0) → bgs (pg (ps pg j))
theorem Pb_s {pg : Nat → Nat} {i q : Nat} {w : Bool} {x : Nat × Bool} (h : Pv pg i q w) (hb : Pb pg q w) (hs : stp (pg i) q w = some x) : Pb pg x.1 x.2 := by
  unfold stp at hs
  cases w with
  | true =>
    rw [if_pos rfl] at hs
    by_cases hc : 49 ≤ pg i ∧ pg i ≤ 57
    · rw [if_pos hc] at hs
      cases hs
      exact fun j hj => hb j hj
    · rw [if_neg hc] at hs; cases hs
  | false =>
    rw [if_neg (by decide)] at hs
    have g := h.2.1 rfl
    by_cases h12 : q = 12
    · rw [if_pos h12] at hs; cases hs
    · rw [if_neg h12] at hs
      by_cases hc : pg i = 99 ∨ pg i = 116
      · rw [if_pos hc] at hs
        cases hs
        intro j hj
        dsimp only at hj
        rw [if_pos rfl] at hj
        by_cases ej : j = q
        · rw [ej, g]; exact Or.inl hc
        · exact hb j (by rw [if_neg (by decide)]; omega)
      · rw [if_neg hc] at hs
        by_cases hd : pg i = 115 ∨ pg i = 119
        · rw [if_pos hd] at hs
          cases hs
          intro j hj
          dsimp only at hj
          rw [if_neg (by decide)] at hj
          by_cases ej : j = q
          · rw [ej, g]; exact Or.inr hd
          · exact hb j (by rw [if_neg (by decide)]; omega)
        · rw [if_neg hd] at hs; cases hs
theorem Pb_sc {pg : Nat → Nat} : ∀ {r i q : Nat} {w : Bool}, Pv pg i q w → Pb pg q w → Pb pg (sc pg r i q w).2.1 (sc pg r i q w).2.2
  | 0, i, q, w, _, hb => hb
  | r + 1, i, q, w, h, hb => by
    cases hs : stp (pg i) q w with
    | none => rw [sc_none hs]; exact hb
    | some x =>
      rw [sc_some hs]
      exact Pb_sc (r := r) (Pv_s h hs) (Pb_s h hb hs)
theorem idB_b {pg : Nat → Nat} {pn : Nat} : Pb pg (dq pg pn) false := by
  have h : Pb pg (S0 pg pn).2.1 (S0 pg pn).2.2 := Pb_sc (r := pn) (Pv_0 pg) (fun j hj => absurd hj (by rw [if_neg (by decide)]; omega))
  exact fun j hj => h j (by rw [if_neg (by decide)] at hj; unfold dq at hj; omega)
theorem c_begins {h : Hp} {pg : Nat → Nat} {pn i : Nat} (hp : pn ≤ 24) (h2 : ∀ i, i < pn → h.1 40 i = nI (pg i)) (h3 : ∀ i, i < pn → pg i ≤ 255) (hi : i < pn) : (bgs (pg i) → F_X2_beginsDay (nI i) h = some true) ∧ (¬ bgs (pg i) → F_X2_beginsDay (nI i) h = some false) := by
  unfold F_X2_beginsDay bgs
  rw [inb_t (by omega) (by omega), if_pos rfl, if_pos rfl, cl_nI (by omega), h2 _ hi, c_hasInches (h3 _ hi), c_isWhole (h3 _ hi)]
  by_cases g1 : pg i = 99 ∨ pg i = 116
  · rw [if_pos (decide_eq_true g1)]
    exact ⟨fun _ => rfl, fun z => absurd (Or.inl g1) z⟩
  · rw [if_neg (by rw [decide_eq_true_eq]; exact g1)]
    by_cases g2 : pg i = 115 ∨ pg i = 119
    · rw [if_pos (decide_eq_true g2)]
      exact ⟨fun _ => rfl, fun z => absurd (Or.inr g2) z⟩
    · rw [if_neg (by rw [decide_eq_true_eq]; exact g2)]
      exact ⟨fun z => z.elim (fun z => absurd z g1) (fun z => absurd z g2), fun _ => rfl⟩
theorem c_begT {h : Hp} {pg : Nat → Nat} {pn q j : Nat} {w : Bool} (hp : pn ≤ 24) (h2 : ∀ i, i < pn → h.1 40 i = nI (pg i)) (h3 : ∀ i, i < pn → pg i ≤ 255) (hP : Pv pg pn q w) (hB : Pb pg q false) (hj : j < q) : F_X2_beginsDay (nI (ps pg j)) h = some true :=
  (c_begins hp h2 h3 (ps_lt hP hj)).1 (hB j (by rw [if_neg (by decide)]; omega))
theorem ps2_lt {pg : Nat → Nat} {pn q : Nat} {w : Bool} (h : Pv pg pn q w) {j : Nat} (hj : j < q) (e : ln (pg (ps pg j)) = 2) : ps pg j + 1 < pn := by
  have h1 : ps pg j + ln (pg (ps pg j)) ≤ pn := (h.2.2.2.1 j hj).1
  omega
theorem c_begF {h : Hp} {pg : Nat → Nat} {pn q j : Nat} {w : Bool} (hp : pn ≤ 24) (h2 : ∀ i, i < pn → h.1 40 i = nI (pg i)) (h3 : ∀ i, i < pn → pg i ≤ 255) (hP : Pv pg pn q w) (hj : j < q) (e : ln (pg (ps pg j)) = 2) : F_X2_beginsDay (nI (ps pg j + 1)) h = some false := by
  refine (c_begins hp h2 h3 (ps2_lt hP hj e)).2 (fun z => ?_)
  have h4 := (hP.2.2.2.1 j hj).2.1
  unfold dI at h4
  rw [if_pos e] at h4
  unfold bgs at z
  omega
/-- a loop that takes one turn or two for each thing -/
theorem lpJ {X R : Type} (F : Nat → X → Option R) (N : Nat) (I : Nat → X → Prop) (P : Option R → Prop) (hexit : ∀ n x, I N x → P (F (n + 1) x)) (hstep : ∀ n d x, d < N → I d x → ∃ x', I (d + 1) x' ∧ (F (n + 1 + 1) x = F (n + 1) x' ∨ F (n + 1 + 1) x = F n x')) : ∀ r d n x, d + r = N → 2 * r < n → I d x → P (F n x) := by
  intro r
  induction r with
  | zero =>
    intro d n x hd hn hI
    obtain ⟨n, rfl⟩ : ∃ k, n = k + 1 := ⟨n - 1, by omega⟩
    have : d = N := by omega
    subst this
    exact hexit n x hI
  | succ r ih =>
    intro d n x hd hn hI
    obtain ⟨n, rfl⟩ : ∃ k, n = k + 1 + 1 := ⟨n - 2, by omega⟩
    obtain ⟨x', hI', e | e⟩ := hstep n d x (by omega) hI
    · rw [e]; exact ih (d + 1) (n + 1) x' (by omega) (by omega) hI'
    · rw [e]; exact ih (d + 1) n x' (by omega) (by omega) hI'
theorem c_dayAt {h : Hp} {pg : Nat → Nat} {pn q j : Nat} {w : Bool} (hp : pn ≤ 24) (h2 : ∀ i, i < pn → h.1 40 i = nI (pg i)) (h3 : ∀ i, i < pn → pg i ≤ 255) (hP : Pv pg pn q w) (hj : j < q) : F_X2_dayAt (nI (ps pg j)) h = some (nI (dK pg j)) := by
  have hl := ps_lt hP hj
  have hc := h3 _ hl
  unfold F_X2_dayAt dK dk
  rw [inb_t (by omega) (by omega), if_pos rfl, cl_nI (by omega), h2 _ hl, li99, show (116 : Int32) = nI 116 by decide +kernel, show (115 : Int32) = nI 115 by decide +kernel]
  simp (disch := omega) only [nI_eq]
  by_cases e1 : pg (ps pg j) = 99
  · simp [e1]; rfl
  · by_cases e2 : pg (ps pg j) = 115
    · simp [e2]; rfl
    · by_cases e3 : pg (ps pg j) = 116
      · simp [e3]; rfl
      · simp [e1, e2, e3]; rfl
theorem c_inchesAt {h : Hp} {pg : Nat → Nat} {pn q j : Nat} {w : Bool} (hp : pn ≤ 24) (h1 : h.1 39 1 = nI pn) (h2 : ∀ i, i < pn → h.1 40 i = nI (pg i)) (h3 : ∀ i, i < pn → pg i ≤ 255) (hP : Pv pg pn q w) (hj : j < q) : F_X2_inchesAt (nI (ps pg j)) h = some (nI (dI pg j)) := by
  have hl := ps_lt hP hj
  have hl2 : ps pg j + ln (pg (ps pg j)) ≤ pn := (hP.2.2.2.1 j hj).1
  unfold F_X2_inchesAt dI
  rw [inb_t (by omega) (by omega), if_pos rfl, cl_nI (by omega), h2 _ hl, c_hasInches (h3 _ hl), nI_1, h1]
  by_cases e : ln (pg (ps pg j)) = 2
  · rw [if_pos (decide_eq_true (ln_2.mp e)), if_pos e, if_neg (le_no (by omega) (by omega) (by omega)), inb_t (by omega) (by omega), if_pos rfl, cl_nI (by omega), h2 _ (by omega), show (48 : Int32) = nI 48 by decide +kernel, pk_sub ((hP.2.2.2.1 j hj).2.2 e)]
  · rw [if_neg (by rw [decide_eq_true_eq]; exact fun z => e (ln_2.mpr z)), if_neg e]; rfl

section DAYS
variable {σ : Hp} {m : Tw} {kp : Option Tw} {pg : Nat → Nat} {pn ld lk : Nat}
/-- the town with another number of days -/
def dgs (m : Tw) (n : Nat) : Tw := fun f x => if f = 9 ∧ x = 3 then n else m f x
theorem dgs_f {m : Tw} {n f x : Nat} (h : f ≠ 9) : dgs m n f x = m f x := by
  unfold dgs; rw [if_neg (fun z => h z.1)]
theorem dgs_x {m : Tw} {n f x : Nat} (h : x ≠ 3) : dgs m n f x = m f x := by
  unfold dgs; rw [if_neg (fun z => h z.2)]
theorem dgs_3 {m : Tw} {n : Nat} : dgs m n 9 3 = n := by
  unfold dgs; rw [if_pos ⟨rfl, rfl⟩]
theorem dgs_dgs (m : Tw) (a b : Nat) : dgs (dgs m a) b = dgs m b := by
  funext f x
  unfold dgs
  by_cases h : f = 9 ∧ x = 3
  · rw [if_pos h, if_pos h]
  · rw [if_neg h, if_neg h, if_neg h]
theorem dgs_self (m : Tw) : dgs m (m 9 3) = m := by
  funext f x
  unfold dgs
  by_cases h : f = 9 ∧ x = 3
  · rw [if_pos h, h.1, h.2]
  · rw [if_neg h]
theorem dyC_dgs (m : Tw) (n i d : Nat) : dyC (dgs m n) i d = dyC m i d := by
  unfold dyC
  rw [dgs_f (f := 1) (by omega), dgs_f (f := 2) (by omega), dgs_f (f := 0) (by omega), dgs_f (f := 6) (by omega)]
theorem dyM_dgs (m : Tw) (n k i : Nat) : dyM (dgs m n) k i = dgs (dyM m k i) n := by
  funext f x
  unfold dyM
  rw [dyC_dgs, dgs_f (f := 0) (by omega), dgs_f (f := 6) (by omega), dgs_f (f := 7) (by omega), dgs_x (x := 2) (by omega)]
  unfold dgs
  by_cases h : f = 9 ∧ x = 3
  · obtain ⟨rfl, rfl⟩ := h
    simp
  · simp only [h, if_false]
theorem goI_dgs (m : Tw) (n k i : Nat) : goI (dgs m n) k i = goI m k i := by
  unfold goI
  rw [dgs_x (x := 4) (by omega)]
  by_cases h : k = 1
  · rw [if_pos h, if_pos h]
    apply sumI_congr
    intro d _
    rw [dyC_dgs, dgs_f (f := 7) (by omega)]
  · rw [if_neg h, if_neg h]
/-- the town after j days of the page -/
def dyN (m : Tw) (pg : Nat → Nat) : Nat → Tw
  | 0 => m
  | j + 1 => dyM (dyN m pg j) (dK pg j) (dI pg j)
theorem w_dyN (hw : Wf m) : ∀ j, Wf (dyN m pg j)
  | 0 => hw
  | j + 1 => w_day (w_dyN hw j) _ _
theorem dyN_9 (m : Tw) (pg : Nat → Nat) {x : Nat} (h : x ≠ 2) : ∀ j, dyN m pg j 9 x = m 9 x
  | 0 => rfl
  | j + 1 => by
    show dyM _ _ _ 9 x = _
    rw [dyM_9 _ _ _ h]
    exact dyN_9 m pg h j
theorem Wf_dgs (hw : Wf m) (n : Nat) : Wf (dgs m n) := by
  obtain ⟨h1, h2, h3, h4, h5⟩ := hw
  refine ⟨?_, ?_, ?_, fun c hc => ?_, fun d hd => ?_⟩
  · rw [dgs_x (x := 0) (by omega), dgs_x (x := 1) (by omega)]; exact h1
  · rw [dgs_x (x := 2) (by omega)]; exact h2
  · rw [dgs_x (x := 4) (by omega)]; exact h3
  · rw [dgs_x (x := 1) (by omega)] at hc
    rw [dgs_f (by omega)]; exact h4 c hc
  · rw [dgs_x (x := 4) (by omega)] at hd
    have := h5 d hd
    unfold Wfd at this ⊢
    rw [dgs_x (x := 1) (by omega), dgs_f (f := 1) (by omega), dgs_f (f := 2) (by omega), dgs_f (f := 3) (by omega), dgs_f (f := 4) (by omega), dgs_f (f := 5) (by omega), dgs_f (f := 6) (by omega), dgs_f (f := 7) (by omega), dgs_f (f := 8) (by omega)]
    exact this
theorem RCt_dgs {h : Hp} (hr : RCt h 0 m) (n : Nat) (hn : m 9 4 ≤ 10) : RCt (up h 30 3 (nI n)) 0 (dgs m n) := by
  obtain ⟨h1, h2, h3⟩ := hr
  refine ⟨fun k hk => ?_, fun c hc => ?_, fun d hd => ?_⟩
  · show (up h 30 3 (nI n)).1 30 k = _
    by_cases e : k = 3
    · subst e; rw [up_s, dgs_3]
    · rw [up_k e, dgs_x e]; exact h1 k hk
  · rw [dgs_x (x := 1) (by omega)] at hc
    rw [up_c (by omega), dgs_f (by omega)]; exact h2 c hc
  · rw [dgs_x (x := 4) (by omega)] at hd
    have := h3 d hd
    unfold RCd at this ⊢
    rw [up_off (by omega), dgs_f (f := 1) (by omega), dgs_f (f := 2) (by omega), dgs_f (f := 3) (by omega), dgs_f (f := 4) (by omega), dgs_f (f := 5) (by omega), dgs_f (f := 6) (by omega), dgs_f (f := 7) (by omega), dgs_f (f := 8) (by omega)]
    exact this
/-- days() -/
def dsA (m : Tw) (pg : Nat → Nat) (pn : Nat) : Int32 := if idB pg pn = true then sumI (fun j => goI (dyN m pg j) (dK pg j) (dI pg j)) (dq pg pn) else -103
def dsN (m : Tw) (pg : Nat → Nat) (pn : Nat) : Tw := dgs (dyN m pg (dq pg pn)) (m 9 3 + dq pg pn)
theorem c_days (hw : WfG m kp pg pn ld) (hr : RC σ m kp pg pn ld) : ∃ τ, F_X6_days σ = some (dsA m pg pn, τ) ∧ (idB pg pn = true → RC τ (dsN m pg pn) kp pg 0 ld) ∧ (idB pg pn = false → τ = σ) ∧ FrC σ τ := by
  have hp := hw.2.2.1
  unfold F_X6_days dsA
  rw [c_isDays hw hr, Option.bind_some]
  cases hb : idB pg pn with
  | false =>
    rw [if_neg (by decide), if_neg (by decide)]
    exact ⟨σ, rfl, fun z => (by cases z), fun _ => rfl, FrC.rf⟩
  | true =>
    have hP := idB_P hb
    have hq := hP.1
    rw [if_pos rfl, if_pos rfl]
    have hB := idB_b (pg := pg) (pn := pn)
    have h := lpJ (fun n (x : Int32 × Int32 × Hp) => F_X6_days_17 n x.1 x.2.1 x.2.2) (dq pg pn) (fun j x => x.1 = sumI (fun j => goI (dyN m pg j) (dK pg j) (dI pg j)) j ∧ x.2.1 = nI (ps pg j) ∧ RCt x.2.2 0 (dgs (dyN m pg j) (m 9 3 + j)) ∧ (∀ c, ¬ (c = 30 ∨ c = 33 ∨ c < 10) → x.2.2.1 c = σ.1 c) ∧ x.2.2.2 = σ.2) (fun o => ∃ τ, o = some (sumI (fun j => goI (dyN m pg j) (dK pg j) (dI pg j)) (dq pg pn), τ) ∧ RCt τ 0 (dsN m pg pn) ∧ τ.1 39 1 = nI 0 ∧ (∀ c, ¬ (c = 30 ∨ c = 33 ∨ c < 10 ∨ c = 39) → τ.1 c = σ.1 c) ∧ τ.2 = σ.2) ?_ ?_ (dq pg pn) 0 fuel (0, nI 0, σ) (by omega) (by have := fuel_ge; omega) ⟨rfl, rfl, by show RCt σ 0 (dgs m (m 9 3)); rw [dgs_self]; exact hr.1, fun _ _ => rfl, rfl⟩
    · obtain ⟨τ, t1, t2, t3, t4, t5⟩ := h
      refine ⟨τ, t1, fun _ => ⟨t2, by rw [t4 54 (by omega)]; exact hr.2.1, fun k hk => (hr.2.2.1 k hk).keep (hw.kn k hk) (fun c hc => t4 c (by omega)), by rw [t4 54 (by omega)]; exact hr.2.2.2.1, t3, fun i hi => absurd hi (by omega), by rw [t4 52 (by omega)]; exact hr.2.2.2.2.2.2.1, by rw [t4 53 (by omega)]; exact hr.2.2.2.2.2.2.2⟩, fun z => (by cases z), ⟨fun c hc => t4 c (by omega), t5⟩⟩
    · rintro n ⟨x1, x2, h⟩ ⟨i1, i2, i3, i4, i5⟩
      dsimp only at i1 i2 i3 i4 i5 ⊢
      subst i1; subst i2
      rw [F_X6_days_17, i4 39 (by omega), hr.2.2.2.2.1, hP.2.1 rfl, if_pos (nle.mp (fun z => by have := (nI_ltI (by omega) (by omega)).mp z; omega)), lt_p]
      exact ⟨_, rfl, i3.keep (Wf_dgs (w_dyN hw.1 _) _).nd (fun c hc => up_off (by omega)), up_s, fun c hc => by rw [up_off (by omega)]; exact i4 c (by omega), i5⟩
    · rintro n j ⟨x1, x2, h⟩ hj ⟨i1, i2, i3, i4, i5⟩
      dsimp only at i1 i2 i3 i4 i5 ⊢
      subst i1; subst i2
      have hl := ps_lt hP hj
      have wj := w_dyN (pg := pg) hw.1 j
      have e39 : h.1 39 1 = nI pn := by rw [i4 39 (by omega)]; exact hr.2.2.2.2.1
      have e40 : ∀ i, i < pn → h.1 40 i = nI (pg i) := fun i hi => by rw [i4 40 (by omega)]; exact hr.2.2.2.2.2.1 i hi
      rw [F_X6_days_17, e39, if_neg (le_no (by omega) (by omega) hl), c_begT hp e40 hw.2.2.2.1 hP hB hj, Option.bind_some, if_pos rfl, c_dayAt hp e40 hw.2.2.2.1 hP hj, Option.bind_some, c_inchesAt hp e39 e40 hw.2.2.2.1 hP hj, Option.bind_some]
      obtain ⟨τ, t1, t2, t3, t4⟩ := c_passDay (t := 0) (by omega) (dk_le _) (dI_le hP hj) (Wf_dgs wj _) i3
      have t1' : F_X5_passDay 0 (nI (dK pg j)) (nI (dI pg j)) h = _ := t1
      rw [t1', Option.bind_some, lt_p, lt_p]
      dsimp only
      rw [goI_dgs]
      rw [show dyM (dgs (dyN m pg j) (m 9 3 + j)) (dk (pg (ps pg j))) (dI pg j) = dgs (dyN m pg (j + 1)) (m 9 3 + j) by rw [dyM_dgs]; rfl] at t2
      have e3 : τ.1 30 3 = nI (m 9 3 + j) := by have := t2.1 3 (by omega); rw [dgs_3] at this; exact this
      unfold F_X6_days_78
      rw [e3, show nI (m 9 3 + j) + 1 = nI (m 9 3 + j + 1) from nI_1 _, show nI (ps pg j) + 1 = nI (ps pg j + 1) from nI_1 _]
      have r2 := RCt_dgs t2 (m 9 3 + j + 1) (Wf_dgs (w_dyN hw.1 _) _).nd
      rw [dgs_dgs] at r2
      have fr : ∀ c, ¬ (c = 30 ∨ c = 33 ∨ c < 10) → (up τ 30 3 (nI (m 9 3 + j + 1))).1 c = σ.1 c := fun c hc => by rw [up_off (by omega), t3 c (by omega)]; exact i4 c hc
      rcases ln_12 (pg (ps pg j)) with e | e
      · exact ⟨(_, nI (ps pg j + 1), _), ⟨rfl, by show _ = nI (ps pg j + ln (pg (ps pg j))); rw [e], r2, fr, t4.trans i5⟩, Or.inl rfl⟩
      · refine ⟨(_, nI (ps pg j + 1 + 1), _), ⟨rfl, by show _ = nI (ps pg j + ln (pg (ps pg j))); rw [e], r2, fr, t4.trans i5⟩, Or.inr ?_⟩
        dsimp only
        rw [F_X6_days_17, fr 39 (by omega), hr.2.2.2.2.1, if_neg (le_no (by omega) (by omega) (ps2_lt hP hj e)), c_begF hp (fun i hi => by rw [fr 40 (by omega)]; exact hr.2.2.2.2.2.1 i hi) hw.2.2.2.1 hP hj e, Option.bind_some, if_neg (by decide)]
        unfold F_X6_days_78
        rw [show nI (ps pg j + 1) + 1 = nI (ps pg j + 1 + 1) from nI_1 _]
        rfl
theorem stI_day (m : Tw) (k i : Nat) : stI m = stI (dyM m k i) + goI m k i := by
  unfold stI goI
  rw [dyM_9 m k i (by omega)]
  by_cases h : k = 1
  · rw [if_pos h, ← sumI_add]
    apply sumI_congr
    intro d _
    have e7 : dyM m k i 7 d = if k = 1 ∧ m 7 d = 1 ∧ dyC m i d = 0 then 0 else m 7 d := by simp [dyM]
    rw [e7]
    by_cases g1 : m 7 d = 1
    · by_cases g2 : dyC m i d = 0
      · simp [h, g1, g2, b2i]
      · simp [h, g1, g2, b2i]
    · simp [g1, b2i]
  · rw [if_neg h]
    have : sumI (fun d => b2i (decide (dyM m k i 7 d ≠ 0))) (m 9 4) = sumI (fun d => b2i (decide (m 7 d ≠ 0))) (m 9 4) := by
      apply sumI_congr
      intro d _
      simp [dyM, h]
    rw [this]; simp
theorem stI_days (m : Tw) (pg : Nat → Nat) : ∀ q, stI m = stI (dyN m pg q) + sumI (fun j => goI (dyN m pg j) (dK pg j) (dI pg j)) q
  | 0 => by show stI m = stI m + 0; simp
  | q + 1 => by
    rw [stI_days m pg q, stI_day (dyN m pg q) (dK pg q) (dI pg q)]
    show stI (dyN m pg (q + 1)) + _ + _ = stI (dyN m pg (q + 1)) + (sumI _ q + _)
    rw [Int32.add_assoc, Int32.add_comm (goI _ _ _)]
theorem i32_subl (a b : Int32) : a + b - a = b := by
  rw [Int32.add_comm, Int32.add_sub_cancel]
theorem r_days (hw : WfG m kp pg pn ld) (hr : RM σ m kp pg pn ld lk) : ∃ τ, F_X7_days σ = some (dsA m pg pn, τ) ∧ (idB pg pn = true → RM τ (dsN m pg pn) kp pg 0 ld lk) ∧ (idB pg pn = false → RM τ m kp pg pn ld lk) ∧ FrM σ τ := by
  have hp := hw.2.2.1
  unfold F_X7_days dsA
  obtain ⟨υ, u1, u2, u3⟩ := r_areDays hw hr
  rw [u1, Option.bind_some]
  dsimp only
  cases hb : idB pg pn with
  | false =>
    rw [if_neg (by decide), if_neg (by decide)]
    exact ⟨υ, rfl, fun z => (by cases z), fun _ => u2.RM hr, u2.M⟩
  | true =>
    have hP := idB_P hb
    have hq := hP.1
    obtain ⟨b1, b2, -⟩ := u3 hb
    have hru := u2.RM hr
    rw [if_pos rfl, if_pos rfl, r_thereMany hw.1 hru.1, Option.bind_some]
    have h := lpI (fun n (x : Int32 × Hp) => F_X7_days_17 n (stI m) x.1 x.2) (dq pg pn) (fun j x => x.1 = nI j ∧ RMc x.2 (dyN m pg j) ∧ (∀ c, c ≠ 56 → c ≠ 57 → c ≠ 58 → x.2.1 c = υ.1 c)) (fun o => ∃ τ, o = some (sumI (fun j => goI (dyN m pg j) (dK pg j) (dI pg j)) (dq pg pn), τ) ∧ RMc τ (dsN m pg pn) ∧ τ.1 55 9 = nI 0 ∧ (∀ c, c ≠ 55 → c ≠ 56 → c ≠ 57 → c ≠ 58 → τ.1 c = υ.1 c) ∧ (∀ k, k ≠ 5 → k ≠ 9 → τ.1 55 k = υ.1 55 k)) ?_ ?_ fuel 0 (nI 0, υ) (by omega) (by have := fuel_ge; omega) ⟨rfl, hru.1, fun _ _ _ _ => rfl⟩
    · obtain ⟨τ, t1, t2, t3, t4, t5⟩ := h
      refine ⟨τ, t1, fun _ => ⟨t2, by rw [t5 2 (by omega) (by omega)]; exact hru.2.1, fun z => by rw [t5 24 (by omega) (by omega)]; exact hru.2.2.1 z, fun k hk => ?_, t3, fun i hi => absurd hi (by omega), by rw [t5 14 (by omega) (by omega)]; exact hru.2.2.2.2.2.2⟩, fun z => (by cases z), u2.M.tr (fun c hc => t4 c (by omega) (by omega) (by omega) (by omega))⟩
      obtain ⟨a, b, c, d⟩ := hru.2.2.2.1 k hk
      exact ⟨by rw [t5 24 (by omega) (by omega)]; exact a, by rw [t5 25 (by omega) (by omega)]; exact b, by rw [t5 26 (by omega) (by omega)]; exact c, d.congr (t4 70 (by omega) (by omega) (by omega) (by omega)) (t4 71 (by omega) (by omega) (by omega) (by omega)) (t4 72 (by omega) (by omega) (by omega) (by omega))⟩
    · rintro n ⟨x1, h⟩ ⟨i1, i2, i3⟩
      dsimp only at i1 i2 i3 ⊢
      subst i1
      have e5 : h.1 55 5 = nI (m 9 3) := by rw [i2.2.2.1, dyN_9 m pg (by omega)]
      rw [F_X7_days_17, i3 55 (by omega) (by omega) (by omega), b1, if_pos (nle.mp (fun z => by have := (nI_ltI (by omega) (by omega)).mp z; omega)), lt_p, lt_p]
      have e5' : υ.1 55 5 = nI (m 9 3) := by rw [← i3 55 (by omega) (by omega) (by omega)]; exact e5
      rw [e5', nI_add]
      generalize hτ : up (up h 55 5 (nI (m 9 3 + dq pg pn))) 55 9 0 = τ
      have c1 : ∀ c, c ≠ 55 → τ.1 c = h.1 c := fun c hc => by rw [← hτ, up_off hc, up_off hc]
      have c2 : ∀ k, k ≠ 5 → k ≠ 9 → τ.1 55 k = h.1 55 k := fun k k5 k9 => by rw [← hτ, up_k k9, up_k k5]
      have c3 : τ.1 55 5 = nI (m 9 3 + dq pg pn) := by rw [← hτ, up_k (by omega), up_s]
      have c4 : τ.1 55 9 = nI 0 := by rw [← hτ, up_s]; rfl
      have hfin : RMc τ (dsN m pg pn) := by
        obtain ⟨⟨r, r1, r2, r3⟩, s1, s2, s3, s4, s5, s6⟩ := i2
        unfold dsN
        refine ⟨⟨r, r1, by rw [c2 0 (by omega) (by omega)]; exact r2, by rw [dgs_x (x := 1) (by omega), dgs_x (x := 0) (by omega)]; exact r3⟩, by rw [c2 1 (by omega) (by omega), dgs_x (x := 0) (by omega)]; exact s1, by rw [c3, dgs_3], by rw [c2 6 (by omega) (by omega), dgs_x (x := 4) (by omega)]; exact s3, fun c hc => ?_, fun c hc => ?_, fun d hd => ?_⟩
        · rw [dgs_x (x := 1) (by omega)] at hc
          rw [c1 56 (by omega), dgs_f (by omega)]; exact s4 c hc
        · rw [c1 57 (by omega), dgs_x (by omega)]; exact s5 c hc
        · rw [dgs_x (x := 4) (by omega)] at hd
          have := s6 d hd
          unfold RMd at this ⊢
          have ew : wo (dgs (dyN m pg (dq pg pn)) (m 9 3 + dq pg pn)) d = wo (dyN m pg (dq pg pn)) d := by
            unfold wo
            rw [dgs_f (f := 7) (by omega), dgs_f (f := 5) (by omega), dgs_f (f := 1) (by omega), dgs_f (f := 8) (by omega), dgs_f (f := 2) (by omega), dgs_f (f := 0) (by omega)]
          rw [ew, c1 58 (by omega), dgs_f (f := 1) (by omega), dgs_f (f := 2) (by omega), dgs_f (f := 3) (by omega), dgs_f (f := 4) (by omega), dgs_f (f := 5) (by omega), dgs_f (f := 6) (by omega), dgs_f (f := 7) (by omega)]
          exact this
      have est : stI (dsN m pg pn) = stI (dyN m pg (dq pg pn)) := by
        unfold stI dsN
        rw [dgs_x (x := 4) (by omega)]
        apply sumI_congr
        intro d _
        rw [dgs_f (by omega)]
      rw [r_thereMany (m := dsN m pg pn) (Wf_dgs (w_dyN hw.1 _) _) hfin, Option.bind_some, est, stI_days m pg (dq pg pn), i32_subl]
      exact ⟨τ, rfl, hfin, c4, fun c a0 a1 a2 a3 => by rw [c1 c a0]; exact i3 c a1 a2 a3, fun k a1 a2 => by rw [c2 k a1 a2, i3 55 (by omega) (by omega) (by omega)]⟩
    · rintro n j ⟨x1, h⟩ hj ⟨i1, i2, i3⟩
      dsimp only at i1 i2 i3 ⊢
      subst i1
      rw [F_X7_days_17, i3 55 (by omega) (by omega) (by omega), b1, if_neg (le_no (by omega) (by omega) hj), inb_t (by omega) (by omega), if_pos rfl, if_pos rfl, cl_nI (by omega), i3 60 (by omega) (by omega) (by omega), i3 61 (by omega) (by omega) (by omega), (b2 j hj).1, (b2 j hj).2]
      obtain ⟨τ, t1, t2, t3, t4⟩ := r_day (k := dK pg j) (i := dI pg j) (dk_le _) (dI_le hP hj) (w_dyN hw.1 j) i2
      rw [t1, Option.bind_some, nI_1]
      exact ⟨(_, _), ⟨rfl, t2, fun c a b d => by rw [t3 c a b d]; exact i3 c a b d⟩, rfl⟩
theorem w_days (hw : WfG m kp pg pn ld) : WfG (dsN m pg pn) kp pg 0 ld := by
  obtain ⟨h1, h2, h3, h4, h5⟩ := hw
  refine ⟨Wf_dgs (w_dyN h1 _) _, fun k hk => ?_, by omega, fun i hi => absurd hi (by omega), h5⟩
  obtain ⟨a, b, c⟩ := h2 k hk
  unfold dsN
  rw [dgs_x (x := 0) (by omega), dgs_x (x := 1) (by omega), dyN_9 m pg (by omega), dyN_9 m pg (by omega)]
  exact ⟨a, b, c⟩
end DAYS
