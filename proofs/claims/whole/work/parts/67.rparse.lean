/-! the reference reads the page -/
/-- what a reading of the page may change -/
def FrP (σ τ : Hp) : Prop := (∀ c, c ≠ 55 → c ≠ 60 → c ≠ 61 → τ.1 c = σ.1 c) ∧ ∀ k, k ≠ 10 → k ≠ 11 → τ.1 55 k = σ.1 55 k
theorem FrP.rf {σ : Hp} : FrP σ σ := ⟨fun _ _ _ _ => rfl, fun _ _ _ => rfl⟩
theorem FrP.tr {σ τ υ : Hp} (h : FrP σ τ) (g : FrP τ υ) : FrP σ υ := ⟨fun c a b d => (g.1 c a b d).trans (h.1 c a b d), fun k a b => (g.2 k a b).trans (h.2 k a b)⟩
theorem FrP.u55 {σ : Hp} {k : Nat} {v : Int32} (h : k = 10 ∨ k = 11) : FrP σ (up σ 55 k v) := ⟨fun c a _ _ => up_off a, fun k' a b => up_k (by omega)⟩
theorem FrP.u60 {σ : Hp} {k : Nat} {v : Int32} : FrP σ (up σ 60 k v) := ⟨fun c _ a _ => up_off a, fun k' a b => up_c (by omega)⟩
theorem FrP.u61 {σ : Hp} {k : Nat} {v : Int32} : FrP σ (up σ 61 k v) := ⟨fun c _ _ a => up_off a, fun k' a b => up_c (by omega)⟩
theorem FrP.M {σ τ : Hp} (h : FrP σ τ) : FrM σ τ := fun c hc => h.1 c (by omega) (by omega) (by omega)
section RPARSE
variable {σ : Hp} {m : Tw} {kp : Option Tw} {pg : Nat → Nat} {pn ld lk : Nat}
theorem FrP.RM {τ : Hp} (h : FrP σ τ) (hr : RM σ m kp pg pn ld lk) : RM τ m kp pg pn ld lk := by
  obtain ⟨k1, k2⟩ := hr
  refine ⟨k1.congr (h.2 0 (by omega) (by omega)) (h.2 1 (by omega) (by omega)) (h.2 5 (by omega) (by omega)) (h.2 6 (by omega) (by omega)) (h.1 56 (by omega) (by omega) (by omega)) (h.1 57 (by omega) (by omega) (by omega)) (h.1 58 (by omega) (by omega) (by omega)), ?_⟩
  exact RM'.keep (fun k hk => h.2 k (by omega) (by omega)) (fun c hc => h.1 c (by omega) (by omega) (by omega)) k2
/-- what the rows read hold -/
def Ar (pg : Nat → Nat) (h : Hp) (q : Nat) (w : Bool) : Prop := (∀ j, j < q → h.1 60 j = nI (dK pg j) ∧ h.1 61 j = nI (dI pg j)) ∧ (w = true → h.1 60 q = nI (dK pg q))
theorem r_dayOf {c : Nat} (h : c ≤ 255) (σ : Hp) : F_X7_dayOf (nI c) σ = if c = 99 ∨ c = 116 ∨ c = 115 ∨ c = 119 then nI (dk c) else -1 := by
  unfold F_X7_dayOf dk
  rw [li99, show (116 : Int32) = nI 116 by decide +kernel, show (115 : Int32) = nI 115 by decide +kernel, show (119 : Int32) = nI 119 by decide +kernel]
  simp (disch := omega) only [nI_eq]
  by_cases h1 : c = 99
  · simp [h1]; rfl
  · by_cases h2 : c = 116
    · simp [h2]; rfl
    · by_cases h3 : c = 115
      · simp [h3]; rfl
      · by_cases h4 : c = 119
        · simp [h4]; rfl
        · simp [h1, h2, h3, h4]
theorem wn_dec {c a b : Nat} (hc : c < 2 ^ 31) (ha : a < 2 ^ 31) (hb : b < 2 ^ 31) : wn (nI c) (nI a) (nI b) = decide (a ≤ c ∧ c ≤ b) := by
  unfold wn
  rw [decide_eq_decide, nI_leI ha hc, nI_leI hc hb]
theorem r_go {h : Hp} {i q : Nat} {w : Bool} (hP : Pv pg i q w) (hA : Ar pg h q w) (h10 : h.1 55 10 = nI q) (h11 : h.1 55 11 = b2i w) (hc : pg i ≤ 255) : ∃ τ, F_X7_go (nI (pg i)) h = some ((stp (pg i) q w).isSome, τ) ∧ FrP h τ ∧ ∀ x, stp (pg i) q w = some x → τ.1 55 10 = nI x.1 ∧ τ.1 55 11 = b2i x.2 ∧ Ar pg τ x.1 x.2 := by
  obtain ⟨p1, p2, p3, p4, p5⟩ := hP
  obtain ⟨a1, a2⟩ := hA
  unfold F_X7_go
  cases w with
  | true =>
    obtain ⟨g1, g2, g3⟩ := p3 rfl
    rw [h11, if_neg (by decide), h10, inb_t (by omega) (by omega), if_pos rfl, cl_nI (by omega), lt_p, lt_p, lt_p, up_c (by omega), h10, nI_1, show (49 : Int64) = (49 : Int32).toInt64 by decide, show (57 : Int64) = (57 : Int32).toInt64 by decide, r_in, show (49 : Int32) = nI 49 by decide +kernel, show (57 : Int32) = nI 57 by decide +kernel, wn_dec (by omega) (by omega) (by omega)]
    refine ⟨up (up (up h 61 q (nI (pg i) - 48)) 55 10 (nI (q + 1))) 55 11 0, ?_, FrP.tr FrP.u61 (FrP.tr (FrP.u55 (Or.inl rfl)) (FrP.u55 (Or.inr rfl))), ?_⟩
    · unfold stp
      rw [if_pos rfl]
      by_cases hd : 49 ≤ pg i ∧ pg i ≤ 57
      · rw [if_pos hd]; simp [hd]
      · rw [if_neg hd, decide_eq_false hd]; rfl
    · intro x hx
      unfold stp at hx
      rw [if_pos rfl] at hx
      by_cases hd : 49 ≤ pg i ∧ pg i ≤ 57
      · rw [if_pos hd] at hx
        cases hx
        refine ⟨by rw [up_k (by omega), up_s], up_s, fun j hj => ?_, fun z => (by cases z)⟩
        rw [up_c (by omega), up_c (by omega), up_c (by omega), up_c (by omega), up_c (by omega)]
        dsimp only at hj
        by_cases ej : j = q
        · subst ej
          rw [up_s]
          refine ⟨a2 rfl, ?_⟩
          unfold dI
          rw [if_pos g2, g1, show (48 : Int32) = nI 48 by decide +kernel, pk_sub (by omega)]
        · rw [up_k ej]; exact a1 j (by omega)
      · rw [if_neg hd] at hx; cases hx
  | false =>
    have g := p2 rfl
    rw [h11, if_pos (show b2i false = 0 by decide), r_dayOf hc, h10, li12]
    simp (disch := omega) only [nI_leI]
    have hno : ∀ (b : stp (pg i) q false = none), ∃ τ, F_X7_go_69 (nI (pg i)) false h = some ((stp (pg i) q false).isSome, τ) ∧ FrP h τ ∧ ∀ x, stp (pg i) q false = some x → τ.1 55 10 = nI x.1 ∧ τ.1 55 11 = b2i x.2 ∧ Ar pg τ x.1 x.2 := by
      intro b
      rw [b]
      exact ⟨h, rfl, FrP.rf, fun x hx => (by cases hx)⟩
    by_cases hd : pg i = 99 ∨ pg i = 116 ∨ pg i = 115 ∨ pg i = 119
    · rw [if_pos hd]
      have hk := dk_le (pg i)
      rw [if_neg (show ¬ nI (dk (pg i)) = -1 from fun z => by
        have e : dk (pg i) = 0 ∨ dk (pg i) = 1 ∨ dk (pg i) = 2 ∨ dk (pg i) = 3 := by omega
        rcases e with e | e | e | e <;> rw [e] at z <;> exact absurd z (by decide +kernel))]
      by_cases h12 : q = 12
      · rw [if_pos (by omega)]
        exact hno (by unfold stp; rw [if_neg (by decide), if_pos h12])
      · rw [if_neg (by omega)]
        unfold F_X7_go_69
        rw [if_pos rfl, h10, inb_t (by omega) (by omega), if_pos rfl, cl_nI (by omega), lt_p, up_c (by omega), h10, inb_t (by omega) (by omega), if_pos rfl, cl_nI (by omega), lt_p, r_dayOf hc, r_dayOf hc, if_pos hd, li2]
        unfold F_X7_go_111 F_X7_go_131
        simp (disch := omega) only [nI_leI, lt_p, up_s]
        have eK : nI (dK pg q) = nI (dk (pg i)) := by unfold dK; rw [g]
        by_cases hi : pg i = 99 ∨ pg i = 116
        · have e2 : ¬ 2 ≤ dk (pg i) := by
            unfold dk
            rcases hi with e | e <;> rw [e] <;> decide
          rw [if_neg e2, if_neg (show ¬ b2i true = 0 by decide), up_k (by omega), up_c (by omega), up_c (by omega), h10]
          have est : stp (pg i) q false = some (q, true) := by unfold stp; rw [if_neg (by decide), if_neg h12, if_pos hi]
          rw [est]
          refine ⟨_, rfl, FrP.tr FrP.u60 (FrP.tr FrP.u61 (FrP.tr (FrP.u55 (Or.inr rfl)) (FrP.u55 (Or.inl rfl)))), fun x hx => ?_⟩
          cases hx
          refine ⟨by rw [up_s]; simp [b2i], by rw [up_k (by omega), up_s], fun j hj => ?_, fun _ => ?_⟩
          · dsimp only at hj
            rw [up_c (by omega), up_c (by omega), up_c (by omega), up_k (by omega), up_c (by omega), up_c (by omega), up_k (by omega), up_c (by omega)]
            exact a1 j hj
          · dsimp only
            rw [up_c (by omega), up_c (by omega), up_c (by omega), up_s, eK]
        · have hi2 : pg i = 115 ∨ pg i = 119 := by omega
          have e2 : 2 ≤ dk (pg i) := by
            unfold dk
            rcases hi2 with e | e <;> rw [e] <;> decide
          rw [if_pos e2, if_pos (show b2i false = 0 by decide), up_k (by omega), up_c (by omega), up_c (by omega), h10]
          have est : stp (pg i) q false = some (q + 1, false) := by unfold stp; rw [if_neg (by decide), if_neg h12, if_neg hi, if_pos hi2]
          rw [est]
          refine ⟨_, rfl, FrP.tr FrP.u60 (FrP.tr FrP.u61 (FrP.tr (FrP.u55 (Or.inr rfl)) (FrP.u55 (Or.inl rfl)))), fun x hx => ?_⟩
          cases hx
          refine ⟨by rw [up_s]; simp only [b2i, if_true, nI_1], by rw [up_k (by omega), up_s], fun j hj => ?_, fun z => (by cases z)⟩
          dsimp only at hj
          by_cases ej : j = q
          · subst ej
            rw [up_c (by omega), up_c (by omega), up_c (by omega), up_s, up_c (by omega), up_c (by omega), up_s, eK]
            refine ⟨rfl, ?_⟩
            unfold dI
            rw [g, if_neg (fun z => hi (ln_2.mp z))]; rfl
          · rw [up_c (by omega), up_c (by omega), up_c (by omega), up_k (by omega), up_c (by omega), up_c (by omega), up_k (by omega), up_c (by omega)]
            exact a1 j (by omega)
    · rw [if_neg hd, if_pos rfl]
      exact hno (by unfold stp; rw [if_neg (by decide)]; split
                    · rfl
                    · rw [if_neg (by omega), if_neg (by omega)])
theorem r_fw (hp : pn ≤ 24) (h3 : ∀ i, i < pn → pg i ≤ 255) : ∀ r i q n (w : Bool) (h : Hp), i + r = pn → r < n → h.1 55 9 = nI pn → (∀ i, i < pn → h.1 59 i = nI (pg i)) → Pv pg i q w → Ar pg h q w → h.1 55 10 = nI q → h.1 55 11 = b2i w → ∃ τ, F_X7_faultOf_12 n (nI i) h = some (nI (sc pg r i q w).1, τ) ∧ FrP h τ ∧ ((sc pg r i q w).1 = pn → τ.1 55 10 = nI (sc pg r i q w).2.1 ∧ τ.1 55 11 = b2i (sc pg r i q w).2.2 ∧ Ar pg τ (sc pg r i q w).2.1 (sc pg r i q w).2.2) := by
  intro r
  induction r with
  | zero =>
    intro i q n w h hi hn h9 h59 hP hA h10 h11
    obtain ⟨n, rfl⟩ : ∃ k, n = k + 1 := ⟨n - 1, by omega⟩
    have : i = pn := by omega
    subst this
    rw [F_X7_faultOf_12, h9, if_pos (nle.mp (fun z => by have := (nI_ltI (by omega) (by omega)).mp z; omega))]
    exact ⟨h, rfl, FrP.rf, fun _ => ⟨h10, h11, hA⟩⟩
  | succ r ih =>
    intro i q n w h hi hn h9 h59 hP hA h10 h11
    obtain ⟨n, rfl⟩ : ∃ k, n = k + 1 := ⟨n - 1, by omega⟩
    have hc := h3 i (by omega)
    rw [F_X7_faultOf_12, h9, if_neg (le_no (by omega) (by omega) (by omega)), inb_t (by omega) (by omega), if_pos rfl, cl_nI (by omega), h59 i (by omega)]
    obtain ⟨τ, t1, t2, t3⟩ := r_go hP hA h10 h11 hc
    rw [t1, Option.bind_some]
    cases hs : stp (pg i) q w with
    | none =>
      rw [sc_none hs, if_neg (show ¬ (none : Option (Nat × Bool)).isSome = true by decide)]
      exact ⟨τ, rfl, t2, fun z => by dsimp only at z; omega⟩
    | some x =>
      rw [sc_some hs, if_pos (show (some x).isSome = true from rfl), nI_1]
      obtain ⟨b1, b2, b3⟩ := t3 x hs
      obtain ⟨υ, u1, u2, u3⟩ := ih (i + 1) x.1 n x.2 τ (by omega) (by omega) (by rw [t2.2 9 (by omega) (by omega)]; exact h9) (fun j hj => by rw [t2.1 59 (by omega) (by omega) (by omega)]; exact h59 j hj) (Pv_s hP hs) b3 b1 b2
      exact ⟨υ, u1, t2.tr u2, u3⟩
theorem r_faultOf (hw : WfG m kp pg pn ld) (hr : RM σ m kp pg pn ld lk) : ∃ τ, F_X7_faultOf σ = some (faA pg pn, τ) ∧ FrP σ τ ∧ ((S0 pg pn).1 = pn → τ.1 55 10 = nI (S0 pg pn).2.1 ∧ τ.1 55 11 = b2i (S0 pg pn).2.2 ∧ Ar pg τ (S0 pg pn).2.1 (S0 pg pn).2.2) := by
  unfold F_X7_faultOf
  rw [lt_p, lt_p]
  have f0 : FrP σ (up (up σ 55 10 0) 55 11 0) := FrP.tr (FrP.u55 (Or.inl rfl)) (FrP.u55 (Or.inr rfl))
  obtain ⟨τ, t1, t2, t3⟩ := r_fw (pg := pg) hw.2.2.1 hw.2.2.2.1 pn 0 0 fuel false (up (up σ 55 10 0) 55 11 0) (by omega) (by have := fuel_ge; have := hw.2.2.1; omega) (by rw [f0.2 9 (by omega) (by omega)]; exact hr.2.2.2.2.1) (fun j hj => by rw [f0.1 59 (by omega) (by omega) (by omega)]; exact hr.2.2.2.2.2.1 j hj) (Pv_0 pg) ⟨fun j hj => absurd hj (by omega), fun z => (by cases z)⟩ (by rw [up_k (by omega), up_s]; rfl) up_s
  exact ⟨τ, t1, f0.tr t2, t3⟩
theorem r_fault (hw : WfG m kp pg pn ld) (hr : RM σ m kp pg pn ld lk) : ∃ τ, F_X7_fault σ = some (faA pg pn, τ) ∧ RM τ m kp pg pn ld lk ∧ FrM σ τ := by
  unfold F_X7_fault
  obtain ⟨τ, t1, t2, -⟩ := r_faultOf hw hr
  rw [t1]
  exact ⟨τ, rfl, t2.RM hr, t2.M⟩
theorem r_areDays (hw : WfG m kp pg pn ld) (hr : RM σ m kp pg pn ld lk) : ∃ τ, F_X7_areDays σ = some (idB pg pn, τ) ∧ FrP σ τ ∧ (idB pg pn = true → τ.1 55 10 = nI (dq pg pn) ∧ Ar pg τ (dq pg pn) false) := by
  unfold F_X7_areDays
  obtain ⟨τ, t1, t2, t3⟩ := r_faultOf hw hr
  have hp := hw.2.2.1
  have hsl := sc_le pg pn 0 0 false
  have hs1 : (S0 pg pn).1 ≤ pn := by unfold S0; omega
  rw [t1, Option.bind_some]
  dsimp only
  rw [t2.2 9 (by omega) (by omega), hr.2.2.2.2.1]
  unfold faA
  by_cases h1 : (S0 pg pn).1 = pn
  · obtain ⟨b1, b2, b3⟩ := t3 h1
    have hq := (S0_P h1).1
    rw [if_pos (by rw [h1]), b2, b1]
    cases hwt : (S0 pg pn).2.2 with
    | true =>
      have : idB pg pn = false := by unfold idB; simp [hwt]
      rw [if_neg (by decide), this]
      exact ⟨τ, rfl, t2, fun z => (by cases z)⟩
    | false =>
      rw [if_pos (by decide)]
      by_cases h0 : 0 < (S0 pg pn).2.1
      · have : idB pg pn = true := idB_t.mpr ⟨h1, hwt, h0⟩
        rw [if_neg (show ¬ nI _ ≤ 0 from le_no (b := 0) (by omega) (by omega) h0), this]
        refine ⟨τ, rfl, t2, fun _ => ⟨b1, ?_⟩⟩
        rw [hwt] at b3
        exact b3
      · have : idB pg pn = false := by unfold idB; simp [h0]
        rw [if_pos (by rw [show (S0 pg pn).2.1 = 0 by omega]; decide +kernel), this]
        exact ⟨τ, rfl, t2, fun z => (by cases z)⟩
  · rw [if_neg (fun z => h1 ((nI_eq (by omega) (by omega)).mp z))]
    have : idB pg pn = false := by unfold idB; simp [h1]
    rw [this]
    exact ⟨τ, rfl, t2, fun z => (by cases z)⟩
end RPARSE
