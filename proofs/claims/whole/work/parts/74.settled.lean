/-! settled -/
theorem imax_nI {a b : Nat} (ha : a < 2 ^ 31) (hb : b < 2 ^ 31) : imax (nI a) (nI b) = nI (max a b) := by
  unfold imax
  by_cases h : a < b
  · rw [if_pos ((nI_ltI ha hb).mpr h), Nat.max_eq_right (by omega)]
  · rw [if_neg (fun z => h ((nI_ltI ha hb).mp z)), Nat.max_eq_left (by omega)]
theorem bit_ex : ∀ B, B < 64 → B ≠ 0 → ∃ p, p < 6 ∧ B.testBit p = true := by decide +kernel
theorem sm_0 (r : Nat → Int32) : sm r 0 = 0 := by
  unfold sm
  rw [sumI_congr (g := fun _ => 0) (fun p _ => by simp), sumI_0]
section SETT
variable {σ : Hp} {m : Tw} {kp : Option Tw} {pg : Nat → Nat} {pn ld lk : Nat} {r : Nat → Int32}
theorem c_addSet {h : Hp} {S : Nat} (hS : S < 64) (hS0 : S ≠ 0) (h1 : ∀ p, p < 6 → h.1 51 p = r p) (h2 : ∀ T, T < S → h.1 52 T = sm r T) (h3 : ∀ T, T < S → h.1 53 T = nI (G (zs r) T)) : ∃ τ, F_X3_addSet (nI S) h = some τ ∧ τ.1 52 S = sm r S ∧ τ.1 53 S = nI (G (zs r) S) ∧ (∀ k, k ≠ S → τ.1 52 k = h.1 52 k ∧ τ.1 53 k = h.1 53 k) ∧ (∀ c, c ≠ 52 → c ≠ 53 → τ.1 c = h.1 c) ∧ τ.2 = h.2 := by
  unfold F_X3_addSet
  have hmx : ∀ p, mx (fun p => if S.testBit p = true then G (zs r) (S - 2 ^ p) else 0) p ≤ 63 := by
    intro p
    rcases mx_at (fun p => if S.testBit p = true then G (zs r) (S - 2 ^ p) else 0) p with e | ⟨q, -, e⟩
    · omega
    · rw [e]
      have := G_le (zs r) (S - 2 ^ q)
      have hle := Nat.sub_le S (2 ^ q)
      show (if S.testBit q = true then G (zs r) (S - 2 ^ q) else 0) ≤ 63
      by_cases hb : S.testBit q = true
      · rw [if_pos hb]; omega
      · rw [if_neg hb]; omega
  refine lpI (fun n (x : Int32 × Int32 × Hp) => F_X3_addSet_4 n (nI S) x.1 x.2.1 x.2.2) 6 (fun p x => x.1 = nI (mx (fun p => if S.testBit p = true then G (zs r) (S - 2 ^ p) else 0) p) ∧ x.2.1 = nI p ∧ (∀ q, q < p → S.testBit q = true → x.2.2.1 52 S = sm r S) ∧ (∀ k, k ≠ S → x.2.2.1 52 k = h.1 52 k) ∧ (∀ c, c ≠ 52 → x.2.2.1 c = h.1 c) ∧ x.2.2.2 = h.2) (fun o => ∃ τ, o = some τ ∧ τ.1 52 S = sm r S ∧ τ.1 53 S = nI (G (zs r) S) ∧ (∀ k, k ≠ S → τ.1 52 k = h.1 52 k ∧ τ.1 53 k = h.1 53 k) ∧ (∀ c, c ≠ 52 → c ≠ 53 → τ.1 c = h.1 c) ∧ τ.2 = h.2) ?_ ?_ fuel 0 (0, 0, h) (by omega) (by have := fuel_ge; omega) ⟨rfl, rfl, fun q hq => absurd hq (by omega), fun _ _ => rfl, fun _ _ => rfl, rfl⟩
  · rintro n ⟨x1, x2, g⟩ ⟨i1, i2, i3, i4, i5, i6⟩
    dsimp only at i1 i2 i3 i4 i5 i6 ⊢
    subst i1; subst i2
    obtain ⟨q, hq, hb⟩ := bit_ex S hS hS0
    have e52 := i3 q hq hb
    rw [F_X3_addSet_4, if_pos (by decide +kernel), inb_t hS (by omega), if_pos rfl, cl_nI (by omega), e52]
    unfold F_X3_addSet_84
    rw [inb_t hS (by omega), if_pos rfl, if_pos rfl, cl_nI (by omega), lt_p, lt_p, nI_1]
    have hG : G (zs r) S = GH (zs r) S + (if sm r S = 0 then 1 else 0) := by
      rw [G_s _ hS0]
      unfold zs
      simp only [decide_eq_true_eq]
    have fin : ∀ v, v = nI (G (zs r) S) → ∃ τ, some (up g 53 S v) = some τ ∧ τ.1 52 S = sm r S ∧ τ.1 53 S = nI (G (zs r) S) ∧ (∀ k, k ≠ S → τ.1 52 k = h.1 52 k ∧ τ.1 53 k = h.1 53 k) ∧ (∀ c, c ≠ 52 → c ≠ 53 → τ.1 c = h.1 c) ∧ τ.2 = h.2 := by
      intro v hv
      refine ⟨_, rfl, by rw [up_c (by omega)]; exact e52, by rw [up_s]; exact hv, fun k hk => ⟨by rw [up_c (by omega)]; exact i4 k hk, by rw [up_k hk, i5 53 (by omega)]⟩, fun c a b => by rw [up_off b]; exact i5 c a, i6⟩
    by_cases hz : sm r S = 0
    · rw [if_pos hz]
      exact fin _ (by rw [hG, if_pos hz]; rfl)
    · rw [if_neg hz]
      exact fin _ (by rw [hG, if_neg hz]; rfl)
  · rintro n p ⟨x1, x2, g⟩ hp ⟨i1, i2, i3, i4, i5, i6⟩
    dsimp only at i1 i2 i3 i4 i5 i6 ⊢
    subst i1; subst i2
    rw [F_X3_addSet_4, li6, if_neg (le_no (by omega) (by omega) hp), bit_i (by omega) (by omega)]
    unfold F_X3_addSet_57
    cases hb : S.testBit p with
    | false =>
      rw [if_pos (show (if false = true then (1 : Int32) else 0) = 0 by decide), nI_1]
      refine ⟨(_, _, _), ⟨?_, rfl, fun q hq hbq => ?_, i4, i5, i6⟩, rfl⟩
      · show _ = nI (max _ (if S.testBit p = true then G (zs r) (S - 2 ^ p) else 0))
        rw [hb, if_neg (by decide), Nat.max_eq_left (by omega)]; rfl
      · by_cases e : q = p
        · subst e; rw [hb] at hbq; cases hbq
        · exact i3 q (by omega) hbq
    | true =>
      obtain ⟨m1, m2⟩ := mk_2 S hS p hp hb
      have hpos := Nat.two_pow_pos p
      have hG := G_le (zs r) (S - 2 ^ p)
      have hm := hmx p
      rw [if_neg (show ¬ (if true = true then (1 : Int32) else 0) = 0 by decide), lt_p, xor_i (by omega) (by omega) hb, inb_t (by omega) (by omega), if_pos rfl, inb_t (by omega) (by omega), if_pos rfl, inb_t (by omega) (by omega), if_pos rfl, lt_p, if_pos rfl, lt_p, cl_nI (by omega), cl_nI (by omega), cl_nI (by omega), up_c (by omega), i5 53 (by omega), i5 51 (by omega), h1 p hp, i4 _ (by omega), h2 _ (by omega), h3 _ (by omega), sm_rem r hS hp hb, imax_nI (by omega) (by omega), nI_1]
      refine ⟨(nI (max (mx (fun p => if S.testBit p = true then G (zs r) (S - 2 ^ p) else 0) p) (G (zs r) (S - 2 ^ p))), nI (p + 1), up g 52 S (sm r S)), ⟨?_, rfl, fun q hq hbq => up_s, fun k hk => by rw [up_k hk]; exact i4 k hk, fun c hc => by rw [up_off hc]; exact i5 c hc, i6⟩, rfl⟩
      show _ = nI (max _ (if S.testBit p = true then G (zs r) (S - 2 ^ p) else 0))
      rw [if_pos hb]
/-- the rests of all, the groups -/
def rsF (m : Tw) (p : Nat) : Int32 := reI m (nI p)
def grN (m : Tw) : Nat := G (zs (rsF m)) 63
theorem c_groups (hw : WfG m kp pg pn ld) (hr : RC σ m kp pg pn ld) : ∃ τ, F_X3_mostGroups σ = some (nI (grN m), τ) ∧ RC τ m kp pg pn ld ∧ FrC σ τ := by
  unfold F_X3_mostGroups
  obtain ⟨k1, k2, k3, k4, k5, k6, k7, k8⟩ := hr
  generalize hu : rowf σ 51 (rsF m) 6 = υ
  have u1 : ∀ c, c ≠ 51 → υ.1 c = σ.1 c := fun c hc => by rw [← hu, rowf_r hc]
  have u2 : ∀ p, p < 6 → υ.1 51 p = rsF m p := fun p hp => by rw [← hu, rowf_lt hp]
  have u3 : υ.2 = σ.2 := by rw [← hu]; rfl
  have first : F_X3_mostGroups_2 fuel 0 σ = F_X3_mostGroups_27 fuel 1 υ := by
    have h := lp (fun n (x : Int32 × Hp) => F_X3_mostGroups_2 n x.1 x.2) 6 (fun d => (nI d, rowf σ 51 (rsF m) d)) (F_X3_mostGroups_27 fuel 1 υ) ?_ ?_ fuel 0 (by omega) (by have := fuel_ge; omega)
    · have h3 : F_X3_mostGroups_2 fuel (nI 0) (rowf σ 51 (rsF m) 0) = _ := h
      rw [rowf_0] at h3
      exact h3
    · intro n
      show F_X3_mostGroups_2 (n + 1) (nI 6) (rowf σ 51 (rsF m) 6) = _
      rw [F_X3_mostGroups_2, if_pos (by decide +kernel), hu]
    · intro n d hd
      show F_X3_mostGroups_2 (n + 1) (nI d) (rowf σ 51 (rsF m) d) = F_X3_mostGroups_2 n (nI (d + 1)) (rowf σ 51 (rsF m) (d + 1))
      rw [F_X3_mostGroups_2, li6, if_neg (le_no (by omega) (by omega) hd), c_restOf (t := 0) hw.1 (k1.keep hw.1.nd (fun c hc => rowf_r (by omega))), Option.bind_some, inb_t (by omega) (by omega), if_pos rfl, cl_nI (by omega), lt_p, nI_1]
      rw [show reI m (nI d) = rsF m d from rfl, rowf_up]
  rw [first]
  refine lpI (fun n (x : Int32 × Hp) => F_X3_mostGroups_27 n x.1 x.2) 63 (fun d x => x.1 = nI (d + 1) ∧ (∀ T, T < d + 1 → x.2.1 52 T = sm (rsF m) T ∧ x.2.1 53 T = nI (G (zs (rsF m)) T)) ∧ (∀ c, c ≠ 52 → c ≠ 53 → x.2.1 c = υ.1 c) ∧ x.2.2 = υ.2) (fun o => ∃ τ, o = some (nI (grN m), τ) ∧ RC τ m kp pg pn ld ∧ FrC σ τ) ?_ ?_ fuel 0 (1, υ) (by omega) (by have := fuel_ge; omega) ⟨rfl, fun T hT => ?_, fun _ _ _ => rfl, rfl⟩
  · rintro n ⟨x1, h⟩ ⟨i1, i2, i3, i4⟩
    dsimp only at i1 i2 i3 i4 ⊢
    subst i1
    rw [F_X3_mostGroups_27, if_pos (by decide +kernel), if_pos (by decide +kernel), show Int32.toNatClampNeg ((64 : Int32) - 1) = 63 by decide +kernel, (i2 63 (by omega)).2]
    have fr : ∀ c, c ≠ 51 → c ≠ 52 → c ≠ 53 → h.1 c = σ.1 c := fun c a b d => by rw [i3 c b d, u1 c a]
    obtain ⟨e52, e53⟩ := i2 0 (by omega)
    refine ⟨h, rfl, ⟨k1.keep hw.1.nd (fun c hc => fr c (by omega) (by omega) (by omega)), by rw [fr 54 (by omega) (by omega) (by omega)]; exact k2, fun k hk => (k3 k hk).keep (hw.kn k hk) (fun c hc => fr c (by omega) (by omega) (by omega)), by rw [fr 54 (by omega) (by omega) (by omega)]; exact k4, by rw [fr 39 (by omega) (by omega) (by omega)]; exact k5, fun i hi => by rw [fr 40 (by omega) (by omega) (by omega)]; exact k6 i hi, by rw [e52, sm_0], by rw [e53, G_0]; rfl⟩, fun c hc => fr c (by omega) (by omega) (by omega), i4.trans u3⟩
  · rintro n d ⟨x1, h⟩ hd ⟨i1, i2, i3, i4⟩
    dsimp only at i1 i2 i3 i4 ⊢
    subst i1
    obtain ⟨τ, t1, t2, t3, t4, t5, t6⟩ := c_addSet (r := rsF m) (h := h) (S := d + 1) (by omega) (by omega) (fun p hp => by rw [i3 51 (by omega) (by omega)]; exact u2 p hp) (fun T hT => (i2 T hT).1) (fun T hT => (i2 T hT).2)
    rw [F_X3_mostGroups_27, show (64 : Int32) = nI 64 by decide +kernel, if_neg (le_no (by omega) (by omega) (by omega)), t1, Option.bind_some, nI_1]
    refine ⟨(_, _), ⟨rfl, fun T hT => ?_, fun c a b => by rw [t5 c a b]; exact i3 c a b, t6.trans i4⟩, rfl⟩
    by_cases e : T = d + 1
    · subst e; exact ⟨t2, t3⟩
    · rw [(t4 T e).1, (t4 T e).2]; exact i2 T (by omega)
  · have : T = 0 := by omega
    subst this
    dsimp only
    rw [u1 52 (by omega), u1 53 (by omega), k7, k8, sm_0, G_0]
    exact ⟨rfl, rfl⟩
def seA (m : Tw) (w : Int32) : Int32 := if wn w 0 1 = true then (if w = 0 then 6 - nI (grN m) else nI (grN m)) else -102
theorem c_settled (hw : WfG m kp pg pn ld) (hr : RC σ m kp pg pn ld) (w : Int32) : ∃ τ, F_X6_settled w σ = some (seA m w, τ) ∧ RC τ m kp pg pn ld ∧ FrC σ τ := by
  unfold F_X6_settled seA
  rw [c_within]
  by_cases h : wn w 0 1 = true
  · rw [if_pos h, if_pos h]
    obtain ⟨τ, t1, t2, t3⟩ := c_groups hw hr
    rw [t1, Option.bind_some]
    refine ⟨τ, ?_, t2, t3⟩
    split <;> rfl
  · rw [if_neg h, if_neg h]
    exact ⟨σ, rfl, hr, FrC.rf⟩
theorem z63 (hw : Wf m) : zs (rsF m) 63 = true := by
  unfold zs
  rw [decide_eq_true_eq]
  unfold sm
  rw [sumI_congr (g := fun p => rsF m p) (fun p hp => by
    have : ∀ p, p < 6 → (63 : Nat).testBit p = true := by decide +kernel
    rw [if_pos (this p hp)])]
  unfold rsF reI
  rw [sumI_swap, sumI_congr (g := fun _ => 0), sumI_0]
  intro d hd
  obtain ⟨w1, w2, w3, w4, -⟩ := hw.d hd
  rw [sumI_sub]
  have e1 := sumI_pick (a := 0) (w := nI (wo m d)) (k := 6) (v := m 4 d) (by omega) (by omega) True
  have e2 := sumI_pick (a := 0) (w := nI (wo m d)) (k := 6) (v := m 3 d) (by omega) (by omega) True
  simp only [and_true, if_true] at e1 e2
  rw [e1, e2, Int32.sub_self]
end SETT
