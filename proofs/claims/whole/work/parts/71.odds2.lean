/-! odds of both -/
theorem sub_le0 {a b : Nat} (ha : a < 2 ^ 30) (hb : b < 2 ^ 30) : nI a - nI b ≤ 0 ↔ a ≤ b := by
  rw [Int32.le_iff_toInt_le, pk_sub_toInt ha hb, show (0 : Int32).toInt = 0 by decide]; omega
section ODDS2
variable {σ : Hp} {m : Tw} {kp : Option Tw} {pg : Nat → Nat} {pn ld lk : Nat}
theorem r_staysBy (hw : Wf m) (hr : RMc σ m) {d D i t : Nat} (hd : d < m 9 4) (hD : D < 10) (hi : i ≤ 9) (ht : t ≤ D) : F_X7_staysBy (nI d) (nI t) (nI i) σ = some (decide (t < onN m d D i)) := by
  have hn := hw.nd
  have hs := hw.sq
  obtain ⟨⟨a0, a1, a2, a3, a4, a5⟩, a6, -⟩ := hr.2.2.2.2.2.2 d hd
  obtain ⟨w1, w2, w3, w4, w5, w6, w7, w8, w9, w10, w11⟩ := hw.d hd
  have hice := hw.ic w2
  have hic := hr.2.2.2.2.1 _ w2
  have hlo : lost (m 1 d) i ≤ 9 := by unfold lost; split <;> omega
  have hti : t * i ≤ 9 * 9 := Nat.mul_le_mul (by omega) hi
  have htl : t * lost (m 1 d) i ≤ 9 * 9 := Nat.mul_le_mul (by omega) hlo
  unfold F_X7_staysBy
  rw [li1, ix8 (by omega) (by omega), li5, ix8 (by omega) (by omega), li6, ix8 (by omega) (by omega), li8, pk_mul, inb_t (by omega) (by omega), if_pos rfl, cl_nI (by omega), lt_p, inb_t (by omega) (by omega), if_pos rfl, cl_nI (by omega), a1, inb_t (by omega) (by omega), if_pos rfl, cl_nI (by omega), lt_p, inb_t (by omega) (by omega), if_pos rfl, cl_nI (by omega), lt_p, inb_t (by omega) (by omega), if_pos rfl, cl_nI (by omega), a0, a5, a6, hic, pk_mul, r_thawOf w1 hi, pk_mul, r_isThere hw hr hd, Option.bind_some, li2, li3]
  simp (disch := omega) only [nI_eq, sub_le0]
  have e0 : (nI t = 0) ↔ t = 0 := nI_eq (b := 0) (by omega) (by omega)
  simp only [e0]
  unfold onN
  by_cases h2 : m 7 d = 2
  · rw [if_pos h2, if_pos h2, decide_eq_true (by omega)]
  · rw [if_neg h2, if_neg h2]
    have hp := (onR_p m d i (D + 1) 0 (fun t ht => absurd ht (by omega))).2 t (by omega)
    rw [show decide (t < onR m d i (D + 1) 0) = decide (cuj m d i t ≠ 0) from decide_eq_decide.mpr hp]
    by_cases h1 : m 7 d = 1
    · rw [if_pos (decide_eq_true h1)]
      have hm6 : m 6 d ≠ 0 := fun z => by have := w10.mpr z; omega
      unfold cuj
      by_cases h0 : t = 0
      · rw [if_pos h0, if_pos h0]; simp [hm6]
      · rw [if_neg h0, if_neg h0]
        by_cases g1 : m 0 (m 2 d) ≤ t * i
        · rw [if_pos g1, if_pos (Or.inr g1)]; rfl
        · rw [if_neg g1]
          by_cases g2 : m 6 d ≤ t * lost (m 1 d) i
          · rw [if_pos g2]
            by_cases g3 : m 1 d = 3
            · rw [if_pos (Or.inl g3)]; rfl
            · rw [if_neg (by omega), show m 6 d - t * lost (m 1 d) i = 0 by omega]; rfl
          · rw [if_neg g2]
            by_cases g3 : m 1 d = 3
            · rw [if_pos g3, if_pos (Or.inl g3)]; rfl
            · rw [if_neg g3, if_neg (by omega)]
              have : m 6 d - t * lost (m 1 d) i ≠ 0 := by omega
              simp [this]
    · rw [if_neg (by simpa using h1)]
      have h00 : m 7 d = 0 := by omega
      have : cuj m d i t = 0 := cuj_0 (t := 0) (w10.mp h00) (by omega)
      simp [this]
def odN (D T o : Nat) (p : Int32) : Int64 := (if p = 0 then nL (sumN (vN D T) o) / nL (Nat.gcd (sumN (vN D T) o) (10 ^ D)) else nL (10 ^ D) / nL (Nat.gcd (sumN (vN D T) o) (10 ^ D)))
def odA (m : Tw) (x D T i p : Int32) : Int64 := if inb x (m 9 4) = true then (if wn D 1 9 = true ∧ wn T 0 9 = true ∧ wn i 1 9 = true ∧ wn p 0 1 = true then odN D.toNatClampNeg T.toNatClampNeg (onN m x.toNatClampNeg D.toNatClampNeg i.toNatClampNeg) p else -102) else -101
theorem p10_le {D : Nat} (h : D < 10) : 10 ^ D ≤ 10 ^ 9 := Nat.pow_le_pow_right (by omega) (by omega)
theorem p10_pos (D : Nat) : 0 < 10 ^ D := Nat.pow_pos (by omega)
theorem gcd_b {a D : Nat} (h : D < 10) : 0 < Nat.gcd a (10 ^ D) ∧ Nat.gcd a (10 ^ D) < 2 ^ 40 := by
  have h1 := p10_pos D
  have h2 := p10_le h
  have h3 : Nat.gcd a (10 ^ D) ≤ 10 ^ D := Nat.gcd_le_right a h1
  exact ⟨Nat.gcd_pos_of_pos_right a h1, by omega⟩
theorem c_odds (hw : Wf m) (hr : RCt σ 0 m) (x D T i p : Int32) : F_X6_odds x D T i p σ = some (odA m x D T i p) := by
  have hn := hw.nd
  unfold F_X6_odds odA F_X6_odds_56
  rw [c_hasDebt hw hr, c_within, c_within, c_within, c_within]
  by_cases h0 : inb x (m 9 4) = true
  · rw [if_pos h0, if_pos h0]
    by_cases h1 : wn D 1 9 = true
    · by_cases h2 : wn T 0 9 = true
      · by_cases h3 : wn i 1 9 = true
        · by_cases h4 : wn p 0 1 = true
          · rw [if_pos h1, if_pos h2, if_pos h3, if_pos h4, if_pos ⟨h1, h2, h3, h4⟩]
            obtain ⟨d, hd, rfl⟩ := inb_of (by omega) h0
            obtain ⟨D, hD1, hD2, rfl⟩ := wn_nI (a := 1) (b := 9) (by omega) (by omega) h1
            obtain ⟨T, -, hT2, rfl⟩ := wn_nI (a := 0) (b := 9) (by omega) (by omega) h2
            obtain ⟨i, hi1, hi2, rfl⟩ := wn_nI (a := 1) (b := 9) (by omega) (by omega) h3
            rw [c_thaws hw hr hd (by omega) (by omega), Option.bind_some, cl_nI (by omega), cl_nI (by omega), cl_nI (by omega), cl_nI (by omega)]
            generalize ho : onN m d D i = o
            have hoL : o ≤ D + 1 := by rw [← ho]; exact onN_le ..
            have hA : sumN (vN D T) o ≤ 10 ^ D := vN_le D (by omega) T (by omega) o (by omega)
            have hB := p10_le (D := D) (by omega)
            have hB0 := p10_pos D
            have hG := gcd_b (a := sumN (vN D T) o) (D := D) (by omega)
            have hlt : ∀ t, t < 1000 → (nI o - 1 < nI t ↔ o ≤ t) := fun t ht => by
              rw [Int32.lt_iff_toInt_lt, nIm_toInt (by omega), nI_toInt (by omega)]; omega
            have h := lp (fun k (x : Int64 × Int32) => F_X6_odds_76 σ k (nI D) (nI T) p x.1 (nI o - 1) x.2) o (fun t => (nL (sumN (vN D T) t), nI t)) (some (odN D T o p)) ?_ ?_ fuel 0 (by omega) (by have := fuel_ge; omega)
            · exact h
            · intro k
              show F_X6_odds_76 σ (k + 1) (nI D) (nI T) p _ (nI o - 1) (nI o) = _
              rw [F_X6_odds_76, if_pos ((hlt o (by omega)).mpr (Nat.le_refl _)), li10, c_power (by omega) (by omega), Option.bind_some]
              unfold F_X6_commonDivisor
              rw [show F_X6_commonDivisor_9 σ fuel (nL (10 ^ D)) (nL (sumN (vN D T) o)) 0 = some (nL (Nat.gcd (sumN (vN D T) o) (10 ^ D))) from c_gcd 40 _ _ 0 fuel (by omega) (by omega) (by have := fuel_ge; omega) (by omega) (by omega), Option.bind_some, if_pos (nL_pos (by omega) hG.1)]
              unfold F_X6_odds_159 odN
              rw [if_pos (nL_ne (by omega) hG.1), if_pos (nL_ne (by omega) hG.1)]
              split <;> rfl
            · intro k t ht
              show F_X6_odds_76 σ (k + 1) (nI D) (nI T) p (nL (sumN (vN D T) t)) (nI o - 1) (nI t) = F_X6_odds_76 σ k (nI D) (nI T) p (nL (sumN (vN D T) (t + 1))) (nI o - 1) (nI (t + 1))
              rw [F_X6_odds_76, if_neg (fun z => by have := (hlt t (by omega)).mp z; omega), c_choose (by omega) (by omega), Option.bind_some, c_power (by omega) (by omega), Option.bind_some, li10, pk_sub (by omega), pk_sub (by omega), c_power (by omega) (by omega), Option.bind_some, lt_p, nL_mul, nL_mul, nL_add, nI_1]
              rfl
          · rw [if_pos h1, if_pos h2, if_pos h3, if_neg h4, if_neg (fun z => h4 z.2.2.2)]
        · rw [if_pos h1, if_pos h2, if_neg h3, if_neg (fun z => h3 z.2.2.1)]
      · rw [if_pos h1, if_neg h2, if_neg (fun z => h2 z.2.1)]
    · rw [if_neg h1, if_neg (fun z => h1 z.1)]
  · rw [if_neg h0, if_neg h0]
theorem r_odds (hw : Wf m) (hr : RMc σ m) (x D T i p : Int32) : F_X7_odds x D T i p σ = some (odA m x D T i p) := by
  have hn := hw.nd
  unfold F_X7_odds odA F_X7_odds_60
  rw [r_isDebt hw hr, lj0, lj1, lj9, r_in, r_in, r_in, r_in]
  by_cases h0 : inb x (m 9 4) = true
  · rw [if_pos h0, if_pos h0]
    by_cases h1 : wn D 1 9 = true
    · by_cases h2 : wn T 0 9 = true
      · by_cases h3 : wn i 1 9 = true
        · by_cases h4 : wn p 0 1 = true
          · rw [if_pos h1, if_pos h2, if_pos h3, if_pos h4, if_pos ⟨h1, h2, h3, h4⟩]
            obtain ⟨d, hd, rfl⟩ := inb_of (by omega) h0
            obtain ⟨D, hD1, hD2, rfl⟩ := wn_nI (a := 1) (b := 9) (by omega) (by omega) h1
            obtain ⟨T, -, hT2, rfl⟩ := wn_nI (a := 0) (b := 9) (by omega) (by omega) h2
            obtain ⟨i, hi1, hi2, rfl⟩ := wn_nI (a := 1) (b := 9) (by omega) (by omega) h3
            rw [cl_nI (by omega), cl_nI (by omega), cl_nI (by omega), cl_nI (by omega), ← lj0, ← lj1]
            have hst := fun t ht => r_staysBy (t := t) hw hr hd (show D < 10 by omega) (show i ≤ 9 by omega) ht
            generalize ho : onN m d D i = o at hst ⊢
            have hoL : o ≤ D + 1 := by rw [← ho]; exact onN_le ..
            have hA : sumN (vN D T) o ≤ 10 ^ D := vN_le D (by omega) T (by omega) o (by omega)
            have hB := p10_le (D := D) (by omega)
            have hB0 := p10_pos D
            -- the product of one road
            have inner : ∀ (K : Int32 → Int32 → Int32 → Int32 → Int32 → Int64 → Int64 → Int64 → Int32 → (Option Int64)) (k : Nat) (s w : Int64), k ≤ D → F_X7_odds_89 σ K fuel (nI d) (nI D) (nI T) (nI i) p s w (nL (wayN D k)) (nI k) (nL (wayN D k)) 0 = F_X7_odds_143 σ K (nI d) (nI D) (nI T) (nI i) p w (nL (wayN D k)) (nI k) (nL (if k < o then vN D T k else 0)) s := by
              intro K k s w hk
              have h := lp (fun n (x : Int64 × Int32) => F_X7_odds_89 σ K n (nI d) (nI D) (nI T) (nI i) p s w (nL (wayN D k)) (nI k) x.1 x.2) D (fun l => (nL (wayN D k * prN T k l), nI l)) (F_X7_odds_143 σ K (nI d) (nI D) (nI T) (nI i) p w (nL (wayN D k)) (nI k) (nL (if k < o then vN D T k else 0)) s) ?_ ?_ fuel 0 (by omega) (by have := fuel_ge; omega)
              · have h' : F_X7_odds_89 σ K fuel (nI d) (nI D) (nI T) (nI i) p s w (nL (wayN D k)) (nI k) (nL (wayN D k * 1)) (nI 0) = _ := h
                rw [Nat.mul_one] at h'
                exact h'
              · intro n
                show F_X7_odds_89 σ K (n + 1) (nI d) (nI D) (nI T) (nI i) p s w (nL (wayN D k)) (nI k) (nL (wayN D k * prN T k D)) (nI D) = _
                rw [F_X7_odds_89, if_pos (nle.mp (fun z => by have := (nI_ltI (by omega) (by omega)).mp z; omega)), hst k hk, Option.bind_some, way_v D (by omega) T (by omega) k (by omega)]
                by_cases g : k < o
                · rw [if_pos (decide_eq_true g), if_pos g]
                · rw [if_neg (by simpa using g), if_neg g]; rfl
              · intro n l hl
                show F_X7_odds_89 σ K (n + 1) (nI d) (nI D) (nI T) (nI i) p s w (nL (wayN D k)) (nI k) (nL (wayN D k * prN T k l)) (nI l) = F_X7_odds_89 σ K n (nI d) (nI D) (nI T) (nI i) p s w (nL (wayN D k)) (nI k) (nL (wayN D k * prN T k (l + 1))) (nI (l + 1))
                rw [F_X7_odds_89, if_neg (le_no (by omega) (by omega) hl)]
                unfold F_X7_odds_114
                rw [li10, pk_sub (by omega), nL_i (by omega), nL_i (by omega), nI_1, prN]
                simp (disch := omega) only [nI_leI, lt_p, nL_mul]
                by_cases g : k ≤ l
                · rw [if_pos g, if_neg (show ¬ l < k by omega), Nat.mul_assoc]
                · rw [if_neg g, if_pos (show l < k by omega), Nat.mul_assoc]
            have h := lp (fun n (x : Int64 × Int64 × Int64 × Int32) => F_X7_odds_76 σ n (nI d) (nI D) (nI T) (nI i) p x.1 x.2.1 x.2.2.1 x.2.2.2) (D + 1) (fun k => (nL (sumN (fun k => if k < o then vN D T k else 0) k), nL (10 ^ (min k D)), nL (wayN D k), nI k)) (some (odN D T o p)) ?_ ?_ fuel 0 (by omega) (by have := fuel_ge; omega)
            · have h' : F_X7_odds_76 σ fuel (nI d) (nI D) (nI T) (nI i) p (nL 0) (nL (10 ^ (min 0 D))) (nL 1) (nI 0) = _ := h
              rw [show min 0 D = 0 by omega] at h'
              exact h'
            · intro n
              show F_X7_odds_76 σ (n + 1) (nI d) (nI D) (nI T) (nI i) p (nL (sumN (fun k => if k < o then vN D T k else 0) (D + 1))) (nL (10 ^ (min (D + 1) D))) (nL (wayN D (D + 1))) (nI (D + 1)) = _
              rw [F_X7_odds_76, if_pos ((nI_ltI (by omega) (by omega)).mpr (by omega)), sumN_cut, show min o (D + 1) = o by omega, show min (D + 1) D = D by omega]
              unfold F_X7_term
              rw [r_gcd 40 _ _ fuel (by omega) (by have := fuel_ge; omega) hB0 (by omega) (by omega), Option.bind_some]
              rfl
            · intro n k hk
              show F_X7_odds_76 σ (n + 1) (nI d) (nI D) (nI T) (nI i) p (nL (sumN (fun k => if k < o then vN D T k else 0) k)) (nL (10 ^ (min k D))) (nL (wayN D k)) (nI k) = F_X7_odds_76 σ n (nI d) (nI D) (nI T) (nI i) p (nL (sumN (fun k => if k < o then vN D T k else 0) (k + 1))) (nL (10 ^ (min (k + 1) D))) (nL (wayN D (k + 1))) (nI (k + 1))
              have hwy := wayN_le D (by omega) k (by omega)
              have hwd : wayN D k * (D - k) ≤ 1000 * 9 := Nat.mul_le_mul hwy (by omega)
              rw [F_X7_odds_76, if_neg (fun z => by have := (nI_ltI (by omega) (by omega)).mp z; omega), inner _ k _ _ (by omega)]
              unfold F_X7_odds_143 F_X7_odds_177
              rw [lt_p, nI_1, nL_i (by omega), if_pos (nL_ne (by omega) (by omega)), lt_p, pk_sub (by omega), nL_i (by omega), nL_mul, nL_div (by omega) (by omega), nL_add, lt_p, lt_p, show (10 : Int64) = nL 10 by decide, nL_1, nL_mul, nL_mul]
              simp (disch := omega) only [nI_leI]
              by_cases g : D ≤ k
              · rw [if_pos g, show min (k + 1) D = min k D by omega, Nat.mul_one]; rfl
              · rw [if_neg g, show min (k + 1) D = min k D + 1 by omega, Nat.pow_succ]; rfl
          · rw [if_pos h1, if_pos h2, if_pos h3, if_neg h4, if_neg (fun z => h4 z.2.2.2)]
        · rw [if_pos h1, if_pos h2, if_neg h3, if_neg (fun z => h3 z.2.2.1)]
      · rw [if_pos h1, if_neg h2, if_neg (fun z => h2 z.2.1)]
    · rw [if_neg h1, if_neg (fun z => h1 z.1)]
  · rw [if_neg h0, if_neg h0]
end ODDS2
