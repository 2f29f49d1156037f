/-! the reference, read -/
def wn (x a b : Int32) : Bool := decide (a ≤ x ∧ x ≤ b)
theorem nle {a b : Int32} : (¬ a < b) ↔ b ≤ a := by
  rw [Int32.lt_iff_toInt_lt, Int32.le_iff_toInt_le]; omega
theorem c_within (x a b : Int32) (σ : Hp) : F_X6_within x a b σ = wn x a b := by
  unfold F_X6_within wn
  by_cases h1 : x < a
  · have : ¬ a ≤ x := fun z => (nle.mpr z) h1
    simp [h1, this]
  · have h2 := nle.mp h1
    by_cases h3 : b < x
    · have : ¬ x ≤ b := fun z => (nle.mpr z) h3
      simp [h1, h3, this]
    · have h4 := nle.mp h3
      simp [h1, h3, h2, h4]
theorem i64_lt {x y : Int32} : x.toInt64 < y.toInt64 ↔ x < y := by
  rw [Int64.lt_iff_toInt_lt, Int32.lt_iff_toInt_lt, Int32.toInt_toInt64, Int32.toInt_toInt64]
theorem r_in (x a b : Int32) (σ : Hp) : F_X7_in x.toInt64 a.toInt64 b.toInt64 σ = wn x a b := by
  rw [← c_within x a b σ]
  unfold F_X7_in F_X6_within
  simp only [i64_lt]
theorem wn_inb (x : Int32) {n : Nat} (hn : n < 2 ^ 30) : wn x 0 (nI n - 1) = inb x n := by
  unfold wn inb
  have e : (nI n - 1).toInt = (n : Int) - 1 := by
    have := pk_sub_toInt (a := n) (b := 1) hn (by omega)
    rw [li1]; exact this
  by_cases h0 : x < 0
  · have h1 : ¬ (0 : Int32) ≤ x := fun z => nle.mpr z h0
    simp [h0, h1]
  · obtain ⟨j, hj, rfl⟩ := nI_of h0
    have h1 : (0 : Int32) ≤ nI j := nle.mp h0
    rw [nI_clamp hj]
    simp only [h0, h1, true_and, false_or]
    rw [decide_eq_decide, Int32.le_iff_toInt_le, e, nI_toInt hj]
    omega
theorem wn_nI {x : Int32} {a b : Nat} (ha : a < 2 ^ 31) (hb : b < 2 ^ 31) (h : wn x (nI a) (nI b) = true) : ∃ j, a ≤ j ∧ j ≤ b ∧ x = nI j := by
  have h1 := of_decide_eq_true h
  have h0 : ¬ x < 0 := by
    have := h1.1
    rw [Int32.le_iff_toInt_le, nI_toInt ha] at this
    rw [Int32.lt_iff_toInt_lt]
    have e : (0 : Int32).toInt = 0 := by decide
    rw [e]; omega
  obtain ⟨j, hj, rfl⟩ := nI_of h0
  exact ⟨j, (nI_leI ha hj).mp h1.1, (nI_leI hj hb).mp h1.2, rfl⟩
theorem wn_of {a b j : Nat} (hj : j < 2 ^ 31) (ha : a ≤ j) (hb : j ≤ b) (hb2 : b < 2 ^ 31) : wn (nI j) (nI a) (nI b) = true := by
  unfold wn
  rw [decide_eq_true_eq]
  exact ⟨(nI_leI (by omega) hj).mpr ha, (nI_leI hj hb2).mpr hb⟩
theorem lj0 : (0 : Int64) = (0 : Int32).toInt64 := by decide
theorem lj1 : (1 : Int64) = (1 : Int32).toInt64 := by decide
theorem lj2 : (2 : Int64) = (2 : Int32).toInt64 := by decide
theorem lj3 : (3 : Int64) = (3 : Int32).toInt64 := by decide
theorem lj4 : (4 : Int64) = (4 : Int32).toInt64 := by decide
theorem lj5 : (5 : Int64) = (5 : Int32).toInt64 := by decide
theorem lj9 : (9 : Int64) = (9 : Int32).toInt64 := by decide
theorem lj60 : (60 : Int64) = (60 : Int32).toInt64 := by decide
theorem lj99 : (99 : Int64) = (99 : Int32).toInt64 := by decide
theorem lj200 : (200 : Int64) = (200 : Int32).toInt64 := by decide
/-- the reference's town as it stands -/
def RMc (σ : Hp) (m : Tw) : Prop := (∃ r, r ≤ 4 ∧ σ.1 55 0 = nI r ∧ m 9 1 = r * m 9 0) ∧ σ.1 55 1 = nI (m 9 0) ∧ σ.1 55 5 = nI (m 9 3) ∧ σ.1 55 6 = nI (m 9 4) ∧ RMt σ 56 57 58 m
section REF
variable {σ : Hp} {m : Tw}
theorem r_squares (hr : RMc σ m) : F_X7_squares σ = nI (m 9 1) := by
  obtain ⟨⟨r, h1, h2, h3⟩, h4, -⟩ := hr
  unfold F_X7_squares
  rw [h2, h4, pk_mul, h3]
theorem r_isSquare (hw : Wf m) (hr : RMc σ m) (x : Int32) : F_X7_isSquare x σ = inb x (m 9 1) := by
  have := hw.sq
  unfold F_X7_isSquare
  rw [r_squares hr, lj0, r_in, wn_inb x (by omega)]
theorem r_isDebt (hw : Wf m) (hr : RMc σ m) (x : Int32) : F_X7_isDebt x σ = inb x (m 9 4) := by
  have := hw.nd
  unfold F_X7_isDebt
  rw [hr.2.2.2.1, lj0, r_in, wn_inb x (by omega)]
theorem r_isPerson (x : Int32) : F_X7_isPerson x σ = wn x 0 5 := by
  unfold F_X7_isPerson
  rw [lj0, lj5, r_in]
theorem c_isPerson (x : Int32) : F_X6_isPerson x σ = wn x 0 5 := by
  unfold F_X6_isPerson
  rw [c_within]
theorem c_isKind (x : Int32) : F_X6_isKind x σ = wn x 0 4 := by
  unfold F_X6_isKind
  rw [c_within]
theorem ix8 {d k : Nat} (hd : d < 10) (hk : k < 8) : (8 : Int32) * nI d + nI k = nI (8 * d + k) := by
  rw [li8, pk_mul, nI_add]
theorem r_isThere (hw : Wf m) (hr : RMc σ m) {d : Nat} (hd : d < m 9 4) : F_X7_isThere (nI d) σ = some (decide (m 7 d = 1)) := by
  have hn := hw.nd
  obtain ⟨-, -, -, -, -, -, -, -, h7, -⟩ := hw.d hd
  unfold F_X7_isThere
  rw [li6, ix8 (by omega) (by omega), inb_t (by omega) (by omega), cl_nI (by omega), (hr.2.2.2.2.2.2 d hd).2.1, li1]
  by_cases h : m 7 d = 1
  · simp [h]
  · have : ¬ nI (m 7 d) = nI 1 := fun z => h ((nI_eq (by omega) (by omega)).mp z)
    simp [h, this]
theorem r_thereIn_loop (hw : Wf m) (hr : RMc σ m) (c : Int32) : ∀ (n d : Nat) (a : Int32), d ≤ m 9 4 → m 9 4 < d + n → a = sumI (fun i => b2i (decide (m 7 i = 1 ∧ nI (m 2 i) = c))) d → F_X7_thereIn_4 σ n c a (nI d) = some (sumI (fun i => b2i (decide (m 7 i = 1 ∧ nI (m 2 i) = c))) (m 9 4)) := by
  have hn := hw.nd
  have h4 := hr.2.2.2.1
  intro n
  induction n with
  | zero => intro d a h1 h2; omega
  | succ n ih =>
    intro d a h1 h2 ha
    rw [F_X7_thereIn_4, h4]
    by_cases hd : d < m 9 4
    · have e1 : ¬ nI (m 9 4) ≤ nI d := fun z => by have := (nI_leI (by omega) (by omega)).mp z; omega
      have a1 := (hr.2.2.2.2.2.2 d hd).1.2.1
      rw [if_neg e1, r_isThere hw hr hd]
      simp only [Option.bind_some]
      rw [li1, ix8 (by omega) (by omega), inb_t (by omega) (by omega), cl_nI (by omega), a1]
      simp only [if_true, F_X7_thereIn_41, decide_eq_true_eq, nI_1, lt]
      by_cases h7 : m 7 d = 1
      · rw [if_pos h7]
        by_cases hp : nI (m 2 d) = c
        · rw [if_pos hp]
          exact ih (d + 1) _ (by omega) (by omega) (by rw [ha]; show _ = sumI _ d + b2i _; simp [h7, hp])
        · rw [if_neg hp]
          exact ih (d + 1) _ (by omega) (by omega) (by rw [ha]; show _ = sumI _ d + b2i _; simp [hp])
      · rw [if_neg h7]
        exact ih (d + 1) _ (by omega) (by omega) (by rw [ha]; show _ = sumI _ d + b2i _; simp [h7])
    · have e1 : nI (m 9 4) ≤ nI d := (nI_leI (by omega) (by omega)).mpr (by omega)
      rw [if_pos e1, ha, show d = m 9 4 by omega]
theorem r_thereIn (hw : Wf m) (hr : RMc σ m) (c : Int32) : F_X7_thereIn c σ = some (thI m c) := by
  have hn := hw.nd
  unfold F_X7_thereIn
  exact r_thereIn_loop hw hr c fuel 0 0 (by omega) (by have := fuel_ge; omega) rfl
theorem r_worthOf (hw : Wf m) (hr : RMc σ m) {d : Nat} (hd : d < m 9 4) : F_X7_worthOf (nI d) σ = some (nI (wo m d)) := by
  have hn := hw.nd
  have hs := hw.sq
  obtain ⟨⟨a0, a1, a2, a3, a4, a5⟩, b6, b7⟩ := hr.2.2.2.2.2.2 d hd
  obtain ⟨w1, w2, w3, w4, w5, w6, w7, w8, w9, w10, w11⟩ := hw.d hd
  have hi := hw.ic w2
  have hic := hr.2.2.2.2.1 _ w2
  unfold F_X7_worthOf F_X7_worthOf_40 F_X7_worthOf_75
  simp (disch := omega) only [lt, li0, li1, li2, li4, li6, li7, li8, li10, pk_mul, nI_add, inb_t, cl_nI, if_true, a0, a1, a4, b6, hic, pk_div, nI_eq]
  unfold wo
  by_cases h0 : m 7 d = 0
  · simp [h0]
  · by_cases h22 : m 7 d = 2
    · rw [b7 h22]
      simp [h22, wo]
    · simp [h0, h22]
      by_cases k2 : m 1 d = 2
      · simp [k2]
      · by_cases k4 : m 1 d = 4
        · simp [k4]
        · simp [k2, k4]
/-- how a debt looks: 0 gone, 1 hidden, 2 read, 3 saved -/
def look (m : Tw) (d : Nat) : Nat := if m 7 d = 0 then 0 else if m 7 d = 2 then 3 else if m 9 2 = 0 then 2 else 1
theorem r_lookOf (hw : Wf m) (hr : RMc σ m) {d : Nat} (hd : d < m 9 4) : F_X7_lookOf (nI d) σ = some (nI (look m d)) := by
  have hn := hw.nd
  have hs := hw.sq
  have hsn : m 9 2 ≤ 9 := hw.2.1
  obtain ⟨⟨a0, a1, a2, a3, a4, a5⟩, b6, b7⟩ := hr.2.2.2.2.2.2 d hd
  obtain ⟨w1, w2, w3, w4, w5, w6, w7, w8, w9, w10, w11⟩ := hw.d hd
  have hsno := hr.2.2.2.2.2.1 (m 2 d) (by omega)
  unfold F_X7_lookOf
  simp only [lt]
  rw [li6, ix8 (by omega) (by omega), inb_t (by omega) (by omega), cl_nI (by omega), b6, li1, ix8 (by omega) (by omega), inb_t (by omega) (by omega), cl_nI (by omega), a1, inb_t (by omega) (by omega), cl_nI (by omega), hsno, li0, li2, li3]
  simp (disch := omega) only [if_true, nI_eq]
  unfold look
  split
  · rfl
  · split
    · rfl
    · split <;> rfl
theorem c_conditionOf (hw : Wf m) (hr : RCt σ 0 m) {d : Nat} (hd : d < m 9 4) : F_X6_conditionOf (10 * 0 + d) σ = nI (look m d) := by
  have hsn : m 9 2 ≤ 9 := hw.2.1
  obtain ⟨⟨a0, a1, a2, a3, a4, a5⟩, h2, h3⟩ := hr.2.2 d hd
  obtain ⟨w1, w2, w3, w4, w5, w6, w7, w8, w9, w10, w11⟩ := hw.d hd
  have e2 : σ.1 30 2 = nI (m 9 2) := hr.1 2 (by omega)
  unfold F_X6_conditionOf
  rw [c_isThere hw hr hd, h2, e2, li0, li1, li2, li3]
  simp (disch := omega) only [nI_leI, decide_eq_true_eq]
  unfold look
  have ne : ¬ nI 1 = nI 0 := by decide +kernel
  by_cases h22 : m 7 d = 2
  · simp [h22, ne]
  · by_cases h11 : m 7 d = 1
    · by_cases hs : m 9 2 = 0
      · simp [h11, hs]
      · simp [h11, hs]
    · have h00 : m 7 d = 0 := by omega
      simp [h00]
end REF
