/-! the class's town, read -/
section TOWN
variable {σ : Hp} {t : Nat} {m : Tw}
theorem c_isThere (hw : Wf m) (hr : RCt σ t m) {d : Nat} (hd : d < m 9 4) : F_X0_isThere (10 * t + d) σ = decide (m 7 d = 1) := by
  obtain ⟨⟨a0, a1, a2, a3, a4, a5⟩, h2, -⟩ := hr.2.2 d hd
  obtain ⟨-, -, -, -, -, -, -, h6, h7, h8, -⟩ := hw.d hd
  unfold F_X0_isThere
  rw [a5, h2, li0, li1]
  simp (disch := omega) only [nI_leI]
  by_cases h0 : m 7 d = 0
  · have : m 6 d = 0 := h8.mp h0
    simp [this, h0]
  · have : ¬ m 6 d = 0 := fun z => h0 (h8.mpr z)
    by_cases h22 : m 7 d = 2
    · have e : ¬ nI 1 = nI 0 := by decide +kernel
      simp [this, h22, e]
    · have h11 : m 7 d = 1 := by omega
      simp [this, h11]
theorem c_hasSquare (hw : Wf m) (hr : RCt σ t m) (x : Int32) : F_X5_hasSquare t x σ = inb x (m 9 1) := by
  have hs := hw.sq
  have h1 := hr.1 1 (by omega)
  unfold F_X5_hasSquare inb
  rw [h1]
  by_cases h0 : x < 0
  · simp [h0]
  · obtain ⟨j, hj, rfl⟩ := nI_of h0
    rw [nI_clamp hj]
    by_cases h2 : m 9 1 ≤ j
    · rw [if_neg h0, if_pos ((nI_leI (by omega) hj).mpr h2)]; simp [h2]
    · rw [if_neg h0, if_neg (fun z => h2 ((nI_leI (by omega) hj).mp z))]; simp [h0, h2]
theorem c_hasDebt (hw : Wf m) (hr : RCt σ t m) (x : Int32) : F_X5_hasDebt t x σ = inb x (m 9 4) := by
  have hs := hw.nd
  have h1 := hr.1 4 (by omega)
  unfold F_X5_hasDebt inb
  rw [h1]
  by_cases h0 : x < 0
  · simp [h0]
  · obtain ⟨j, hj, rfl⟩ := nI_of h0
    rw [nI_clamp hj]
    by_cases h2 : m 9 4 ≤ j
    · rw [if_neg h0, if_pos ((nI_leI (by omega) hj).mpr h2)]; simp [h2]
    · rw [if_neg h0, if_neg (fun z => h2 ((nI_leI (by omega) hj).mp z))]; simp [h0, h2]
theorem c_iceUnder (hw : Wf m) (hr : RCt σ t m) {d : Nat} (hd : d < m 9 4) : F_X5_iceUnder t (nI d) σ = some (nI (m 0 (m 2 d))) := by
  have hn := hw.nd
  have hs := hw.sq
  obtain ⟨⟨a0, a1, a2, a3, a4, a5⟩, h2, -⟩ := hr.2.2 d hd
  obtain ⟨-, hp, -⟩ := hw.d hd
  unfold F_X5_iceUnder
  rw [inb_t (by omega) (by omega), cl_nI (by omega)]
  simp only [lt, if_true]
  rw [a1, c_hasSquare hw hr, inb_t hp (by omega), inb_t (by omega) (by omega), cl_nI (by omega)]
  simp only [if_true]
  rw [hr.2.1 _ hp]
theorem c_isOfKind2 (σ : Hp) {k : Nat} (h : k ≤ 4) : F_X0_isOfKind (nI k) 2 σ = decide (k = 2 ∨ k = 4) := by
  have : k = 0 ∨ k = 1 ∨ k = 2 ∨ k = 3 ∨ k = 4 := by omega
  unfold F_X0_isOfKind
  rcases this with rfl | rfl | rfl | rfl | rfl <;> decide +kernel
theorem c_worthOf (hw : Wf m) (hr : RCt σ t m) {d : Nat} (hd : d < m 9 4) : F_X5_worthOf t (nI d) σ = some (nI (wo m d)) := by
  have hn := hw.nd
  obtain ⟨⟨a0, a1, a2, a3, a4, a5⟩, h2, h3⟩ := hr.2.2 d hd
  obtain ⟨w1, w2, w3, w4, w5, w6, w7, w8, w9, w10, w11⟩ := hw.d hd
  have hi := hw.ic w2
  unfold F_X5_worthOf
  rw [inb_t (by omega) (by omega), cl_nI (by omega), c_iceUnder hw hr hd]
  simp only [if_true, Option.bind_some]
  unfold F_X0_worthOn F_X0_worthOn_24 wo
  rw [a5, h2, a0, a4, c_isOfKind2 σ w1, li0, li1, li10]
  by_cases h0 : m 7 d = 0
  · have e := w10.mp h0
    simp [h0, e]
  · have e : ¬ m 6 d = 0 := fun z => h0 (w10.mpr z)
    have e2 : ¬ nI (m 6 d) = nI 0 := fun z => e ((nI_eq (by omega) (by omega)).mp z)
    have ne : ¬ nI 1 = nI 0 := by decide +kernel
    rw [if_neg e2, if_neg h0]
    by_cases h22 : m 7 d = 2
    · rw [if_pos h22, if_pos h22, if_neg ne, h3 h22, pk_div (by omega) (by omega) (by omega), nI_add]
      simp only [decide_eq_true_eq]
      split <;> simp
    · rw [if_neg h22, if_neg h22, if_pos rfl, pk_div (by omega) (by omega) (by omega), nI_add]
      simp only [decide_eq_true_eq]
      split <;> simp
theorem c_thereIn_loop (hw : Wf m) (hr : RCt σ t m) (c : Int32) : ∀ (n d : Nat) (a : Int32), d ≤ m 9 4 → m 9 4 < d + n → a = sumI (fun i => b2i (decide (m 7 i = 1 ∧ nI (m 2 i) = c))) d → F_X5_debtsThereIn_4 t σ n c a (nI d) = some (sumI (fun i => b2i (decide (m 7 i = 1 ∧ nI (m 2 i) = c))) (m 9 4)) := by
  have hn := hw.nd
  have h4 := hr.1 4 (by omega)
  intro n
  induction n with
  | zero => intro d a h1 h2; omega
  | succ n ih =>
    intro d a h1 h2 ha
    rw [F_X5_debtsThereIn_4, h4]
    by_cases hd : d < m 9 4
    · have e1 : ¬ nI (m 9 4) ≤ nI d := fun z => by have := (nI_leI (by omega) (by omega)).mp z; omega
      have a1 := (hr.2.2 d hd).1.2.1
      rw [if_neg e1, inb_t (by omega) (by omega), cl_nI (by omega), c_isThere hw hr hd, a1]
      simp only [if_true, F_X5_debtsThereIn_40, decide_eq_true_eq, nI_1]
      by_cases h7 : m 7 d = 1
      · rw [if_pos h7]
        by_cases hp : nI (m 2 d) = c
        · rw [if_pos hp]
          exact ih (d + 1) _ (by omega) (by omega) (by rw [ha]; show _ = sumI _ d + b2i _; simp [h7, hp, b2i])
        · rw [if_neg hp]
          exact ih (d + 1) _ (by omega) (by omega) (by rw [ha]; show _ = sumI _ d + b2i _; simp [hp, b2i])
      · rw [if_neg h7]
        exact ih (d + 1) _ (by omega) (by omega) (by rw [ha]; show _ = sumI _ d + b2i _; simp [h7, b2i])
    · have e1 : nI (m 9 4) ≤ nI d := (nI_leI (by omega) (by omega)).mpr (by omega)
      rw [if_pos e1, ha, show d = m 9 4 by omega]
/-- how many debts are there in a square -/
def thI (m : Tw) (c : Int32) : Int32 := sumI (fun i => b2i (decide (m 7 i = 1 ∧ nI (m 2 i) = c))) (m 9 4)
theorem c_thereIn (hw : Wf m) (hr : RCt σ t m) (c : Int32) : F_X5_debtsThereIn t c σ = some (thI m c) := by
  have hn := hw.nd
  unfold F_X5_debtsThereIn
  exact c_thereIn_loop hw hr c fuel 0 0 (by omega) (by have := fuel_ge; omega) rfl
end TOWN
