section LAKE
variable {σ : Hp} {m : Tw} {kp : Option Tw} {pg : Nat → Nat} {pn ld lk : Nat}
def lkN (r w : Nat) : Tw := fun f x => if f = 0 then 10 else if f = 9 then (if x = 0 then w else if x = 1 then r * w else 0) else 0
def lkA (p q : Int32) : Int32 := if wn p 2 4 = true ∧ wn q 2 4 = true then p * q else -102

theorem c_begin (t : Nat) (p q : Int32) : F_X5_begin t p q σ = some (rowf (up (up (up (up (up σ (30 + t) 0 q) (30 + t) 1 (p * q)) (30 + t) 2 0) (30 + t) 3 0) (30 + t) 4 0) (33 + t) (fun _ => 10) 16) := by
  unfold F_X5_begin
  simp only [lt]
  generalize up (up (up (up (up σ (30 + t) 0 q) (30 + t) 1 (p * q)) (30 + t) 2 0) (30 + t) 3 0) (30 + t) 4 0 = τ
  have h := lp (fun n (x : Int32 × Hp) => F_X5_begin_29 t n x.1 x.2) 16 (fun d => (nI d, rowf τ (33 + t) (fun _ => 10) d)) (some (rowf τ (33 + t) (fun _ => 10) 16)) ?_ ?_ fuel 0 (by omega) (by have := fuel_ge; omega)
  · have h2 : F_X5_begin_29 t fuel (nI 0) (rowf τ (33 + t) (fun _ => 10) 0) = _ := h
    rw [rowf_0] at h2
    rw [li0]
    exact h2
  · intro n
    show F_X5_begin_29 t (n + 1) (nI 16) _ = _
    rw [F_X5_begin_29, if_pos (by decide +kernel)]
  · intro n d hd
    show F_X5_begin_29 t (n + 1) (nI d) _ = F_X5_begin_29 t n (nI (d + 1)) _
    rw [F_X5_begin_29, li16, if_neg (le_no (by omega) (by omega) hd), inb_t hd (by omega), cl_nI (by omega)]
    simp only [if_true, lt, nI_1]
    rw [rowf_up τ (33 + t) (fun _ => 10) d]
theorem c_lake (hr : RC σ m kp pg pn ld) (p q : Int32) : ∃ τ, F_X6_lake p q σ = some (lkA p q, τ) ∧ (wn p 2 4 = true ∧ wn q 2 4 = true → RC τ (lkN p.toNatClampNeg q.toNatClampNeg) none pg pn ld) ∧ (¬ (wn p 2 4 = true ∧ wn q 2 4 = true) → τ = σ) ∧ FrC σ τ := by
  unfold F_X6_lake lkA
  rw [c_within, c_within, c_begin]
  by_cases h1 : wn p 2 4 = true
  · by_cases h2 : wn q 2 4 = true
    · obtain ⟨a, ha1, ha2, rfl⟩ := wn_nI (a := 2) (b := 4) (by omega) (by omega) h1
      obtain ⟨b, hb1, hb2, rfl⟩ := wn_nI (a := 2) (b := 4) (by omega) (by omega) h2
      have hab : a * b ≤ 4 * 4 := Nat.mul_le_mul ha2 hb2
      rw [cl_nI (by omega), cl_nI (by omega)]
      simp only [h1, h2, if_true, and_self, Option.bind_some, lt, not_true_eq_false, false_implies, true_and, true_implies]
      obtain ⟨k1, k2, k3, k4, k5, k6, k7, k8⟩ := hr
      have e1 : (up (rowf (up (up (up (up (up σ (30 + 0) 0 (nI b)) (30 + 0) 1 (nI a * nI b)) (30 + 0) 2 0) (30 + 0) 3 0) (30 + 0) 4 0) (33 + 0) (fun _ => 10) 16) 54 7 0).1 30 1 = nI a * nI b := by
        rw [up_c (by omega), rowf_c (by omega), up_k (by omega), up_k (by omega), up_k (by omega), up_s]
      rw [e1]
      refine ⟨_, rfl, ⟨⟨fun k hk => ?_, fun c hc => ?_, fun d hd => ?_⟩, ?_, fun k hk => (by cases hk), ?_, ?_, fun i hi => ?_, ?_, ?_⟩, ?_⟩
      · rw [up_c (by omega), rowf_c (by omega)]
        have : k = 0 ∨ k = 1 ∨ k = 2 ∨ k = 3 ∨ k = 4 := by omega
        rcases this with rfl | rfl | rfl | rfl | rfl <;> simp [up, lkN, pk_mul, li0]
      · have hc2 : c < 16 := by
          have : lkN a b 9 1 = a * b := by simp [lkN]
          rw [this] at hc; omega
        rw [up_c (by omega)]
        show (rowf _ 33 _ 16).1 33 c = _
        rw [rowf_lt hc2]; simp [lkN, li10]
      · have : lkN a b 9 4 = 0 := by simp [lkN]
        rw [this] at hd; omega
      · rw [up_s]; rfl
      · rw [up_k (by omega), rowf_c (by omega), up_c (by omega), up_c (by omega), up_c (by omega), up_c (by omega), up_c (by omega)]; exact k4
      · rw [up_c (by omega), rowf_c (by omega), up_c (by omega), up_c (by omega), up_c (by omega), up_c (by omega), up_c (by omega)]; exact k5
      · rw [up_c (by omega), rowf_c (by omega), up_c (by omega), up_c (by omega), up_c (by omega), up_c (by omega), up_c (by omega)]; exact k6 i hi
      · rw [up_c (by omega), rowf_c (by omega), up_c (by omega), up_c (by omega), up_c (by omega), up_c (by omega), up_c (by omega)]; exact k7
      · rw [up_c (by omega), rowf_c (by omega), up_c (by omega), up_c (by omega), up_c (by omega), up_c (by omega), up_c (by omega)]; exact k8
      · exact (FrC.up (by omega)).tr ((FrC.up (by omega)).tr ((FrC.up (by omega)).tr ((FrC.up (by omega)).tr ((FrC.up (by omega)).tr ((FrC.rowf (by omega)).tr (FrC.up (by omega)))))))
    · simp [h1, h2]
      exact FrC.rf
  · simp [h1]
    exact FrC.rf
theorem r_lake (hr : RM σ m kp pg pn ld lk) (hlk : lk < 2 ^ 20) (p q : Int32) : ∃ τ, F_X7_lake p q σ = some (lkA p q, τ) ∧ (wn p 2 4 = true ∧ wn q 2 4 = true → RM τ (lkN p.toNatClampNeg q.toNatClampNeg) none pg pn ld (lk + 1)) ∧ (¬ (wn p 2 4 = true ∧ wn q 2 4 = true) → τ = σ) ∧ FrM σ τ := by
  unfold F_X7_lake lkA
  rw [lj2, lj4, r_in, r_in]
  by_cases h1 : wn p 2 4 = true
  · by_cases h2 : wn q 2 4 = true
    · obtain ⟨a, ha1, ha2, rfl⟩ := wn_nI (a := 2) (b := 4) (by omega) (by omega) h1
      obtain ⟨b, hb1, hb2, rfl⟩ := wn_nI (a := 2) (b := 4) (by omega) (by omega) h2
      have hab : a * b ≤ 4 * 4 := Nat.mul_le_mul ha2 hb2
      rw [cl_nI (by omega), cl_nI (by omega)]
      simp only [h1, h2, if_true, and_self, lt, not_true_eq_false, false_implies, true_and, true_implies]
      obtain ⟨⟨⟨r, c1, c2, c3⟩, b2, b3, b4, b5, b6, b7⟩, k2, k3, k4, k5, k6, k7⟩ := hr
      have e2 : (rowf (rowf (up (up σ 55 0 (nI a)) 55 1 (nI b)) 56 (fun _ => 10) 16) 57 (fun _ => 0) 16).1 55 2 = nI lk := by
        rw [rowf_c (by omega), rowf_c (by omega), up_k (by omega), up_k (by omega)]; exact k2
      have h := lp (fun n (x : Int32 × Hp) => F_X7_lake_43 n x.1 x.2) 16 (fun d => (nI d, rowf (rowf (up (up σ 55 0 (nI a)) 55 1 (nI b)) 56 (fun _ => 10) d) 57 (fun _ => 0) d)) (some (nI a * nI b, up (up (up (rowf (rowf (up (up σ 55 0 (nI a)) 55 1 (nI b)) 56 (fun _ => 10) 16) 57 (fun _ => 0) 16) 55 6 0) 55 5 0) 55 2 (nI (lk + 1)))) ?_ ?_ fuel 0 (by omega) (by have := fuel_ge; omega)
      · have h3 : F_X7_lake_43 fuel (nI 0) (rowf (rowf (up (up σ 55 0 (nI a)) 55 1 (nI b)) 56 (fun _ => 10) 0) 57 (fun _ => 0) 0) = _ := h
        rw [rowf_0, rowf_0, ← li0] at h3
        refine ⟨_, h3, ⟨⟨⟨a, by omega, ?_, by simp [lkN]⟩, ?_, ?_, ?_, fun c hc => ?_, fun c hc => ?_, fun d hd => ?_⟩, up_s, fun _ => ?_, fun k hk => (by cases hk), ?_, fun i hi => ?_, ?_⟩, ?_⟩
        · rw [up_k (by omega), up_k (by omega), up_k (by omega), rowf_c (by omega), rowf_c (by omega), up_k (by omega), up_s]
        · rw [up_k (by omega), up_k (by omega), up_k (by omega), rowf_c (by omega), rowf_c (by omega), up_s]; simp [lkN]
        · rw [up_k (by omega), up_s]; simp [lkN, li0]
        · rw [up_k (by omega), up_k (by omega), up_s]; simp [lkN, li0]
        · have hc2 : c < 16 := by
            have : lkN a b 9 1 = a * b := by simp [lkN]
            rw [this] at hc; omega
          rw [up_c (by omega), up_c (by omega), up_c (by omega), rowf_c (by omega), rowf_lt hc2]; simp [lkN, li10]
        · rw [up_c (by omega), up_c (by omega), up_c (by omega), rowf_lt hc]; simp [lkN, li0]
        · have : lkN a b 9 4 = 0 := by simp [lkN]
          rw [this] at hd; omega
        · rw [up_k (by omega), up_k (by omega), up_k (by omega), rowf_c (by omega), rowf_c (by omega), up_k (by omega), up_k (by omega)]
          cases kp with
          | none =>
            rcases k3 rfl with h | ⟨j, hj, h⟩
            · exact Or.inl h
            · exact Or.inr ⟨j, by omega, h⟩
          | some k => exact Or.inr ⟨lk, by omega, (k4 k rfl).1⟩
        · rw [up_k (by omega), up_k (by omega), up_k (by omega), rowf_c (by omega), rowf_c (by omega), up_k (by omega), up_k (by omega)]; exact k5
        · rw [up_c (by omega), up_c (by omega), up_c (by omega), rowf_c (by omega), rowf_c (by omega), up_c (by omega), up_c (by omega)]; exact k6 i hi
        · rw [up_k (by omega), up_k (by omega), up_k (by omega), rowf_c (by omega), rowf_c (by omega), up_k (by omega), up_k (by omega)]; exact k7
        · exact (FrM.up (by omega)).tr ((FrM.up (by omega)).tr ((FrM.rowf (by omega)).tr ((FrM.rowf (by omega)).tr ((FrM.up (by omega)).tr ((FrM.up (by omega)).tr (FrM.up (by omega)))))))
      · intro n
        show F_X7_lake_43 (n + 1) (nI 16) _ = _
        rw [F_X7_lake_43, if_pos (by decide +kernel)]
        simp only [lt]
        rw [up_k (by omega), up_k (by omega), e2, nI_1]
        unfold F_X7_squares
        rw [up_k (by omega), up_k (by omega), up_k (by omega), rowf_c (by omega), rowf_c (by omega), up_k (by omega), up_s, up_k (by omega), up_k (by omega), up_k (by omega), rowf_c (by omega), rowf_c (by omega), up_s]
      · intro n d hd
        show F_X7_lake_43 (n + 1) (nI d) _ = F_X7_lake_43 n (nI (d + 1)) _
        rw [F_X7_lake_43, li16, if_neg (le_no (by omega) (by omega) hd), inb_t hd (by omega), cl_nI (by omega)]
        simp only [if_true, lt, nI_1]
        rw [rowf_ne (by omega), rowf_up _ 56 (fun _ => 10) d, rowf_up _ 57 (fun _ => 0) d]
    · simp [h1, h2]
      exact FrM.rf
  · simp [h1]
    exact FrM.rf
theorem w_lake (hw : WfG m kp pg pn ld) {p q : Int32} (h : wn p 2 4 = true ∧ wn q 2 4 = true) : WfG (lkN p.toNatClampNeg q.toNatClampNeg) none pg pn ld := by
  obtain ⟨a, ha1, ha2, rfl⟩ := wn_nI (a := 2) (b := 4) (by omega) (by omega) h.1
  obtain ⟨b, hb1, hb2, rfl⟩ := wn_nI (a := 2) (b := 4) (by omega) (by omega) h.2
  rw [cl_nI (by omega), cl_nI (by omega)]
  refine ⟨⟨⟨a, ha1, ha2, ?_, ?_, ?_⟩, ?_, ?_, fun c hc => ?_, fun d hd => ?_⟩, fun k hk => (by cases hk), hw.2.2⟩
  · simp [lkN]; exact hb1
  · simp [lkN]; exact hb2
  · simp [lkN]
  · simp [lkN]
  · simp [lkN]
  · simp [lkN]
  · simp [lkN] at hd
end LAKE
