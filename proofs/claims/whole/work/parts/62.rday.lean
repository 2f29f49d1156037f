/-! a day of the reference -/
theorem r_less {v i : Nat} (hv : v < 2 ^ 30) (hi : i < 2 ^ 30) (σ : Hp) : F_X7_less (nI v) (nI i) σ = nI (v - i) := by
  unfold F_X7_less
  by_cases h : v ≤ i
  · rw [if_pos ((nI_leI (by omega) (by omega)).mpr h), show v - i = 0 by omega]; rfl
  · rw [if_neg (fun z => h ((nI_leI (by omega) (by omega)).mp z)), pk_sub (by omega)]
theorem r_thawOf {kd i : Nat} (hk : kd ≤ 4) (hi : i ≤ 9) (σ : Hp) : F_X7_thawOf (nI kd) (nI i) σ = nI (lost kd i) := by
  unfold F_X7_thawOf lost
  rw [nI_1, li2, pk_div (by omega) (by omega) (by omega), li4]
  simp (disch := omega) only [nI_eq]
  split <;> rfl
theorem up_up3 (X : Hp) (c p q : Nat) (v a b : Int32) (h : p ≠ q) : up (up (up X c p v) c q a) c p b = up (up X c q a) c p b := by
  unfold up
  refine Prod.ext ?_ rfl
  funext c' k
  dsimp only
  by_cases h1 : c' = c ∧ k = p
  · rw [if_pos h1, if_pos h1]
  · rw [if_neg h1, if_neg h1, if_neg h1]
theorem rowf_one (σ : Hp) (c : Nat) (g : Nat → Int32) (d : Nat) (h : ∀ j, j < 8 → j ≠ 5 → g (8 * d + j) = σ.1 c (8 * d + j)) : up (rowf σ c g (8 * d)) c (8 * d + 5) (g (8 * d + 5)) = rowf σ c g (8 * (d + 1)) := by
  unfold rowf up
  refine Prod.ext ?_ rfl
  funext c' k
  dsimp only
  by_cases h1 : c' = c
  · by_cases h5 : k = 8 * d + 5
    · rw [if_pos ⟨h1, h5⟩, if_pos ⟨h1, by omega⟩, h5]
    · rw [if_neg (fun z => h5 z.2)]
      by_cases h2 : k < 8 * d
      · rw [if_pos ⟨h1, h2⟩, if_pos ⟨h1, by omega⟩]
      · rw [if_neg (fun z => h2 z.2)]
        by_cases h3 : k < 8 * (d + 1)
        · rw [if_pos ⟨h1, h3⟩]
          have := h (k - 8 * d) (by omega) (by omega)
          rw [show 8 * d + (k - 8 * d) = k by omega] at this
          rw [this, h1]
        · rw [if_neg (fun z => h3 z.2)]
  · rw [if_neg (fun z => h1 z.1), if_neg (fun z => h1 z.1), if_neg (fun z => h1 z.1)]
section RDAY
variable {σ : Hp} {m : Tw}
theorem r_thaw1 (i : Nat) : F_X7_thaw (nI i) σ = F_X7_thaw_39 fuel (nI i) 0 (rowf (rowf σ 57 (fun _ => 0) 16) 56 (fun c => F_X7_less (σ.1 56 c) (nI i) σ) 16) := by
  unfold F_X7_thaw
  have h := lp (fun n (x : Int32 × Hp) => F_X7_thaw_2 n (nI i) x.1 x.2) 16 (fun d => (nI d, rowf (rowf σ 57 (fun _ => 0) d) 56 (fun c => F_X7_less (σ.1 56 c) (nI i) σ) d)) (F_X7_thaw_39 fuel (nI i) 0 (rowf (rowf σ 57 (fun _ => 0) 16) 56 (fun c => F_X7_less (σ.1 56 c) (nI i) σ) 16)) ?_ ?_ fuel 0 (by omega) (by have := fuel_ge; omega)
  · have h3 : F_X7_thaw_2 fuel (nI i) (nI 0) (rowf (rowf σ 57 (fun _ => 0) 0) 56 (fun c => F_X7_less (σ.1 56 c) (nI i) σ) 0) = _ := h
    rw [rowf_0, rowf_0] at h3
    exact h3
  · intro n
    show F_X7_thaw_2 (n + 1) (nI i) (nI 16) _ = _
    rw [F_X7_thaw_2, if_pos (by decide +kernel)]
  · intro n d hd
    show F_X7_thaw_2 (n + 1) (nI i) (nI d) _ = F_X7_thaw_2 n (nI i) (nI (d + 1)) _
    rw [F_X7_thaw_2, li16, if_neg (le_no (by omega) (by omega) hd), inb_t hd (by omega), cl_nI (by omega)]
    simp only [if_true, lt_p, nI_1]
    rw [rowf_ne (by omega), rowf_up σ 57 (fun _ => 0) d, rowf_ge (by omega), rowf_c (by omega)]
    rw [show F_X7_less (σ.1 56 d) (nI i) (rowf (rowf σ 57 (fun _ => 0) (d + 1)) 56 (fun c => F_X7_less (σ.1 56 c) (nI i) σ) d) = F_X7_less (σ.1 56 d) (nI i) σ from rfl, rowf_up (rowf σ 57 (fun _ => 0) (d + 1)) 56 (fun c => F_X7_less (σ.1 56 c) (nI i) σ) d]
def thR (m : Tw) (h : Hp) (i : Nat) : Nat → Int32 := fun k => if m 7 (k / 8) = 1 then (if k % 8 = 5 then nI (dyC m i (k / 8)) else if k % 8 = 6 ∧ dyC m i (k / 8) = 0 then 0 else h.1 58 k) else h.1 58 k
theorem thR_at (m : Tw) (h : Hp) (i d j : Nat) (hj : j < 8) : thR m h i (8 * d + j) = if m 7 d = 1 then (if j = 5 then nI (dyC m i d) else if j = 6 ∧ dyC m i d = 0 then 0 else h.1 58 (8 * d + j)) else h.1 58 (8 * d + j) := by
  unfold thR
  rw [show (8 * d + j) / 8 = d by omega, show (8 * d + j) % 8 = j by omega]
theorem r_thaw2 {i : Nat} {h2 : Hp} (hi : i ≤ 9) (hw : Wf m) (h4 : h2.1 55 6 = nI (m 9 4)) (hic : ∀ c, c < m 9 1 → h2.1 56 c = nI (m 0 c - i)) (hd : ∀ d, d < m 9 4 → RMd h2 58 m d) : F_X7_thaw_39 fuel (nI i) 0 h2 = some (rowf h2 58 (thR m h2 i) (8 * m 9 4)) := by
  have hn := hw.nd
  have hs := hw.sq
  have h := lp (fun n (x : Int32 × Hp) => F_X7_thaw_39 n (nI i) x.1 x.2) (m 9 4) (fun d => (nI d, rowf h2 58 (thR m h2 i) (8 * d))) (some (rowf h2 58 (thR m h2 i) (8 * m 9 4))) ?_ ?_ fuel 0 (by omega) (by have := fuel_ge; omega)
  · have h3 : F_X7_thaw_39 fuel (nI i) (nI 0) (rowf h2 58 (thR m h2 i) 0) = _ := h
    rw [rowf_0] at h3
    exact h3
  · intro n
    show F_X7_thaw_39 (n + 1) (nI i) (nI (m 9 4)) _ = _
    rw [F_X7_thaw_39, rowf_c (by omega), h4, if_pos (nle.mp (fun z => by have := (nI_ltI (by omega) (by omega)).mp z; omega))]
  · intro n d hdd
    obtain ⟨w1, w2, w3, w4, w5, w6, w7, w8, w9, w10, w11⟩ := hw.d hdd
    have hice := hw.ic w2
    show F_X7_thaw_39 (n + 1) (nI i) (nI d) _ = F_X7_thaw_39 n (nI i) (nI (d + 1)) _
    have hrd : RMd (rowf h2 58 (thR m h2 i) (8 * d)) 58 m d := (hd d hdd).keep (fun j hj => rowf_ge (by omega))
    rw [F_X7_thaw_39, rowf_c (by omega), h4, if_neg (le_no (by omega) (by omega) hdd), r_isThereD (by omega) (hw.d hdd) hrd, Option.bind_some]
    have hl18 : lost (m 1 d) i ≤ 9 := by unfold lost; split <;> omega
    by_cases h7 : m 7 d = 1
    · have hq := thR_at m h2 i d
      have g5 := hq 5 (by omega)
      have g6 := hq 6 (by omega)
      rw [if_pos h7, if_pos rfl] at g5
      rw [if_pos h7, if_neg (by omega)] at g6
      rw [decide_eq_true h7, if_pos rfl]
      simp (disch := omega) only [li1, li5, li8, pk_mul, nI_add, inb_t, cl_nI, if_true, hrd.1.1, hrd.1.2.2.2.2.2, r_thawOf w1 hi, lt_p]
      rw [r_less (by omega) (by omega)]
      -- reads behind the store
      have r1 : ∀ v : Int32, (up (rowf h2 58 (thR m h2 i) (8 * d)) 58 (8 * d + 5) v).1 58 (8 * d + 1) = nI (m 2 d) := fun v => by rw [up_k (by omega)]; exact hrd.1.2.1
      have r0 : ∀ v : Int32, (up (rowf h2 58 (thR m h2 i) (8 * d)) 58 (8 * d + 5) v).1 58 (8 * d) = nI (m 1 d) := fun v => by rw [up_k (by omega)]; exact hrd.1.1
      have r6 : ∀ v : Int32, (up (rowf h2 58 (thR m h2 i) (8 * d)) 58 (8 * d + 5) v).1 56 (m 2 d) = nI (m 0 (m 2 d) - i) := fun v => by rw [up_c (by omega), rowf_c (by omega)]; exact hic _ w2
      rw [r1, r0, inb_t (i := m 2 d) (by omega) (by omega), cl_nI (n := m 2 d) (by omega), r6, li0, li3]
      simp (disch := omega) only [if_true, nI_eq]
      have hlose : ∀ v : Int32, (if m 7 d = 1 ∧ dyC m i d = 0 then True else False) → F_X7_thaw_131 (F_X7_thaw_39 n) (nI i) (nI d) (up (rowf h2 58 (thR m h2 i) (8 * d)) 58 (8 * d + 5) v) = F_X7_thaw_39 n (nI i) (nI (d + 1)) (rowf h2 58 (thR m h2 i) (8 * (d + 1))) := by
        intro v hc
        have hc0 : dyC m i d = 0 := by
          by_cases z : dyC m i d = 0
          · exact z
          · simp [z] at hc
        unfold F_X7_thaw_131 F_X7_thaw_136 F_X7_lose
        simp (disch := omega) only [li5, li6, ix8, inb_t, cl_nI, if_true, lt_p, Option.bind_some, nI_1]
        rw [up_up3 _ _ _ _ _ _ _ (by omega)]
        have ht := rowf_two h2 58 (thR m h2 i) d (fun j hj n5 n6 => by rw [hq j hj, if_pos h7, if_neg n5, if_neg (fun z => n6 z.1)])
        rw [g5, g6, if_pos ⟨rfl, hc0⟩, hc0] at ht
        rw [← ht]
        rfl
      by_cases hA : m 6 d - lost (m 1 d) i = 0
      · have hc0 : dyC m i d = 0 := by unfold dyC; split <;> omega
        rw [if_pos hA]
        exact hlose _ (by simp [h7, hc0])
      · rw [if_neg hA]
        by_cases hB : m 0 (m 2 d) - i = 0
        · have hc0 : dyC m i d = 0 := by unfold dyC; rw [if_pos (Or.inr hB)]
          rw [if_pos hB]
          exact hlose _ (by simp [h7, hc0])
        · rw [if_neg hB]
          by_cases hC : m 1 d = 3
          · have hc0 : dyC m i d = 0 := by unfold dyC; rw [if_pos (Or.inl hC)]
            rw [if_pos hC]
            exact hlose _ (by simp [h7, hc0])
          · rw [if_neg hC]
            have hc : dyC m i d = m 6 d - lost (m 1 d) i := by unfold dyC; rw [if_neg (fun z => z.elim hC hB)]
            unfold F_X7_thaw_136
            rw [nI_1, ← hc]
            have ht := rowf_one h2 58 (thR m h2 i) d (fun j hj n5 => by rw [hq j hj, if_pos h7, if_neg n5, if_neg (fun z => by have := z.2; omega)])
            rw [g5] at ht
            rw [ht]
    · have hsk : rowf h2 58 (thR m h2 i) (8 * d) = rowf h2 58 (thR m h2 i) (8 * (d + 1)) := rowf_skip h2 58 _ (by omega) (fun k hk1 hk2 => by
        have := thR_at m h2 i d (k - 8 * d) (by omega)
        rw [show 8 * d + (k - 8 * d) = k by omega, if_neg h7] at this
        exact this)
      rw [decide_eq_false h7, if_neg (by decide)]
      unfold F_X7_thaw_136
      rw [nI_1, hsk]
def f56 (k i : Nat) (x : Int32) : Int32 := if k = 0 then (if x + nI i ≤ 99 then x + nI i else 99) else x
def f57 (k : Nat) (x : Int32) : Int32 := if k = 3 then 0 else if k = 2 then (if 9 ≤ x then x else x + 1) else x
theorem r_day2 {k i : Nat} (hk : k ≤ 3) (h : Hp) : F_X7_day_12 fuel (nI k) (nI i) 0 h = some (rowf (rowf h 56 (fun c => f56 k i (h.1 56 c)) 16) 57 (fun c => f57 k (h.1 57 c)) 16) := by
  have hl := lp (fun n (x : Int32 × Hp) => F_X7_day_12 n (nI k) (nI i) x.1 x.2) 16 (fun d => (nI d, rowf (rowf h 56 (fun c => f56 k i (h.1 56 c)) d) 57 (fun c => f57 k (h.1 57 c)) d)) (some (rowf (rowf h 56 (fun c => f56 k i (h.1 56 c)) 16) 57 (fun c => f57 k (h.1 57 c)) 16)) ?_ ?_ fuel 0 (by omega) (by have := fuel_ge; omega)
  · have h3 : F_X7_day_12 fuel (nI k) (nI i) (nI 0) (rowf (rowf h 56 (fun c => f56 k i (h.1 56 c)) 0) 57 (fun c => f57 k (h.1 57 c)) 0) = _ := hl
    rw [rowf_0, rowf_0] at h3
    exact h3
  · intro n
    show F_X7_day_12 (n + 1) (nI k) (nI i) (nI 16) _ = _
    rw [F_X7_day_12, if_pos (by decide +kernel)]
  · intro n d hd
    show F_X7_day_12 (n + 1) (nI k) (nI i) (nI d) _ = F_X7_day_12 n (nI k) (nI i) (nI (d + 1)) _
    generalize hX : rowf (rowf h 56 (fun c => f56 k i (h.1 56 c)) d) 57 (fun c => f57 k (h.1 57 c)) d = X
    have x56 : X.1 56 d = h.1 56 d := by rw [← hX, rowf_c (by omega), rowf_ge (by omega)]
    have x57 : X.1 57 d = h.1 57 d := by rw [← hX, rowf_ge (by omega), rowf_c (by omega)]
    have hfin : up (up X 56 d (f56 k i (h.1 56 d))) 57 d (f57 k (h.1 57 d)) = rowf (rowf h 56 (fun c => f56 k i (h.1 56 c)) (d + 1)) 57 (fun c => f57 k (h.1 57 c)) (d + 1) := by
      rw [← hX, rowf_ne (by omega), rowf_up h 56 (fun c => f56 k i (h.1 56 c)) d, rowf_up _ 57 (fun c => f57 k (h.1 57 c)) d]
    have h62 : ∀ v : Int32, v = f56 k i (h.1 56 d) → F_X7_day_62 (F_X7_day_12 n) (nI k) (nI i) (nI d) v (nI d) X = F_X7_day_12 n (nI k) (nI i) (nI (d + 1)) (rowf (rowf h 56 (fun c => f56 k i (h.1 56 c)) (d + 1)) 57 (fun c => f57 k (h.1 57 c)) (d + 1)) := by
      intro v hv
      have y57 : (up X 56 d v).1 57 d = h.1 57 d := by rw [up_c (by omega)]; exact x57
      have kk : ∀ w : Int32, w = f57 k (h.1 57 d) → F_X7_day_12 n (nI k) (nI i) (nI (d + 1)) (up (up X 56 d v) 57 d w) = F_X7_day_12 n (nI k) (nI i) (nI (d + 1)) (rowf (rowf h 56 (fun c => f56 k i (h.1 56 c)) (d + 1)) 57 (fun c => f57 k (h.1 57 c)) (d + 1)) := by
        intro w hw
        rw [hw, hv, hfin]
      unfold F_X7_day_62 F_X7_day_110 F_X7_day_104 F_X7_day_110
      simp (disch := omega) only [inb_t, cl_nI, if_true, lt_p, y57, nI_1]
      rw [li2, li3]
      simp (disch := omega) only [nI_eq]
      by_cases k3 : k = 3
      · rw [if_pos k3]
        exact kk 0 (by unfold f57; rw [if_pos k3])
      · rw [if_neg k3]
        by_cases k2 : k = 2
        · rw [if_pos k2]
          by_cases h9 : (9 : Int32) ≤ h.1 57 d
          · rw [if_pos h9]
            exact kk _ (by unfold f57; rw [if_neg k3, if_pos k2, if_pos h9])
          · rw [if_neg h9]
            exact kk _ (by unfold f57; rw [if_neg k3, if_pos k2, if_neg h9])
        · rw [if_neg k2]
          exact kk _ (by unfold f57; rw [if_neg k3, if_neg k2])
    rw [F_X7_day_12, li16, if_neg (le_no (by omega) (by omega) hd), inb_t hd (by omega), cl_nI (by omega), x56]
    simp only [if_true]
    by_cases k0 : k = 0
    · subst k0
      rw [if_pos (show nI 0 = 0 from rfl)]
      by_cases h9 : h.1 56 d + nI i ≤ 99
      · rw [if_pos h9]
        exact h62 _ (by unfold f56; rw [if_pos rfl, if_pos h9])
      · rw [if_neg h9]
        exact h62 _ (by unfold f56; rw [if_pos rfl, if_neg h9])
    · rw [if_neg (show ¬ nI k = 0 from fun z => k0 ((nI_eq (b := 0) (by omega) (by omega)).mp z))]
      exact h62 _ (by unfold f56; rw [if_neg k0])
theorem r_day {k i : Nat} (hk : k ≤ 3) (hi : i ≤ 9) (hw : Wf m) (hr : RMc σ m) : ∃ τ, F_X7_day (nI k) (nI i) σ = some τ ∧ RMc τ (dyM m k i) ∧ (∀ c, c ≠ 56 → c ≠ 57 → c ≠ 58 → τ.1 c = σ.1 c) ∧ τ.2 = σ.2 := by
  have hn := hw.nd
  have hs := hw.sq
  have hsn : m 9 2 ≤ 9 := hw.2.1
  obtain ⟨⟨r, c1, c2, c3⟩, b2, b3, b4, b5, b6, b7⟩ := hr
  have h1 : ∃ h1 : Hp, F_X7_day (nI k) (nI i) σ = F_X7_day_12 fuel (nI k) (nI i) 0 h1 ∧ (∀ c, c < m 9 1 → h1.1 56 c = nI (if k = 1 then m 0 c - i else m 0 c)) ∧ (∀ c, c < 16 → h1.1 57 c = nI (if k = 1 then 0 else m 9 2)) ∧ (∀ d, d < m 9 4 → ∀ j, j < 8 → h1.1 58 (8 * d + j) = if k = 1 ∧ m 7 d = 1 then (if j = 5 then nI (dyC m i d) else if j = 6 ∧ dyC m i d = 0 then 0 else σ.1 58 (8 * d + j)) else σ.1 58 (8 * d + j)) ∧ (∀ c, c ≠ 56 → c ≠ 57 → c ≠ 58 → h1.1 c = σ.1 c) ∧ h1.2 = σ.2 := by
    unfold F_X7_day
    by_cases k1 : k = 1
    · subst k1
      rw [if_pos (by decide +kernel), r_thaw1]
      generalize h2e : rowf (rowf σ 57 (fun _ => 0) 16) 56 (fun c => F_X7_less (σ.1 56 c) (nI i) σ) 16 = h2
      have o2 : ∀ c, c ≠ 56 → c ≠ 57 → h2.1 c = σ.1 c := fun c g1 g2 => by rw [← h2e, rowf_r g1, rowf_r g2]
      have i2 : ∀ c, c < m 9 1 → h2.1 56 c = nI (m 0 c - i) := fun c hc => by
        have := hw.ic hc
        rw [← h2e, rowf_lt (by omega), b5 c hc, r_less (by omega) (by omega)]
      rw [r_thaw2 hi hw (by rw [o2 55 (by omega) (by omega)]; exact b4) i2 (fun d hd => (b7 d hd).keep (fun j hj => by rw [o2 58 (by omega) (by omega)])), Option.bind_some]
      refine ⟨_, rfl, fun c hc => ?_, fun c hc => ?_, fun d hd j hj => ?_, fun c g1 g2 g3 => ?_, ?_⟩
      · rw [rowf_c (by omega), i2 c hc, if_pos rfl]
      · rw [rowf_c (by omega), ← h2e, rowf_c (by omega), rowf_lt hc, if_pos rfl]; rfl
      · rw [rowf_lt (by omega), thR_at m h2 i d j hj, o2 58 (by omega) (by omega)]
        by_cases h7 : m 7 d = 1
        · rw [if_pos h7, if_pos (show 1 = 1 ∧ m 7 d = 1 from ⟨rfl, h7⟩)]
        · rw [if_neg h7, if_neg (show ¬ (1 = 1 ∧ m 7 d = 1) from fun z => h7 z.2)]
      · rw [rowf_r g3, o2 c g1 g2]
      · show h2.2 = σ.2
        rw [← h2e]; rfl
    · rw [if_neg (show ¬ nI k = 1 from fun z => k1 ((nI_eq (b := 1) (by omega) (by omega)).mp z))]
      exact ⟨σ, rfl, fun c hc => by rw [if_neg k1]; exact b5 c hc, fun c hc => by rw [if_neg k1]; exact b6 c hc, fun d hd j hj => by rw [if_neg (fun z => k1 z.1)], fun c _ _ _ => rfl, rfl⟩
  obtain ⟨h1, hF, g56, g57, g58, go, g2⟩ := h1
  rw [hF, r_day2 hk]
  refine ⟨_, rfl, ⟨⟨r, c1, ?_, ?_⟩, ?_, ?_, ?_, fun c hc => ?_, fun c hc => ?_, fun d hd => ?_⟩, fun c q1 q2 q3 => ?_, ?_⟩
  · rw [rowf_c (by omega), rowf_c (by omega), go 55 (by omega) (by omega) (by omega)]; exact c2
  · rw [dyM_9 m k i (by omega), dyM_9 m k i (by omega)]; exact c3
  · rw [rowf_c (by omega), rowf_c (by omega), go 55 (by omega) (by omega) (by omega), dyM_9 m k i (by omega)]; exact b2
  · rw [rowf_c (by omega), rowf_c (by omega), go 55 (by omega) (by omega) (by omega), dyM_9 m k i (by omega)]; exact b3
  · rw [rowf_c (by omega), rowf_c (by omega), go 55 (by omega) (by omega) (by omega), dyM_9 m k i (by omega)]; exact b4
  · rw [dyM_9 m k i (by omega)] at hc
    have hv := hw.ic hc
    rw [rowf_c (by omega), rowf_lt (by omega), g56 c hc, dyM_0]
    unfold f56 dyI
    rw [nI_add, li99]
    by_cases k0 : k = 0
    · subst k0
      have e01 : (if (0 : Nat) = 1 then m 0 c - i else m 0 c) = m 0 c := if_neg (by omega)
      rw [e01, if_pos (rfl : (0 : Nat) = 0), if_pos (rfl : (0 : Nat) = 0)]
      by_cases h9 : m 0 c + i ≤ 99
      · rw [if_pos ((nI_leI (by omega) (by omega)).mpr h9), Nat.min_eq_right h9]
      · rw [if_neg (fun z => h9 ((nI_leI (by omega) (by omega)).mp z)), Nat.min_eq_left (by omega)]
    · rw [if_neg k0, if_neg k0]
  · rw [rowf_lt hc, g57 c hc, dyM_92]
    unfold f57 dyS
    have : k = 0 ∨ k = 1 ∨ k = 2 ∨ k = 3 := by omega
    rcases this with rfl | rfl | rfl | rfl
    · simp
    · simp
    · simp only [Nat.reduceEqDiff, if_false, if_true]
      rw [li9, nI_1]
      by_cases h9 : 9 ≤ m 9 2
      · rw [if_pos ((nI_leI (by omega) (by omega)).mpr h9), Nat.min_eq_left (by omega), show m 9 2 = 9 by omega]
      · rw [if_neg (fun z => h9 ((nI_leI (by omega) (by omega)).mp z)), Nat.min_eq_right (by omega)]
    · simp; rfl
  · rw [dyM_9 m k i (by omega)] at hd
    obtain ⟨⟨a0, a1, a2, a3, a4, a5⟩, a6, a7⟩ := b7 d hd
    have ee : ∀ j, j < 8 → (rowf (rowf h1 56 (fun c => f56 k i (h1.1 56 c)) 16) 57 (fun c => f57 k (h1.1 57 c)) 16).1 58 (8 * d + j) = if k = 1 ∧ m 7 d = 1 then (if j = 5 then nI (dyC m i d) else if j = 6 ∧ dyC m i d = 0 then 0 else σ.1 58 (8 * d + j)) else σ.1 58 (8 * d + j) := fun j hj => by rw [rowf_c (by omega), rowf_c (by omega)]; exact g58 d hd j hj
    have e0 := ee 0 (by omega)
    rw [Nat.add_zero] at e0
    unfold RMd
    rw [e0, ee 1 (by omega), ee 2 (by omega), ee 3 (by omega), ee 4 (by omega), ee 5 (by omega), ee 6 (by omega), ee 7 (by omega), a0, a1, a2, a3, a4, a5, a6, dyM_f m k i (f := 1) (by omega) (by omega) (by omega) (by omega), dyM_f m k i (f := 2) (by omega) (by omega) (by omega) (by omega), dyM_f m k i (f := 3) (by omega) (by omega) (by omega) (by omega), dyM_f m k i (f := 4) (by omega) (by omega) (by omega) (by omega), dyM_f m k i (f := 5) (by omega) (by omega) (by omega) (by omega)]
    have e6 : dyM m k i 6 d = if k = 1 ∧ m 7 d = 1 then dyC m i d else m 6 d := by simp [dyM]
    have e7 : dyM m k i 7 d = if k = 1 ∧ m 7 d = 1 ∧ dyC m i d = 0 then 0 else m 7 d := by simp [dyM]
    have h72 : (dyM m k i 7 d = 2) ↔ (m 7 d = 2) := by
      rw [e7]
      by_cases g : k = 1 ∧ m 7 d = 1 ∧ dyC m i d = 0
      · rw [if_pos g]; omega
      · rw [if_neg g]
    have hwo : m 7 d = 2 → wo (dyM m k i) d = wo m d := fun z => wo_s z (h72.mpr z) (dyM_f m k i (by omega) (by omega) (by omega) (by omega)) (dyM_f m k i (by omega) (by omega) (by omega) (by omega)) (dyM_f m k i (by omega) (by omega) (by omega) (by omega))
    by_cases g : k = 1 ∧ m 7 d = 1
    · have n2 : ¬ dyM m k i 7 d = 2 := fun z => by have := h72.mp z; omega
      refine ⟨?_, ?_, fun z => absurd z n2⟩
      · rw [e6, if_pos g]; simp [g]
      · rw [e7]
        by_cases g0 : dyC m i d = 0
        · simp [g, g0]; rfl
        · simp [g, g0]
    · have n1 : ¬ (k = 1 ∧ m 7 d = 1 ∧ dyC m i d = 0) := fun z => g ⟨z.1, z.2.1⟩
      rw [e6, e7]
      simp only [if_neg g, if_neg n1, and_self, true_and]
      intro z
      rw [a7 z, hwo z]
  · rw [rowf_r q2, rowf_r q1, go c q1 q2 q3]
  · exact g2
end RDAY
