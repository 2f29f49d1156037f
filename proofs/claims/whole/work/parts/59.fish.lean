/-! cells of debts, changed one behind another -/
theorem c_isThereD {σ : Hp} {t : Nat} {m : Tw} {d : Nat} (hw : Wfd m d) (hr : RCd σ t m d) : F_X0_isThere (10 * t + d) σ = decide (m 7 d = 1) := by
  obtain ⟨⟨a0, a1, a2, a3, a4, a5⟩, h2, -⟩ := hr
  obtain ⟨-, -, -, -, -, -, -, h6, h7, h8, -⟩ := hw
  unfold F_X0_isThere
  rw [a5, h2, li0, li1]
  simp (disch := omega) only [nI_leI]
  by_cases h0 : m 7 d = 0
  · have : m 6 d = 0 := h8.mp h0
    simp [this, h0]
  · have : ¬ m 6 d = 0 := fun z => h0 (h8.mpr z)
    by_cases h22 : m 7 d = 2
    · have e : ¬ nI 1 = nI 0 := by decide +kernel
      simp [this, h22, e]
    · have h11 : m 7 d = 1 := by omega
      simp [this, h11]
theorem r_isThereD {σ : Hp} {m : Tw} {d : Nat} (hd : d < 10) (hw : Wfd m d) (hr : RMd σ 58 m d) : F_X7_isThere (nI d) σ = some (decide (m 7 d = 1)) := by
  obtain ⟨-, -, -, -, -, -, -, -, h7, -⟩ := hw
  unfold F_X7_isThere
  rw [li6, ix8 (by omega) (by omega), inb_t (by omega) (by omega), cl_nI (by omega), hr.2.1, li1]
  by_cases h : m 7 d = 1
  · simp [h]
  · have : ¬ nI (m 7 d) = nI 1 := fun z => h ((nI_eq (by omega) (by omega)).mp z)
    simp [h, this]
def cutf (τ : Hp) (t : Nat) (f : Nat → Int32) (d : Nat) : Hp := (fun c k => if k = 5 ∧ 10 * t ≤ c ∧ c < 10 * t + d then f (c - 10 * t) else τ.1 c k, τ.2)
theorem cutf_0 (τ : Hp) (t : Nat) (f : Nat → Int32) : cutf τ t f 0 = τ := by
  unfold cutf
  refine Prod.ext ?_ rfl
  funext c k
  dsimp only
  rw [if_neg (by omega)]
theorem cutf_row {τ : Hp} {t d i : Nat} {f : Nat → Int32} (h : ¬ i < d) : (cutf τ t f d).1 (10 * t + i) = τ.1 (10 * t + i) := by
  funext k
  show (if k = 5 ∧ 10 * t ≤ 10 * t + i ∧ 10 * t + i < 10 * t + d then f (10 * t + i - 10 * t) else τ.1 (10 * t + i) k) = _
  rw [if_neg (by omega)]
theorem cutf_off {τ : Hp} {t d c : Nat} {f : Nat → Int32} (h : ¬ (10 * t ≤ c ∧ c < 10 * t + d)) : (cutf τ t f d).1 c = τ.1 c := by
  funext k
  show (if k = 5 ∧ 10 * t ≤ c ∧ c < 10 * t + d then f (c - 10 * t) else τ.1 c k) = _
  rw [if_neg (fun z => h z.2)]
theorem cutf_k {τ : Hp} {t d c k : Nat} {f : Nat → Int32} (h : k ≠ 5) : (cutf τ t f d).1 c k = τ.1 c k := by
  show (if k = 5 ∧ 10 * t ≤ c ∧ c < 10 * t + d then f (c - 10 * t) else τ.1 c k) = _
  rw [if_neg (fun z => h z.1)]
theorem cutf_5 {τ : Hp} {t d i : Nat} {f : Nat → Int32} (h : i < d) : (cutf τ t f d).1 (10 * t + i) 5 = f i := by
  show (if 5 = 5 ∧ 10 * t ≤ 10 * t + i ∧ 10 * t + i < 10 * t + d then f (10 * t + i - 10 * t) else τ.1 (10 * t + i) 5) = _
  rw [if_pos (by omega), Nat.add_sub_cancel_left]
theorem cutf_up (τ : Hp) (t : Nat) (f : Nat → Int32) (d : Nat) : up (cutf τ t f d) (10 * t + d) 5 (f d) = cutf τ t f (d + 1) := by
  unfold cutf up
  refine Prod.ext ?_ rfl
  funext c k
  dsimp only
  by_cases h1 : c = 10 * t + d ∧ k = 5
  · rw [if_pos h1, if_pos (by omega), h1.1, Nat.add_sub_cancel_left]
  · rw [if_neg h1]
    by_cases h2 : k = 5 ∧ 10 * t ≤ c ∧ c < 10 * t + d
    · rw [if_pos h2, if_pos (by omega)]
    · rw [if_neg h2, if_neg (by omega)]
theorem cutf_same (τ : Hp) (t : Nat) (f : Nat → Int32) (d : Nat) (h : f d = τ.1 (10 * t + d) 5) : cutf τ t f d = cutf τ t f (d + 1) := by
  unfold cutf
  refine Prod.ext ?_ rfl
  funext c k
  dsimp only
  by_cases h1 : c = 10 * t + d ∧ k = 5
  · rw [if_neg (by omega), if_pos (by omega), h1.1, h1.2, Nat.add_sub_cancel_left, h]
  · by_cases h2 : k = 5 ∧ 10 * t ≤ c ∧ c < 10 * t + d
    · rw [if_pos h2, if_pos (by omega)]
    · rw [if_neg h2, if_neg (by omega)]
theorem rowf_skip (σ : Hp) (c : Nat) (g : Nat → Int32) {d e : Nat} (hde : d ≤ e) (h : ∀ k, d ≤ k → k < e → g k = σ.1 c k) : rowf σ c g d = rowf σ c g e := by
  unfold rowf
  refine Prod.ext ?_ rfl
  funext c' k
  dsimp only
  by_cases h1 : c' = c
  · by_cases h2 : k < d
    · rw [if_pos ⟨h1, h2⟩, if_pos ⟨h1, by omega⟩]
    · rw [if_neg (fun z => h2 z.2)]
      by_cases h3 : k < e
      · rw [if_pos ⟨h1, h3⟩, h k (by omega) h3, h1]
      · rw [if_neg (fun z => h3 z.2)]
  · rw [if_neg (fun z => h1 z.1), if_neg (fun z => h1 z.1)]
/-- two places of one debt's row changed -/
theorem rowf_two (σ : Hp) (c : Nat) (g : Nat → Int32) (d : Nat) (h : ∀ j, j < 8 → j ≠ 5 → j ≠ 6 → g (8 * d + j) = σ.1 c (8 * d + j)) : up (up (rowf σ c g (8 * d)) c (8 * d + 6) (g (8 * d + 6))) c (8 * d + 5) (g (8 * d + 5)) = rowf σ c g (8 * (d + 1)) := by
  unfold rowf up
  refine Prod.ext ?_ rfl
  funext c' k
  dsimp only
  by_cases h1 : c' = c
  · by_cases h5 : k = 8 * d + 5
    · rw [if_pos ⟨h1, h5⟩, if_pos ⟨h1, by omega⟩, h5]
    · rw [if_neg (fun z => h5 z.2)]
      by_cases h6 : k = 8 * d + 6
      · rw [if_pos ⟨h1, h6⟩, if_pos ⟨h1, by omega⟩, h6]
      · rw [if_neg (fun z => h6 z.2)]
        by_cases h2 : k < 8 * d
        · rw [if_pos ⟨h1, h2⟩, if_pos ⟨h1, by omega⟩]
        · rw [if_neg (fun z => h2 z.2)]
          by_cases h3 : k < 8 * (d + 1)
          · rw [if_pos ⟨h1, h3⟩]
            have := h (k - 8 * d) (by omega) (by omega) (by omega)
            rw [show 8 * d + (k - 8 * d) = k by omega] at this
            rw [this, h1]
          · rw [if_neg (fun z => h3 z.2)]
  · rw [if_neg (fun z => h1 z.1), if_neg (fun z => h1 z.1), if_neg (fun z => h1 z.1), if_neg (fun z => h1 z.1)]
section FISH
variable {σ : Hp} {m : Tw} {kp : Option Tw} {pg : Nat → Nat} {pn ld lk : Nat}
def fiN (m : Tw) (j : Nat) : Tw := fun f y => if f = 0 ∧ y = j then 0 else if (f = 6 ∨ f = 7) ∧ m 7 y = 1 ∧ m 2 y = j then 0 else m f y
def fiA (m : Tw) (x : Int32) : Int32 := if inb x (m 9 1) = true then (if m 0 x.toNatClampNeg = 0 then -103 else thI m x) else -101
def fiOk (m : Tw) (x : Int32) : Prop := inb x (m 9 1) = true ∧ m 0 x.toNatClampNeg ≠ 0
theorem c_makeHole (hw : Wf m) (hr : RCt σ 0 m) {j : Nat} (hj : j < m 9 1) : F_X5_makeHole 0 (nI j) σ = some (thI m (nI j), cutf (up σ 33 j 0) 0 (fun d => nI (if m 7 d = 1 ∧ m 2 d = j then 0 else m 6 d)) (m 9 4)) := by
  have hn := hw.nd
  have hs := hw.sq
  unfold F_X5_makeHole
  rw [inb_t (by omega) (by omega), cl_nI (by omega), if_pos rfl, lt_p]
  have e4 : (up σ 33 j 0).1 30 4 = nI (m 9 4) := by rw [up_c (by omega)]; exact hr.1 4 (by omega)
  have h := lp (fun n (x : Int32 × Int32 × Hp) => F_X5_makeHole_11 0 n (nI j) x.1 x.2.1 x.2.2) (m 9 4) (fun d => (sumI (fun i => b2i (decide (m 7 i = 1 ∧ nI (m 2 i) = nI j))) d, nI d, cutf (up σ 33 j 0) 0 (fun d => nI (if m 7 d = 1 ∧ m 2 d = j then 0 else m 6 d)) d)) (some (thI m (nI j), cutf (up σ 33 j 0) 0 (fun d => nI (if m 7 d = 1 ∧ m 2 d = j then 0 else m 6 d)) (m 9 4))) ?_ ?_ fuel 0 (by omega) (by have := fuel_ge; omega)
  · have h2 : F_X5_makeHole_11 0 fuel (nI j) 0 (nI 0) (cutf (up σ 33 j 0) 0 (fun d => nI (if m 7 d = 1 ∧ m 2 d = j then 0 else m 6 d)) 0) = _ := h
    rw [cutf_0] at h2
    exact h2
  · intro n
    show F_X5_makeHole_11 0 (n + 1) (nI j) _ (nI (m 9 4)) _ = _
    rw [F_X5_makeHole_11, cutf_off (by omega), show 30 + 0 = 30 from rfl, e4, if_pos (nle.mp (fun z => by have := (nI_ltI (by omega) (by omega)).mp z; omega))]
    rfl
  · intro n d hd
    obtain ⟨w1, w2, -⟩ := hw.d hd
    show F_X5_makeHole_11 0 (n + 1) (nI j) _ (nI d) _ = F_X5_makeHole_11 0 n (nI j) _ (nI (d + 1)) _
    have hrd : RCd (cutf (up σ 33 j 0) 0 (fun d => nI (if m 7 d = 1 ∧ m 2 d = j then 0 else m 6 d)) d) 0 m d := (hr.2.2 d hd).keep (by rw [cutf_row (by omega), up_off (by omega)])
    rw [F_X5_makeHole_11, cutf_off (c := 30 + 0) (by omega), show 30 + 0 = 30 from rfl, e4, if_neg (le_no (by omega) (by omega) hd), inb_t (by omega) (by omega), cl_nI (by omega), c_isThereD (hw.d hd) hrd, hrd.1.2.1]
    have e5 : (up σ 33 j 0).1 (10 * 0 + d) 5 = nI (m 6 d) := by rw [up_c (by omega)]; exact (hr.2.2 d hd).1.2.2.2.2.2
    simp only [if_true, F_X5_makeHole_57, lt_p, decide_eq_true_eq, nI_1]
    by_cases h7 : m 7 d = 1
    · rw [if_pos h7]
      by_cases hp : m 2 d = j
      · rw [if_pos (by rw [hp])]
        have hu := cutf_up (up σ 33 j 0) 0 (fun d => nI (if m 7 d = 1 ∧ m 2 d = j then 0 else m 6 d)) d
        rw [if_pos ⟨h7, hp⟩, ← li0] at hu
        rw [hu]
        congr 1
        show _ = sumI _ d + b2i _
        simp [h7, hp, b2i]
      · have hpn : ¬ nI (m 2 d) = nI j := fun z => hp ((nI_eq (by omega) (by omega)).mp z)
        rw [if_neg hpn, cutf_same (up σ 33 j 0) 0 _ d (by rw [if_neg (fun z => hp z.2), e5])]
        congr 1
        show _ = sumI _ d + b2i _
        simp [hpn, b2i]
    · rw [if_neg h7, cutf_same (up σ 33 j 0) 0 _ d (by rw [if_neg (fun z => h7 z.1), e5])]
      congr 1
      show _ = sumI _ d + b2i _
      simp [h7, b2i]
theorem fiN_9 (m : Tw) (j x : Nat) : fiN m j 9 x = m 9 x := by simp [fiN]
theorem fiN_f (m : Tw) (j : Nat) {f x : Nat} (h0 : f ≠ 0) (h6 : f ≠ 6) (h7 : f ≠ 7) : fiN m j f x = m f x := by simp [fiN, h0, h6, h7]
theorem c_fish (hw : WfG m kp pg pn ld) (hr : RC σ m kp pg pn ld) (x : Int32) : ∃ τ, F_X6_fish x σ = some (fiA m x, τ) ∧ (fiOk m x → RC τ (fiN m x.toNatClampNeg) kp pg pn ld) ∧ (¬ fiOk m x → τ = σ) ∧ FrC σ τ := by
  have hn := hw.1.nd
  have hs := hw.1.sq
  obtain ⟨hr1, hr2⟩ := hr
  unfold F_X6_fish fiA
  rw [c_hasSquare hw.1 hr1]
  by_cases h1 : inb x (m 9 1) = true
  · obtain ⟨j, hj, rfl⟩ := inb_of (by omega) h1
    have hi := hw.1.ic hj
    have e3 : σ.1 33 j = nI (m 0 j) := hr1.2.1 j hj
    rw [if_pos h1, if_pos h1, cl_nI (by omega), inb_t (by omega) (by omega), if_pos rfl, e3, c_makeHole hw.1 hr1 hj]
    by_cases h2 : m 0 j = 0
    · rw [if_pos (by rw [h2]; rfl), if_pos h2]
      exact ⟨σ, rfl, fun h => absurd (by rw [cl_nI (by omega)]; exact h2) h.2, fun _ => rfl, FrC.rf⟩
    · rw [if_neg (show ¬ nI (m 0 j) = 0 from fun z => h2 ((nI_eq (b := 0) (by omega) (by omega)).mp z)), if_neg h2, Option.bind_some]
      refine ⟨_, rfl, fun _ => ⟨⟨fun k hk => ?_, fun c hc => ?_, fun d hd => ?_⟩, RC'.keep hw.kn (fun c hc => ?_) hr2⟩, fun h => absurd ⟨h1, by rw [cl_nI (by omega)]; exact h2⟩ h, ?_⟩
      · rw [cutf_off (by omega), up_c (by omega), fiN_9]; exact hr1.1 k hk
      · rw [fiN_9] at hc
        rw [cutf_off (by omega)]
        by_cases e : c = j
        · subst e; rw [show 33 + 0 = 33 from rfl, up_s]; simp [fiN, li0]
        · rw [up_k e]
          have : fiN m j 0 c = m 0 c := by simp [fiN, e]
          rw [this]; exact hr1.2.1 c hc
      · rw [fiN_9] at hd
        obtain ⟨⟨a0, a1, a2, a3, a4, a5⟩, a6, a7⟩ := hr1.2.2 d hd
        have eo : ∀ k, k ≠ 5 → (cutf (up σ 33 j 0) 0 (fun d => nI (if m 7 d = 1 ∧ m 2 d = j then 0 else m 6 d)) (m 9 4)).1 (10 * 0 + d) k = σ.1 (10 * 0 + d) k := fun k hk => by rw [cutf_k hk, up_c (by omega)]
        unfold RCd
        rw [eo 0 (by omega), eo 1 (by omega), eo 2 (by omega), eo 3 (by omega), eo 4 (by omega), eo 6 (by omega), eo 7 (by omega), cutf_5 hd, fiN_f m j (f := 1) (by omega) (by omega) (by omega), fiN_f m j (f := 2) (by omega) (by omega) (by omega), fiN_f m j (f := 3) (by omega) (by omega) (by omega), fiN_f m j (f := 4) (by omega) (by omega) (by omega), fiN_f m j (f := 5) (by omega) (by omega) (by omega), fiN_f m j (f := 8) (by omega) (by omega) (by omega)]
        refine ⟨⟨a0, a1, a2, a3, a4, ?_⟩, ?_, ?_⟩
        · simp [fiN]
        · rw [a6]
          by_cases h7 : m 7 d = 2
          · simp [fiN, h7]
          · have : ¬ fiN m j 7 d = 2 := by
              simp only [fiN]
              simp
              split
              · omega
              · exact h7
            simp [h7, this]
        · intro h7
          have : m 7 d = 2 := by
            by_cases g : m 7 d = 1 ∧ m 2 d = j
            · simp [fiN, g] at h7
            · simpa [fiN, g] using h7
          exact a7 this
      · rw [cutf_off (by omega), up_off (by omega)]
      · refine FrC.tr (τ := up σ 33 j 0) (FrC.up (by omega)) ⟨fun c hc => ?_, rfl⟩
        exact cutf_off (τ := up σ 33 j 0) (f := fun d => nI (if m 7 d = 1 ∧ m 2 d = j then 0 else m 6 d)) (t := 0) (d := m 9 4) (c := c) (by omega)
  · rw [if_neg h1, if_neg h1]
    exact ⟨σ, rfl, fun h => absurd h.1 h1, fun _ => rfl, FrC.rf⟩
theorem r_fishloop (hw : Wf m) (hr : RMc σ m) {j : Nat} (hj : j < m 9 1) (v : Int32) : F_X7_fish_31 fuel (nI j) v 0 σ = some (v, up (rowf σ 58 (fun k => if (k % 8 = 5 ∨ k % 8 = 6) ∧ m 7 (k / 8) = 1 ∧ m 2 (k / 8) = j then 0 else σ.1 58 k) (8 * m 9 4)) 56 j 0) := by
  have hn := hw.nd
  have hs := hw.sq
  generalize hg : (fun k => if (k % 8 = 5 ∨ k % 8 = 6) ∧ m 7 (k / 8) = 1 ∧ m 2 (k / 8) = j then 0 else σ.1 58 k) = g
  have h := lp (fun n (x : Int32 × Hp) => F_X7_fish_31 n (nI j) v x.1 x.2) (m 9 4) (fun d => (nI d, rowf σ 58 g (8 * d))) (some (v, up (rowf σ 58 g (8 * m 9 4)) 56 j 0)) ?_ ?_ fuel 0 (by omega) (by have := fuel_ge; omega)
  · have h2 : F_X7_fish_31 fuel (nI j) v (nI 0) (rowf σ 58 g 0) = _ := h
    rw [rowf_0] at h2
    exact h2
  · intro n
    show F_X7_fish_31 (n + 1) (nI j) v (nI (m 9 4)) _ = _
    rw [F_X7_fish_31, rowf_c (by omega), hr.2.2.2.1, if_pos (nle.mp (fun z => by have := (nI_ltI (by omega) (by omega)).mp z; omega)), inb_t (by omega) (by omega), cl_nI (by omega), if_pos rfl, lt_p]
  · intro n d hd
    obtain ⟨w1, w2, -⟩ := hw.d hd
    show F_X7_fish_31 (n + 1) (nI j) v (nI d) _ = F_X7_fish_31 n (nI j) v (nI (d + 1)) _
    have hrd : RMd (rowf σ 58 g (8 * d)) 58 m d := (hr.2.2.2.2.2.2 d hd).keep (fun i hi => rowf_ge (by omega))
    rw [F_X7_fish_31, rowf_c (by omega), hr.2.2.2.1, if_neg (le_no (by omega) (by omega) hd), r_isThereD (by omega) (hw.d hd) hrd, Option.bind_some]
    unfold F_X7_lose
    simp (disch := omega) only [li1, li5, li6, ix8, inb_t, cl_nI, if_true, F_X7_fish_67, decide_eq_true_eq, nI_add, hrd.1.2.1, lt_p, Option.bind_some]
    have hq : ∀ i, i < 8 → g (8 * d + i) = if (i = 5 ∨ i = 6) ∧ m 7 d = 1 ∧ m 2 d = j then 0 else σ.1 58 (8 * d + i) := by
      intro i hi
      rw [← hg]
      dsimp only
      rw [show (8 * d + i) % 8 = i by omega, show (8 * d + i) / 8 = d by omega]
    by_cases h7 : m 7 d = 1 ∧ m 2 d = j
    · have g5 := hq 5 (by omega)
      have g6 := hq 6 (by omega)
      rw [if_pos ⟨Or.inl rfl, h7⟩] at g5
      rw [if_pos ⟨Or.inr rfl, h7⟩] at g6
      have ht := rowf_two σ 58 g d (fun i hi n5 n6 => by rw [hq i hi, if_neg (fun z => by have := z.1; omega)])
      rw [g5, g6] at ht
      rw [if_pos h7.1, if_pos (by rw [h7.2]), ht]
    · have hsk : rowf σ 58 g (8 * d) = rowf σ 58 g (8 * (d + 1)) := rowf_skip σ 58 g (by omega) (fun k hk1 hk2 => by
        have := hq (k - 8 * d) (by omega)
        rw [show 8 * d + (k - 8 * d) = k by omega, if_neg (fun z => h7 z.2)] at this
        exact this)
      rw [hsk]
      by_cases h1 : m 7 d = 1
      · have hp : ¬ m 2 d = j := fun z => h7 ⟨h1, z⟩
        rw [if_pos h1, if_neg (fun z => hp ((nI_eq (by omega) (by omega)).mp z))]
      · rw [if_neg h1]
theorem r_fish (hw : WfG m kp pg pn ld) (hr : RM σ m kp pg pn ld lk) (x : Int32) : ∃ τ, F_X7_fish x σ = some (fiA m x, τ) ∧ (fiOk m x → RM τ (fiN m x.toNatClampNeg) kp pg pn ld lk) ∧ (¬ fiOk m x → τ = σ) ∧ FrM σ τ := by
  have hn := hw.1.nd
  have hs := hw.1.sq
  obtain ⟨hr1, hr2⟩ := hr
  unfold F_X7_fish fiA
  rw [r_isSquare hw.1 hr1, r_thereIn hw.1 hr1]
  by_cases h1 : inb x (m 9 1) = true
  · obtain ⟨j, hj, rfl⟩ := inb_of (by omega) h1
    have hi := hw.1.ic hj
    have e3 := hr1.2.2.2.2.1 j hj
    rw [if_pos h1, if_pos h1, cl_nI (by omega), inb_t (by omega) (by omega), if_pos rfl, e3, Option.bind_some, r_fishloop hw.1 hr1 hj]
    by_cases h2 : m 0 j = 0
    · rw [if_pos (by rw [h2]; rfl), if_pos h2]
      exact ⟨σ, rfl, fun h => absurd (by rw [cl_nI (by omega)]; exact h2) h.2, fun _ => rfl, FrM.rf⟩
    · rw [if_neg (show ¬ nI (m 0 j) = 0 from fun z => h2 ((nI_eq (b := 0) (by omega) (by omega)).mp z)), if_neg h2]
      obtain ⟨⟨r, c1, c2, c3⟩, b2, b3, b4, b5, b6, b7⟩ := hr1
      refine ⟨_, rfl, fun _ => ⟨⟨⟨r, c1, ?_, ?_⟩, ?_, ?_, ?_, fun c hc => ?_, fun c hc => ?_, fun d hd => ?_⟩, RM'.keep (fun k hk => ?_) (fun c hc => ?_) hr2⟩, fun h => absurd ⟨h1, by rw [cl_nI (by omega)]; exact h2⟩ h, (FrM.rowf (by omega)).tr (FrM.up (by omega))⟩
      · rw [up_c (by omega), rowf_c (by omega)]; exact c2
      · rw [fiN_9, fiN_9]; exact c3
      · rw [up_c (by omega), rowf_c (by omega), fiN_9]; exact b2
      · rw [up_c (by omega), rowf_c (by omega), fiN_9]; exact b3
      · rw [up_c (by omega), rowf_c (by omega), fiN_9]; exact b4
      · rw [fiN_9] at hc
        by_cases e : c = j
        · subst e; rw [up_s]; simp [fiN, li0]
        · rw [up_k e, rowf_c (by omega)]
          have : fiN m j 0 c = m 0 c := by simp [fiN, e]
          rw [this]; exact b5 c hc
      · rw [up_c (by omega), rowf_c (by omega), fiN_9]; exact b6 c hc
      · rw [fiN_9] at hd
        obtain ⟨⟨a0, a1, a2, a3, a4, a5⟩, a6, a7⟩ := b7 d hd
        have key : ∀ i, i < 8 → (up (rowf σ 58 (fun k => if (k % 8 = 5 ∨ k % 8 = 6) ∧ m 7 (k / 8) = 1 ∧ m 2 (k / 8) = j then 0 else σ.1 58 k) (8 * m 9 4)) 56 j 0).1 58 (8 * d + i) = if (i = 5 ∨ i = 6) ∧ m 7 d = 1 ∧ m 2 d = j then 0 else σ.1 58 (8 * d + i) := by
          intro i hi
          rw [up_c (by omega), rowf_lt (by omega), show (8 * d + i) % 8 = i by omega, show (8 * d + i) / 8 = d by omega]
        have k0 := key 0 (by omega)
        rw [Nat.add_zero] at k0
        unfold RMd
        rw [k0, key 1 (by omega), key 2 (by omega), key 3 (by omega), key 4 (by omega), key 5 (by omega), key 6 (by omega), key 7 (by omega), a0, a1, a2, a3, a4, a5, a6, fiN_f m j (f := 1) (by omega) (by omega) (by omega), fiN_f m j (f := 2) (by omega) (by omega) (by omega), fiN_f m j (f := 3) (by omega) (by omega) (by omega), fiN_f m j (f := 4) (by omega) (by omega) (by omega), fiN_f m j (f := 5) (by omega) (by omega) (by omega)]
        by_cases g : m 7 d = 1 ∧ m 2 d = j
        · simp [fiN, g, li0]
        · have f6 : fiN m j 6 d = m 6 d := by simp [fiN, g]
          have f7 : fiN m j 7 d = m 7 d := by simp [fiN, g]
          rw [f6, f7]
          simp only [g, and_false, if_false, and_self, true_and]
          intro h7
          rw [a7 h7, wo_s (m := m) (m' := fiN m j) h7 (by rw [f7]; exact h7) (fiN_f m j (by omega) (by omega) (by omega)) (fiN_f m j (by omega) (by omega) (by omega)) (fiN_f m j (by omega) (by omega) (by omega))]
      · rw [up_c (by omega), rowf_c (by omega)]
      · rw [up_off (by omega), rowf_r (by omega)]
  · rw [if_neg h1, if_neg h1]
    exact ⟨σ, rfl, fun h => absurd h.1 h1, fun _ => rfl, FrM.rf⟩
theorem w_fish (hw : WfG m kp pg pn ld) (j : Nat) : WfG (fiN m j) kp pg pn ld := by
  obtain ⟨⟨h1, h2, h3, h4, h5⟩, h6, h7⟩ := hw
  refine ⟨⟨by simpa only [fiN_9] using h1, by rw [fiN_9]; exact h2, by rw [fiN_9]; exact h3, fun c hc => ?_, fun d hd => ?_⟩, fun k hk => by simpa only [fiN_9] using h6 k hk, h7⟩
  · rw [fiN_9] at hc
    by_cases e : c = j
    · simp [fiN, e]
    · have : fiN m j 0 c = m 0 c := by simp [fiN, e]
      rw [this]; exact h4 c hc
  · rw [fiN_9] at hd
    have hd2 := h5 d hd
    unfold Wfd at hd2 ⊢
    rw [fiN_9, fiN_f m j (f := 1) (by omega) (by omega) (by omega), fiN_f m j (f := 2) (by omega) (by omega) (by omega), fiN_f m j (f := 3) (by omega) (by omega) (by omega), fiN_f m j (f := 4) (by omega) (by omega) (by omega), fiN_f m j (f := 5) (by omega) (by omega) (by omega), fiN_f m j (f := 8) (by omega) (by omega) (by omega)]
    by_cases g : m 7 d = 1 ∧ m 2 d = j
    · have f6 : fiN m j 6 d = 0 := by simp [fiN, g]
      have f7 : fiN m j 7 d = 0 := by simp [fiN, g]
      rw [f6, f7]
      omega
    · have f6 : fiN m j 6 d = m 6 d := by simp [fiN, g]
      have f7 : fiN m j 7 d = m 7 d := by simp [fiN, g]
      rw [f6, f7]
      exact hd2
end FISH
