/-! a day goes by -/
def dyI (k i v : Nat) : Nat := if k = 0 then min 99 (v + i) else if k = 1 then v - i else v
def dyS (k s : Nat) : Nat := if k = 2 then min 9 (s + 1) else if k = 1 ∨ k = 3 then 0 else s
def lost (kd i : Nat) : Nat := if kd = 4 then (i + 1) / 2 else i
def dyC (m : Tw) (i d : Nat) : Nat := if m 1 d = 3 ∨ m 0 (m 2 d) - i = 0 then 0 else m 6 d - lost (m 1 d) i
def dyM (m : Tw) (k i : Nat) : Tw := fun f x => if f = 0 then dyI k i (m 0 x) else if f = 6 then (if k = 1 ∧ m 7 x = 1 then dyC m i x else m 6 x) else if f = 7 then (if k = 1 ∧ m 7 x = 1 ∧ dyC m i x = 0 then 0 else m 7 x) else if f = 9 ∧ x = 2 then dyS k (m 9 2) else m f x
def goI (m : Tw) (k i : Nat) : Int32 := if k = 1 then sumI (fun d => b2i (decide (m 7 d = 1 ∧ dyC m i d = 0))) (m 9 4) else 0
theorem dyM_0 (m : Tw) (k i x : Nat) : dyM m k i 0 x = dyI k i (m 0 x) := by simp [dyM]
theorem dyM_9 (m : Tw) (k i : Nat) {x : Nat} (h : x ≠ 2) : dyM m k i 9 x = m 9 x := by simp [dyM, h]
theorem dyM_92 (m : Tw) (k i : Nat) : dyM m k i 9 2 = dyS k (m 9 2) := by simp [dyM]
theorem dyM_f (m : Tw) (k i : Nat) {f x : Nat} (h0 : f ≠ 0) (h6 : f ≠ 6) (h7 : f ≠ 7) (h9 : f ≠ 9) : dyM m k i f x = m f x := by simp [dyM, h0, h6, h7, h9]
theorem w_day {m : Tw} (hw : Wf m) (k i : Nat) : Wf (dyM m k i) := by
  obtain ⟨h1, h2, h3, h4, h5⟩ := hw
  refine ⟨?_, ?_, ?_, fun c hc => ?_, fun d hd => ?_⟩
  · rw [dyM_9 m k i (by omega), dyM_9 m k i (by omega)]; exact h1
  · rw [dyM_92]; unfold dyS; split
    · omega
    · split <;> omega
  · rw [dyM_9 m k i (by omega)]; exact h3
  · rw [dyM_9 m k i (by omega)] at hc
    have := h4 c hc
    rw [dyM_0]; unfold dyI
    split
    · omega
    · split <;> omega
  · rw [dyM_9 m k i (by omega)] at hd
    obtain ⟨w1, w2, w3, w4, w5, w6, w7, w8, w9, w10, w11⟩ := h5 d hd
    unfold Wfd
    rw [dyM_9 m k i (by omega), dyM_f m k i (f := 1) (by omega) (by omega) (by omega) (by omega), dyM_f m k i (f := 2) (by omega) (by omega) (by omega) (by omega), dyM_f m k i (f := 3) (by omega) (by omega) (by omega) (by omega), dyM_f m k i (f := 4) (by omega) (by omega) (by omega) (by omega), dyM_f m k i (f := 5) (by omega) (by omega) (by omega) (by omega), dyM_f m k i (f := 8) (by omega) (by omega) (by omega) (by omega)]
    have hC : dyC m i d ≤ 18 := by unfold dyC; split <;> omega
    have e6 : dyM m k i 6 d = if k = 1 ∧ m 7 d = 1 then dyC m i d else m 6 d := by simp [dyM]
    have e7 : dyM m k i 7 d = if k = 1 ∧ m 7 d = 1 ∧ dyC m i d = 0 then 0 else m 7 d := by simp [dyM]
    rw [e6, e7]
    refine ⟨w1, w2, w3, w4, w5, w6, w7, ?_, ?_, ?_, w11⟩
    · split <;> omega
    · split <;> omega
    · by_cases g1 : k = 1 ∧ m 7 d = 1
      · rw [if_pos g1]
        by_cases g2 : dyC m i d = 0
        · rw [if_pos ⟨g1.1, g1.2, g2⟩]; simp [g2]
        · rw [if_neg (fun z => g2 z.2.2)]; omega
      · rw [if_neg g1, if_neg (fun z => g1 ⟨z.1, z.2.1⟩)]; exact w10
theorem imin_nI {a b : Nat} (ha : a < 2 ^ 31) (hb : b < 2 ^ 31) : imin (nI a) (nI b) = nI (min a b) := by
  unfold imin
  by_cases h : b < a
  · rw [if_pos ((nI_ltI hb ha).mpr h), Nat.min_eq_right (by omega)]
  · rw [if_neg (fun z => h ((nI_ltI hb ha).mp z)), Nat.min_eq_left (by omega)]
theorem imax0_sub {a b : Nat} (ha : a < 2 ^ 30) (hb : b < 2 ^ 30) : imax 0 (nI a - nI b) = nI (a - b) := by
  unfold imax
  by_cases h : b ≤ a
  · rw [pk_sub h]
    by_cases h0 : a - b = 0
    · rw [h0, if_neg (by decide +kernel)]; rfl
    · rw [if_pos (show (0 : Int32) < nI (a - b) from (nI_ltI (a := 0) (b := a - b) (by omega) (by omega)).mpr (by omega))]
  · have := pk_sneg (a := a) (b := b) hb (by omega)
    rw [if_neg (nle.mpr (by rw [Int32.le_iff_toInt_le]; rw [Int32.lt_iff_toInt_lt] at this; omega)), show a - b = 0 by omega]; rfl
theorem c_iceBehind {k i v : Nat} (hk : k ≤ 3) (hi : i ≤ 9) (hv : v ≤ 99) (σ : Hp) : F_X6_iceBehind (nI k) (nI i) (nI v) σ = nI (dyI k i v) := by
  unfold F_X6_iceBehind dyI
  rw [li99, nI_add, imin_nI (by omega) (by omega), imax0_sub (by omega) (by omega), li0, li1]
  simp (disch := omega) only [nI_eq]
  split
  · rfl
  · split <;> rfl
theorem c_cutBehind {kd c i v : Nat} (hk : kd ≤ 4) (hc : c ≤ 18) (hi : i ≤ 9) (hv : v ≤ 99) (σ : Hp) : F_X0_cutBehindThaw (nI kd) (nI c) (nI i) (nI v) σ = nI (if kd = 3 ∨ v = 0 then 0 else c - lost kd i) := by
  unfold F_X0_cutBehindThaw F_X0_cutBehindThaw_25 lost
  rw [nI_1, li2, pk_div (by omega) (by omega) (by omega), imax0_sub (by omega) (by omega), imax0_sub (by omega) (by omega), li0, li3, li4]
  simp (disch := omega) only [nI_eq]
  by_cases h3 : kd = 3
  · simp [h3]
  · by_cases h0 : v = 0
    · simp [h0]
    · by_cases h4 : kd = 4
      · simp [h4, h0]
      · simp [h3, h0, h4]
theorem c_iceUnderG {σ : Hp} {t d p sq : Nat} {v : Int32} (hd : d < 10) (hs : sq ≤ 16) (hp : p < sq) (h1 : σ.1 (10 * t + d) 1 = nI p) (h2 : σ.1 (30 + t) 1 = nI sq) (h3 : σ.1 (33 + t) p = v) : F_X5_iceUnder t (nI d) σ = some v := by
  unfold F_X5_iceUnder F_X5_hasSquare
  rw [inb_t (by omega) (by omega), cl_nI (by omega), if_pos rfl, lt_p, h1, h2, if_neg (nI_pos (by omega)), if_neg (le_no (by omega) (by omega) hp), if_pos rfl, inb_t (by omega) (by omega), if_pos rfl, cl_nI (by omega), h3]
section DAY
variable {σ : Hp} {m : Tw}
theorem c_melt {t i : Nat} {h2 : Hp} (ht : t < 3) (hi : i ≤ 9) (hw : Wf m) (hd : ∀ d, d < m 9 4 → RCd h2 t m d) (h31 : h2.1 (30 + t) 1 = nI (m 9 1)) (h34 : h2.1 (30 + t) 4 = nI (m 9 4)) (hic : ∀ c, c < m 9 1 → h2.1 (33 + t) c = nI (m 0 c - i)) : F_X5_meltCuts t (nI i) h2 = some (goI m 1 i, cutf h2 t (fun d => nI (if m 7 d = 1 then dyC m i d else m 6 d)) (m 9 4)) := by
  have hn := hw.nd
  have hs := hw.sq
  unfold F_X5_meltCuts
  have h := lp (fun n (x : Int32 × Int32 × Hp) => F_X5_meltCuts_4 t n (nI i) x.1 x.2.1 x.2.2) (m 9 4) (fun d => (sumI (fun d => b2i (decide (m 7 d = 1 ∧ dyC m i d = 0))) d, nI d, cutf h2 t (fun d => nI (if m 7 d = 1 then dyC m i d else m 6 d)) d)) (some (goI m 1 i, cutf h2 t (fun d => nI (if m 7 d = 1 then dyC m i d else m 6 d)) (m 9 4))) ?_ ?_ fuel 0 (by omega) (by have := fuel_ge; omega)
  · have h3 : F_X5_meltCuts_4 t fuel (nI i) 0 (nI 0) (cutf h2 t (fun d => nI (if m 7 d = 1 then dyC m i d else m 6 d)) 0) = _ := h
    rw [cutf_0] at h3
    exact h3
  · intro n
    show F_X5_meltCuts_4 t (n + 1) (nI i) _ (nI (m 9 4)) _ = _
    rw [F_X5_meltCuts_4, cutf_off (by omega), h34, if_pos (nle.mp (fun z => by have := (nI_ltI (by omega) (by omega)).mp z; omega))]
    rfl
  · intro n d hdd
    obtain ⟨w1, w2, w3, w4, w5, w6, w7, w8, w9, w10, w11⟩ := hw.d hdd
    have hice := hw.ic w2
    show F_X5_meltCuts_4 t (n + 1) (nI i) _ (nI d) _ = F_X5_meltCuts_4 t n (nI i) _ (nI (d + 1)) _
    have hrd : RCd (cutf h2 t (fun d => nI (if m 7 d = 1 then dyC m i d else m 6 d)) d) t m d := (hd d hdd).keep (cutf_row (by omega))
    have e5 : h2.1 (10 * t + d) 5 = nI (m 6 d) := (hd d hdd).1.2.2.2.2.2
    rw [F_X5_meltCuts_4, cutf_off (c := 30 + t) (by omega), h34, if_neg (le_no (by omega) (by omega) hdd), inb_t (by omega) (by omega), cl_nI (by omega), c_isThereD (hw.d hdd) hrd, c_iceUnderG (v := nI (m 0 (m 2 d) - i)) (by omega) (by omega) w2 hrd.1.2.1 (by rw [cutf_off (by omega)]; exact h31) (by rw [cutf_off (by omega)]; exact hic _ w2), hrd.1.1, hrd.1.2.2.2.2.2]
    simp only [if_true, Option.bind_some, lt_p, F_X5_meltCuts_78, F_X5_meltCuts_80, nI_1, decide_eq_true_eq]
    by_cases h7 : m 7 d = 1
    · rw [if_pos h7, c_cutBehind w1 w8 hi (by omega), up_s]
      have hC : dyC m i d ≤ 18 := by unfold dyC; split <;> omega
      have hu := cutf_up h2 t (fun d => nI (if m 7 d = 1 then dyC m i d else m 6 d)) d
      rw [if_pos h7] at hu
      rw [show (if m 1 d = 3 ∨ m 0 (m 2 d) - i = 0 then 0 else m 6 d - lost (m 1 d) i) = dyC m i d from rfl, hu]
      by_cases h0 : dyC m i d = 0
      · rw [if_pos (by rw [h0]; rfl)]
        congr 1
        show _ = sumI _ d + b2i _
        simp [h7, h0]
      · rw [if_neg (show ¬ nI (dyC m i d) = 0 from fun z => h0 ((nI_eq (b := 0) (by omega) (by omega)).mp z))]
        congr 1
        show _ = sumI _ d + b2i _
        simp [h0]
    · rw [if_neg h7, cutf_same h2 t _ d (by rw [if_neg h7, e5])]
      congr 1
      show _ = sumI _ d + b2i _
      simp [h7, b2i]
theorem c_passDay {t k i : Nat} (ht : t < 3) (hk : k ≤ 3) (hi : i ≤ 9) (hw : Wf m) (hr : RCt σ t m) : ∃ τ, F_X5_passDay t (nI k) (nI i) σ = some (goI m k i, τ) ∧ RCt τ t (dyM m k i) ∧ (∀ c, ¬ (c = 30 + t ∨ c = 33 + t ∨ (10 * t ≤ c ∧ c < 10 * t + 10)) → τ.1 c = σ.1 c) ∧ τ.2 = σ.2 := by
  have hn := hw.nd
  have hs := hw.sq
  have hsn : m 9 2 ≤ 9 := hw.2.1
  have e2 := hr.1 2 (by omega)
  -- the snow
  have hsnow : ∃ h1 : Hp, F_X5_passDay t (nI k) (nI i) σ = F_X5_passDay_40 t fuel (nI k) (nI i) 0 h1 ∧ h1.1 (30 + t) 2 = nI (dyS k (m 9 2)) ∧ (∀ q, q ≠ 2 → h1.1 (30 + t) q = σ.1 (30 + t) q) ∧ (∀ c, c ≠ 30 + t → h1.1 c = σ.1 c) ∧ h1.2 = σ.2 := by
    unfold F_X5_passDay F_X5_passDay_33 dyS
    rw [e2, li1, li2, li3, li9, nI_add, imin_nI (by omega) (by omega)]
    simp (disch := omega) only [nI_eq, lt_p]
    have : k = 0 ∨ k = 1 ∨ k = 2 ∨ k = 3 := by omega
    rcases this with rfl | rfl | rfl | rfl
    · exact ⟨σ, rfl, by simpa using e2, fun _ _ => rfl, fun _ _ => rfl, rfl⟩
    · exact ⟨up σ (30 + t) 2 0, rfl, by rw [up_s]; rfl, fun q hq => up_k hq, fun c hc => up_off hc, rfl⟩
    · exact ⟨up σ (30 + t) 2 (nI (min 9 (m 9 2 + 1))), rfl, by rw [up_s]; simp, fun q hq => up_k hq, fun c hc => up_off hc, rfl⟩
    · exact ⟨up σ (30 + t) 2 0, rfl, by rw [up_s]; rfl, fun q hq => up_k hq, fun c hc => up_off hc, rfl⟩
  obtain ⟨h1, hF, hq2, hq, ho, hsnd⟩ := hsnow
  rw [hF]
  have e11 : h1.1 (30 + t) 1 = nI (m 9 1) := by rw [hq 1 (by omega)]; exact hr.1 1 (by omega)
  have e33 : ∀ c, c < m 9 1 → h1.1 (33 + t) c = nI (m 0 c) := fun c hc => by rw [ho _ (by omega)]; exact hr.2.1 c hc
  generalize h2e : rowf h1 (33 + t) (fun c => nI (dyI k i (m 0 c))) (m 9 1) = h2
  have o2 : ∀ c, c ≠ 33 + t → h2.1 c = h1.1 c := fun c hc => by rw [← h2e, rowf_r hc]
  have hice2 : ∀ c, c < m 9 1 → h2.1 (33 + t) c = nI (dyI k i (m 0 c)) := fun c hc => by rw [← h2e, rowf_lt hc]
  have hdb : ∀ d, d < m 9 4 → RCd h2 t m d := fun d hd => (hr.2.2 d hd).keep (by rw [o2 _ (by omega), ho _ (by omega)])
  have key : F_X5_passDay_40 t fuel (nI k) (nI i) 0 h1 = if k = 1 then some (goI m 1 i, cutf h2 t (fun d => nI (if m 7 d = 1 then dyC m i d else m 6 d)) (m 9 4)) else some (0, h2) := by
    have h := lp (fun n (x : Int32 × Hp) => F_X5_passDay_40 t n (nI k) (nI i) x.1 x.2) (m 9 1) (fun d => (nI d, rowf h1 (33 + t) (fun c => nI (dyI k i (m 0 c))) d)) (if k = 1 then some (goI m 1 i, cutf h2 t (fun d => nI (if m 7 d = 1 then dyC m i d else m 6 d)) (m 9 4)) else some (0, h2)) ?_ ?_ fuel 0 (by omega) (by have := fuel_ge; omega)
    · have h3 : F_X5_passDay_40 t fuel (nI k) (nI i) (nI 0) (rowf h1 (33 + t) (fun c => nI (dyI k i (m 0 c))) 0) = _ := h
      rw [rowf_0] at h3
      exact h3
    · intro n
      show F_X5_passDay_40 t (n + 1) (nI k) (nI i) (nI (m 9 1)) _ = _
      rw [F_X5_passDay_40, h2e, o2 _ (by omega), e11, if_pos (nle.mp (fun z => by have := (nI_ltI (by omega) (by omega)).mp z; omega)), li1]
      by_cases h1k : k = 1
      · subst h1k
        rw [if_pos rfl, if_pos rfl, c_melt ht hi hw hdb (by rw [o2 _ (by omega)]; exact e11) (by rw [o2 _ (by omega), hq 4 (by omega)]; exact hr.1 4 (by omega)) (fun c hc => by rw [hice2 c hc]; rfl)]
        rfl
      · rw [if_neg (fun z => h1k ((nI_eq (by omega) (by omega)).mp z)), if_neg h1k]
    · intro n d hd
      show F_X5_passDay_40 t (n + 1) (nI k) (nI i) (nI d) _ = F_X5_passDay_40 t n (nI k) (nI i) (nI (d + 1)) _
      rw [F_X5_passDay_40, rowf_c (by omega), e11, if_neg (le_no (by omega) (by omega) hd), inb_t (by omega) (by omega), cl_nI (by omega), rowf_ge (by omega), e33 d hd, c_iceBehind hk hi (hw.ic hd)]
      simp only [if_true, lt_p, nI_1]
      rw [rowf_up h1 (33 + t) (fun c => nI (dyI k i (m 0 c))) d]
  rw [key]
  have base : ∀ k', k' < 5 → h2.1 (30 + t) k' = nI (dyM m k i 9 k') := by
    intro k' hk'
    rw [o2 _ (by omega)]
    by_cases e : k' = 2
    · subst e; rw [dyM_92]; exact hq2
    · rw [hq k' e, dyM_9 m k i e]; exact hr.1 k' hk'
  by_cases h1k : k = 1
  · subst h1k
    rw [if_pos rfl]
    refine ⟨_, rfl, ⟨fun k' hk' => ?_, fun c hc => ?_, fun d hd => ?_⟩, fun c hc => ?_, ?_⟩
    · rw [cutf_off (by omega)]; exact base k' hk'
    · rw [dyM_9 m 1 i (by omega)] at hc
      rw [cutf_off (by omega), dyM_0]; exact hice2 c hc
    · rw [dyM_9 m 1 i (by omega)] at hd
      obtain ⟨⟨a0, a1, a2, a3, a4, a5⟩, a6, a7⟩ := hdb d hd
      unfold RCd
      rw [cutf_5 hd, cutf_k (k := 0) (by omega), cutf_k (k := 1) (by omega), cutf_k (k := 2) (by omega), cutf_k (k := 3) (by omega), cutf_k (k := 4) (by omega), cutf_k (k := 6) (by omega), cutf_k (k := 7) (by omega), a0, a1, a2, a3, a4, a6, dyM_f m 1 i (f := 1) (by omega) (by omega) (by omega) (by omega), dyM_f m 1 i (f := 2) (by omega) (by omega) (by omega) (by omega), dyM_f m 1 i (f := 3) (by omega) (by omega) (by omega) (by omega), dyM_f m 1 i (f := 4) (by omega) (by omega) (by omega) (by omega), dyM_f m 1 i (f := 5) (by omega) (by omega) (by omega) (by omega), dyM_f m 1 i (f := 8) (by omega) (by omega) (by omega) (by omega)]
      have e6 : dyM m 1 i 6 d = if m 7 d = 1 then dyC m i d else m 6 d := by simp [dyM]
      have e7 : dyM m 1 i 7 d = if m 7 d = 1 ∧ dyC m i d = 0 then 0 else m 7 d := by simp [dyM]
      have h72 : (dyM m 1 i 7 d = 2) ↔ (m 7 d = 2) := by
        rw [e7]
        by_cases g : m 7 d = 1 ∧ dyC m i d = 0
        · rw [if_pos g]; omega
        · rw [if_neg g]
      refine ⟨⟨rfl, rfl, rfl, rfl, rfl, by rw [e6]⟩, ?_, fun z => a7 (h72.mp z)⟩
      by_cases g : m 7 d = 2
      · rw [if_pos g, if_pos (h72.mpr g)]
      · rw [if_neg g, if_neg (fun z => g (h72.mp z))]
    · funext k'
      rw [cutf_off (by omega), o2 _ (by omega), ho _ (by omega)]
    · show h2.2 = σ.2
      rw [← hsnd, ← h2e]; rfl
  · rw [if_neg h1k]
    have eg : goI m k i = 0 := by unfold goI; rw [if_neg h1k]
    rw [eg]
    refine ⟨h2, rfl, ⟨base, fun c hc => ?_, fun d hd => ?_⟩, fun c hc => ?_, ?_⟩
    · rw [dyM_9 m k i (by omega)] at hc
      rw [dyM_0]; exact hice2 c hc
    · rw [dyM_9 m k i (by omega)] at hd
      have e6 : dyM m k i 6 d = m 6 d := by simp [dyM, h1k]
      have e7 : dyM m k i 7 d = m 7 d := by simp [dyM, h1k]
      have := hdb d hd
      unfold RCd at this ⊢
      rw [e6, e7, dyM_f m k i (f := 1) (by omega) (by omega) (by omega) (by omega), dyM_f m k i (f := 2) (by omega) (by omega) (by omega) (by omega), dyM_f m k i (f := 3) (by omega) (by omega) (by omega) (by omega), dyM_f m k i (f := 4) (by omega) (by omega) (by omega) (by omega), dyM_f m k i (f := 5) (by omega) (by omega) (by omega) (by omega), dyM_f m k i (f := 8) (by omega) (by omega) (by omega) (by omega)]
      exact this
    · rw [o2 _ (by omega), ho _ (by omega)]
    · rw [← hsnd, ← h2e]; rfl
end DAY
