/-! rounds of the reference -/
theorem nIm_big {j : Nat} (h : j < 2 ^ 30) : (nI j - 1).toInt = (j : Int) - 1 := by
  have := pk_sub_toInt (a := j) (b := 1) (by omega) (by omega)
  rw [li1]; exact this
theorem sumN_pos {f : Nat → Nat} : ∀ {n : Nat}, 0 < sumN f n → ∃ j, j < n ∧ 0 < f j
  | 0, h => absurd h (by show ¬ 0 < 0; omega)
  | n + 1, h => by
    have h' : 0 < sumN f n + f n := h
    by_cases e : 0 < f n
    · exact ⟨n, by omega, e⟩
    · obtain ⟨j, j1, j2⟩ := sumN_pos (f := f) (n := n) (by omega)
      exact ⟨j, by omega, j2⟩
section RRD
variable {σ : Hp} {m : Tw} {kp : Option Tw} {pg : Nat → Nat} {pn ld lk : Nat} {st gn : Nat → Nat}
theorem mx_bd {f : Nat → Nat} {M : Nat} (h : ∀ p, f p ≤ M) (n : Nat) : mx f n ≤ M := by
  rcases mx_at f n with e | ⟨p, -, e⟩
  · omega
  · rw [e]; exact h p
theorem r_inner {hc : Hp} {c k : Nat} {w2 w3 w4 : Int32} (K : Int32 → Int32 → Int32 → Int32 → Int32 → Hp → Option (Int32 × Hp)) (hw : Wf m) (hr : RMc hc m) (hcn : c < m 9 1) (hk : 1 ≤ k) (hk2 : k < 90) (e65 : ∀ p, p < m 9 1 → (hc.1 65 p = nI (k - 1) ↔ st p + 1 = k)) (e66 : ∀ p, p < m 9 1 → st p + 1 = k → hc.1 66 p = nI (gn p)) (hg : ∀ p, st p + 1 = k → gn p ≤ 100000) (h65 : hc.1 65 c = 99 ↔ st c = 99) : F_X7_tellSkate_102 K fuel w2 w3 w4 (nI k) (nI c) (-1) 0 hc = F_X7_tellSkate_189 K w2 w3 w4 (nI k) (nI c) (if st c = 99 ∧ brB m c = true then nI (moR (m 9 0) (m 9 1) k st gn c) - 1 else -1) hc := by
  have hs := hw.sq
  have hf := fuel_ge
  by_cases hcond : st c = 99 ∧ brB m c = true
  · rw [if_pos hcond]
    have hl := lp (fun n (x : Int32 × Int32) => F_X7_tellSkate_102 K n w2 w3 w4 (nI k) (nI c) x.1 x.2 hc) (m 9 1) (fun p => (nI (mx (fun p => if st p + 1 = k ∧ adB (m 9 0) p c = true then gn p + 1 else 0) p) - 1, nI p)) (F_X7_tellSkate_189 K w2 w3 w4 (nI k) (nI c) (nI (moR (m 9 0) (m 9 1) k st gn c) - 1) hc) ?_ ?_ fuel 0 (by omega) (by omega)
    · have hl' : F_X7_tellSkate_102 K fuel w2 w3 w4 (nI k) (nI c) (nI 0 - 1) (nI 0) hc = _ := hl
      rw [show nI 0 - 1 = (-1 : Int32) by decide +kernel] at hl'
      exact hl'
    · intro n
      show F_X7_tellSkate_102 K (n + 1) w2 w3 w4 (nI k) (nI c) (nI (moR (m 9 0) (m 9 1) k st gn c) - 1) (nI (m 9 1)) hc = _
      rw [F_X7_tellSkate_102, r_squares hr, if_pos (nle.mp (fun z => by have := (nI_ltI (by omega) (by omega)).mp z; omega))]
    · intro n p hp
      have hb : mx (fun p => if st p + 1 = k ∧ adB (m 9 0) p c = true then gn p + 1 else 0) p ≤ 100001 := mx_bd (fun p => by
        by_cases g : st p + 1 = k ∧ adB (m 9 0) p c = true
        · rw [if_pos g]; have := hg p g.1; omega
        · rw [if_neg g]; omega) p
      show F_X7_tellSkate_102 K (n + 1) w2 w3 w4 (nI k) (nI c) (nI (mx (fun p => if st p + 1 = k ∧ adB (m 9 0) p c = true then gn p + 1 else 0) p) - 1) (nI p) hc = F_X7_tellSkate_102 K n w2 w3 w4 (nI k) (nI c) (nI (max (mx (fun p => if st p + 1 = k ∧ adB (m 9 0) p c = true then gn p + 1 else 0) p) (if st p + 1 = k ∧ adB (m 9 0) p c = true then gn p + 1 else 0)) - 1) (nI (p + 1)) hc
      generalize mx (fun p => if st p + 1 = k ∧ adB (m 9 0) p c = true then gn p + 1 else 0) p = M at hb ⊢
      rw [F_X7_tellSkate_102, r_squares hr, if_neg (le_no (by omega) (by omega) hp), inb_t (by omega) (by omega), if_pos rfl, cl_nI (by omega), if_pos (h65.mpr hcond.1), r_bearsOne hw hr hcn, Option.bind_some, if_pos hcond.2, inb_t (by omega) (by omega), if_pos rfl, cl_nI (by omega), r_areBeside hw hr (by omega) (by omega), Option.bind_some]
      rw [show nI k - 1 = nI (k - 1) by rw [li1, pk_sub hk]]
      unfold F_X7_tellSkate_179 F_X7_tellSkate_181
      rw [nI_1]
      by_cases g1 : st p + 1 = k
      · rw [if_pos ((e65 p hp).mpr g1)]
        by_cases g2 : adB (m 9 0) p c = true
        · have hgp := hg p g1
          rw [if_pos g2, if_pos rfl, if_pos rfl, e66 p hp g1, if_pos (show st p + 1 = k ∧ adB (m 9 0) p c = true from ⟨g1, g2⟩)]
          have hcmp : nI (gn p) ≤ nI M - 1 ↔ gn p + 1 ≤ M := by
            rw [Int32.le_iff_toInt_le, nIm_big (by omega), nI_toInt (by omega)]; omega
          by_cases g3 : gn p + 1 ≤ M
          · rw [if_pos (hcmp.mpr g3), Nat.max_eq_left g3]
          · rw [if_neg (fun z => g3 (hcmp.mp z)), Nat.max_eq_right (by omega), ← nI_1 (gn p), Int32.add_sub_cancel]
        · rw [if_neg g2, if_neg (fun z => g2 z.2), Nat.max_eq_left (by omega)]
      · rw [if_neg (fun z => g1 ((e65 p hp).mp z)), if_neg (fun z => g1 z.1), Nat.max_eq_left (by omega)]
  · rw [if_neg hcond]
    obtain ⟨n, hn⟩ : ∃ k, fuel = k + 1 := ⟨fuel - 1, by omega⟩
    rw [hn, F_X7_tellSkate_102, r_squares hr, if_neg (show ¬ nI (m 9 1) ≤ 0 from le_no (b := 0) (by omega) (by omega) (by omega)), inb_t (by omega) (by omega), if_pos rfl, cl_nI (by omega)]
    by_cases g1 : st c = 99
    · rw [if_pos (h65.mpr g1), r_bearsOne hw hr hcn, Option.bind_some, if_neg (fun z => hcond ⟨g1, z⟩)]
    · rw [if_neg (fun z => g1 (h65.mp z))]
theorem r_round {h : Hp} {k : Nat} {w2 w3 : Int32} (K : Int32 → Int32 → Int32 → Int32 → Hp → Option (Int32 × Hp)) (hw : Wf m) (hr : RMc σ m) (hk : 1 ≤ k) (hk2 : k < 90) (hst : ∀ c, c < m 9 1 → st c ≤ 99) (hg : ∀ p, p < m 9 1 → st p + 1 = k → gn p ≤ 100000) (hgr : ∀ c, c < m 9 1 → st c = 99 → gn c = rdN m c) (hH : HR (m 9 1) h st gn) (hf : FrW σ h) : ∃ τ, F_X7_tellSkate_87 K fuel w2 w3 0 (nI k) 0 h = K w2 w3 (nI (sumN (fun c => if isN (m 9 0) (m 9 1) k (brB m) st gn c = true then 1 else 0) (m 9 1))) (nI (k + 1)) τ ∧ HR (m 9 1) τ (stN (m 9 0) (m 9 1) k (brB m) st gn) (gnN (m 9 0) (m 9 1) k (brB m) (rdN m) st gn) ∧ FrW σ τ := by
  have hs := hw.sq
  have hfu := fuel_ge
  have hwd := hw.wd
  -- outside the lake nothing counts: st and gn are cut off there
  let st' : Nat → Nat := fun p => if p < m 9 1 then st p else 99
  have hst'n : ∀ p, p < m 9 1 → st' p = st p := fun p hp => if_pos hp
  have hmo : ∀ c, moR (m 9 0) (m 9 1) k st' gn c = moR (m 9 0) (m 9 1) k st gn c := by
    intro c
    unfold moR
    exact mx_congr (fun p hp => by rw [hst'n p hp])
  have hg' : ∀ p, st' p + 1 = k → gn p ≤ 100000 := by
    intro p hp
    by_cases e : p < m 9 1
    · rw [hst'n p e] at hp; exact hg p e hp
    · have : st' p = 99 := if_neg e
      omega
  have key : ∀ c, (if st c = 99 ∧ brB m c = true then nI (moR (m 9 0) (m 9 1) k st gn c) - 1 else -1) = (-1 : Int32) ∨ isN (m 9 0) (m 9 1) k (brB m) st gn c = true := by
    intro c
    by_cases g : st c = 99 ∧ brB m c = true
    · by_cases g2 : 0 < moR (m 9 0) (m 9 1) k st gn c
      · exact Or.inr (isN_t.mpr ⟨g.1, g.2, g2⟩)
      · rw [if_pos g, show moR (m 9 0) (m 9 1) k st gn c = 0 by omega]
        exact Or.inl (by decide +kernel)
    · rw [if_neg g]; exact Or.inl rfl
  refine ⟨rowf (rowf h 65 (fun c => nI (stN (m 9 0) (m 9 1) k (brB m) st gn c)) (m 9 1)) 66 (fun c => nI (gnN (m 9 0) (m 9 1) k (brB m) (rdN m) st gn c)) (m 9 1), ?_, fun c hc => ⟨by rw [rowf_c (by omega), rowf_lt hc], by rw [rowf_lt hc]⟩, ⟨fun c a b => by rw [rowf_r b, rowf_r a]; exact hf.1 c a b, hf.2⟩⟩
  have hl := lp (fun n (x : Int32 × Int32 × Hp) => F_X7_tellSkate_87 K n w2 w3 x.1 (nI k) x.2.1 x.2.2) (m 9 1) (fun c => (nI (sumN (fun c => if isN (m 9 0) (m 9 1) k (brB m) st gn c = true then 1 else 0) c), nI c, rowf (rowf h 65 (fun c => nI (stN (m 9 0) (m 9 1) k (brB m) st gn c)) c) 66 (fun c => nI (gnN (m 9 0) (m 9 1) k (brB m) (rdN m) st gn c)) c)) (K w2 w3 (nI (sumN (fun c => if isN (m 9 0) (m 9 1) k (brB m) st gn c = true then 1 else 0) (m 9 1))) (nI (k + 1)) (rowf (rowf h 65 (fun c => nI (stN (m 9 0) (m 9 1) k (brB m) st gn c)) (m 9 1)) 66 (fun c => nI (gnN (m 9 0) (m 9 1) k (brB m) (rdN m) st gn c)) (m 9 1))) ?_ ?_ fuel 0 (by omega) (by omega)
  · have hl' : F_X7_tellSkate_87 K fuel w2 w3 0 (nI k) 0 (rowf (rowf h 65 (fun c => nI (stN (m 9 0) (m 9 1) k (brB m) st gn c)) 0) 66 (fun c => nI (gnN (m 9 0) (m 9 1) k (brB m) (rdN m) st gn c)) 0) = _ := hl
    rw [rowf_0, rowf_0] at hl'
    exact hl'
  · intro n
    have hrr : RMc (rowf (rowf h 65 (fun c => nI (stN (m 9 0) (m 9 1) k (brB m) st gn c)) (m 9 1)) 66 (fun c => nI (gnN (m 9 0) (m 9 1) k (brB m) (rdN m) st gn c)) (m 9 1)) m := FrW.rmc (σ := σ) ⟨fun c a b => by rw [rowf_r b, rowf_r a]; exact hf.1 c a b, hf.2⟩ hr
    show F_X7_tellSkate_87 K (n + 1) w2 w3 _ (nI k) (nI (m 9 1)) _ = _
    rw [F_X7_tellSkate_87, r_squares hrr, if_pos (nle.mp (fun z => by have := (nI_ltI (by omega) (by omega)).mp z; omega)), nI_1]
  · intro n d hd
    have hf2 : FrW σ (rowf (rowf h 65 (fun c => nI (stN (m 9 0) (m 9 1) k (brB m) st gn c)) d) 66 (fun c => nI (gnN (m 9 0) (m 9 1) k (brB m) (rdN m) st gn c)) d) := ⟨fun c a b => by rw [rowf_r b, rowf_r a]; exact hf.1 c a b, hf.2⟩
    have hrr := hf2.rmc hr
    show F_X7_tellSkate_87 K (n + 1) w2 w3 (nI (sumN (fun c => if isN (m 9 0) (m 9 1) k (brB m) st gn c = true then 1 else 0) d)) (nI k) (nI d) (rowf (rowf h 65 (fun c => nI (stN (m 9 0) (m 9 1) k (brB m) st gn c)) d) 66 (fun c => nI (gnN (m 9 0) (m 9 1) k (brB m) (rdN m) st gn c)) d) = F_X7_tellSkate_87 K n w2 w3 (nI (sumN (fun c => if isN (m 9 0) (m 9 1) k (brB m) st gn c = true then 1 else 0) d + (if isN (m 9 0) (m 9 1) k (brB m) st gn d = true then 1 else 0))) (nI k) (nI (d + 1)) (rowf (rowf h 65 (fun c => nI (stN (m 9 0) (m 9 1) k (brB m) st gn c)) (d + 1)) 66 (fun c => nI (gnN (m 9 0) (m 9 1) k (brB m) (rdN m) st gn c)) (d + 1))
    rw [F_X7_tellSkate_87, r_squares hrr, if_neg (le_no (by omega) (by omega) hd)]
    have e65 : ∀ p, p < m 9 1 → ((rowf (rowf h 65 (fun c => nI (stN (m 9 0) (m 9 1) k (brB m) st gn c)) d) 66 (fun c => nI (gnN (m 9 0) (m 9 1) k (brB m) (rdN m) st gn c)) d).1 65 p = nI (k - 1) ↔ st' p + 1 = k) := by
      intro p hp
      rw [rowf_c (by omega), hst'n p hp]
      by_cases e : p < d
      · rw [rowf_lt e]
        by_cases hN : isN (m 9 0) (m 9 1) k (brB m) st gn p = true
        · have eS : stN (m 9 0) (m 9 1) k (brB m) st gn p = k := by unfold stN; rw [if_pos hN]
          have := (isN_t.mp hN).1
          rw [eS, nI_eq (by omega) (by omega)]; omega
        · have eS : stN (m 9 0) (m 9 1) k (brB m) st gn p = st p := by unfold stN; rw [if_neg hN]
          have := hst p hp
          rw [eS, nI_eq (by omega) (by omega)]; omega
      · have := hst p hp
        rw [rowf_ge e, (hH p hp).1, nI_eq (by omega) (by omega)]; omega
    have e66 : ∀ p, p < m 9 1 → st' p + 1 = k → (rowf (rowf h 65 (fun c => nI (stN (m 9 0) (m 9 1) k (brB m) st gn c)) d) 66 (fun c => nI (gnN (m 9 0) (m 9 1) k (brB m) (rdN m) st gn c)) d).1 66 p = nI (gn p) := by
      intro p hp hpk
      rw [hst'n p hp] at hpk
      have hN : ¬ isN (m 9 0) (m 9 1) k (brB m) st gn p = true := fun z => by have := (isN_t.mp z).1; omega
      by_cases e : p < d
      · have eG : gnN (m 9 0) (m 9 1) k (brB m) (rdN m) st gn p = gn p := by unfold gnN; rw [if_neg hN]
        rw [rowf_lt e, eG]
      · rw [rowf_ge e, rowf_c (by omega), (hH p hp).2]
    have e99 : (rowf (rowf h 65 (fun c => nI (stN (m 9 0) (m 9 1) k (brB m) st gn c)) d) 66 (fun c => nI (gnN (m 9 0) (m 9 1) k (brB m) (rdN m) st gn c)) d).1 65 d = 99 ↔ st' d = 99 := by
      have := hst d hd
      rw [rowf_c (by omega), rowf_ge (by omega), (hH d hd).1, hst'n d hd, li99, nI_eq (by omega) (by omega)]
    rw [r_inner (st := st') (gn := gn) (F_X7_tellSkate_87 K n) hw hrr hd hk hk2 e65 e66 hg' e99, hst'n d hd, hmo d]
    -- the square d is told
    have stD : h.1 65 d = nI (st d) := (hH d hd).1
    have gnD : h.1 66 d = nI (gn d) := (hH d hd).2
    unfold F_X7_tellSkate_189 F_X7_tellSkate_219
    by_cases hN : isN (m 9 0) (m 9 1) k (brB m) st gn d = true
    · obtain ⟨n1, n2, n3⟩ := isN_t.mp hN
      have hmb : moR (m 9 0) (m 9 1) k st gn d ≤ 100001 := by
        rw [← hmo d]
        exact mx_bd (fun p => by
          by_cases g : st' p + 1 = k ∧ adB (m 9 0) p d = true
          · rw [if_pos g]; have := hg' p g.1; omega
          · rw [if_neg g]; omega) _
      have hrd := rdN_le hw d
      rw [if_pos (show st d = 99 ∧ brB m d = true from ⟨n1, n2⟩), if_pos hN]
      rw [if_neg (show ¬ nI (moR (m 9 0) (m 9 1) k st gn d) - 1 = -1 from fun z => by
        have := congrArg Int32.toInt z
        rw [nIm_big (by omega), show (-1 : Int32).toInt = -1 by decide] at this
        omega)]
      rw [inb_t (by omega) (by omega), if_pos rfl, cl_nI (by omega), lt_p, if_pos rfl, if_pos rfl, lt_p, nI_1, nI_1]
      have eS : stN (m 9 0) (m 9 1) k (brB m) st gn d = k := by unfold stN; rw [if_pos hN]
      have eG : gnN (m 9 0) (m 9 1) k (brB m) (rdN m) st gn d = rdN m d + (moR (m 9 0) (m 9 1) k st gn d - 1) := by unfold gnN; rw [if_pos hN]
      have ev : (up (rowf (rowf h 65 (fun c => nI (stN (m 9 0) (m 9 1) k (brB m) st gn c)) d) 66 (fun c => nI (gnN (m 9 0) (m 9 1) k (brB m) (rdN m) st gn c)) d) 65 d (nI k)).1 66 d + (nI (moR (m 9 0) (m 9 1) k st gn d) - 1) = nI (gnN (m 9 0) (m 9 1) k (brB m) (rdN m) st gn d) := by
        rw [up_c (by omega), rowf_ge (by omega), rowf_c (by omega), gnD, hgr d hd n1, eG, ← nI_add, li1, pk_sub (by omega)]
      rw [ev, rowf_ne (by omega)]
      rw [show up (rowf h 65 (fun c => nI (stN (m 9 0) (m 9 1) k (brB m) st gn c)) d) 65 d (nI k) = rowf h 65 (fun c => nI (stN (m 9 0) (m 9 1) k (brB m) st gn c)) (d + 1) by
        rw [← rowf_up h 65 (fun c => nI (stN (m 9 0) (m 9 1) k (brB m) st gn c)) d]
        rw [eS]]
      rw [rowf_up (rowf h 65 (fun c => nI (stN (m 9 0) (m 9 1) k (brB m) st gn c)) (d + 1)) 66 (fun c => nI (gnN (m 9 0) (m 9 1) k (brB m) (rdN m) st gn c)) d]
    · have eS : stN (m 9 0) (m 9 1) k (brB m) st gn d = st d := by unfold stN; rw [if_neg hN]
      have eG : gnN (m 9 0) (m 9 1) k (brB m) (rdN m) st gn d = gn d := by unfold gnN; rw [if_neg hN]
      rw [(key d).resolve_right hN, if_pos rfl, if_neg hN, nI_1]
      rw [rowf_skip h 65 (fun c => nI (stN (m 9 0) (m 9 1) k (brB m) st gn c)) (d := d) (e := d + 1) (by omega) (fun k' h1 h2 => by
        have : k' = d := by omega
        subst this
        rw [eS, stD])]
      rw [rowf_skip (rowf h 65 (fun c => nI (stN (m 9 0) (m 9 1) k (brB m) st gn c)) (d + 1)) 66 (fun c => nI (gnN (m 9 0) (m 9 1) k (brB m) (rdN m) st gn c)) (d := d) (e := d + 1) (by omega) (fun k' h1 h2 => by
        have : k' = d := by omega
        subst this
        rw [eG, rowf_c (by omega), gnD])]
      rfl
theorem r_rounds {b : Nat} {w3 : Int32} {a : Nat} (hw : Wf m) (hr : RMc σ m) (hb : b < m 9 1) : ∀ r k n (h : Hp) (st gn : Nat → Nat) fnd, k + r = 17 → r < n → 1 ≤ k → 0 < fnd → fnd < 1000 → Rd (m 9 0) (m 9 1) a k (brB m) (rdN m) st gn → HR (m 9 1) h st gn → FrW σ h → ∃ st' gn' τ, F_X7_tellSkate_76 n (nI b) w3 (nI fnd) (nI k) h = some (resI st' gn' b w3, τ) ∧ Sol (m 9 0) (m 9 1) a (brB m) (rdN m) st' gn' ∧ FrW σ τ := by
  have hs := hw.sq
  intro r
  induction r with
  | zero =>
    intro k n h st gn fnd hkr hn hk hfd hfd2 hR hH hf
    have := sumN_ind st (m 9 1)
    have := hR.2.2.2.2.2
    omega
  | succ r ih =>
    intro k n h st gn fnd hkr hn hk hfd hfd2 hR hH hf
    obtain ⟨n, rfl⟩ : ∃ k, n = k + 1 := ⟨n - 1, by omega⟩
    have hk16 : k ≤ 16 := by
      have := sumN_ind st (m 9 1)
      have := hR.2.2.2.2.2
      omega
    have hst : ∀ c, c < m 9 1 → st c ≤ 99 := fun c hc => by
      by_cases e : st c = 99
      · omega
      · have := (hR.1 c hc e).1; omega
    have hg : ∀ p, p < m 9 1 → st p + 1 = k → gn p ≤ 100000 := fun p hp hpk => by
      have h1 := (hR.1 p hp (by omega)).2.2.1
      have h2 : (st p + 1) * 1080 ≤ 16 * 1080 := Nat.mul_le_mul_right 1080 (by omega)
      omega
    obtain ⟨τ, t1, t2, t3⟩ := r_round (k := k) (w2 := nI b) (w3 := w3) (F_X7_tellSkate_76 n) hw hr hk (by omega) hst hg hR.2.2.2.2.1 hH hf
    rw [F_X7_tellSkate_76, if_neg (show ¬ nI fnd ≤ 0 from le_no (b := 0) (by omega) (by omega) (by omega)), t1]
    by_cases hc0 : 0 < sumN (fun c => if isN (m 9 0) (m 9 1) k (brB m) st gn c = true then 1 else 0) (m 9 1)
    · obtain ⟨j, j1, j2⟩ := sumN_pos hc0
      have hN : isN (m 9 0) (m 9 1) k (brB m) st gn j = true := by
        by_cases e : isN (m 9 0) (m 9 1) k (brB m) st gn j = true
        · exact e
        · rw [if_neg e] at j2; omega
      have hle : sumN (fun c => if isN (m 9 0) (m 9 1) k (brB m) st gn c = true then 1 else 0) (m 9 1) ≤ m 9 1 * 1 := sumN_le (fun i _ => by split <;> omega)
      exact ih (k + 1) n τ _ _ _ (by omega) (by omega) (by omega) hc0 (by omega) (Rd_s hk (by omega) (rdN_le hw) hR j1 hN) t2 t3
    · have hno : ∀ c, c < m 9 1 → ¬ isN (m 9 0) (m 9 1) k (brB m) st gn c = true := by
        intro c hc z
        have := sumN_lt (f := fun _ => 0) (g := fun c => if isN (m 9 0) (m 9 1) k (brB m) st gn c = true then 1 else 0) (j := c) (n := m 9 1) (fun i _ => by omega) hc (by rw [if_pos z]; omega)
        omega
      rw [show sumN (fun c => if isN (m 9 0) (m 9 1) k (brB m) st gn c = true then 1 else 0) (m 9 1) = 0 by omega]
      obtain ⟨n, rfl⟩ : ∃ k, n = k + 1 := ⟨n - 1, by omega⟩
      have eS : stN (m 9 0) (m 9 1) k (brB m) st gn b = st b := by unfold stN; rw [if_neg (hno b hb)]
      have eG : gnN (m 9 0) (m 9 1) k (brB m) (rdN m) st gn b = gn b := by unfold gnN; rw [if_neg (hno b hb)]
      have hsb := hst b hb
      rw [F_X7_tellSkate_76, if_pos (by decide +kernel), inb_t (by omega) (by omega), if_pos rfl, if_pos rfl, if_pos rfl, cl_nI (by omega), (t2 b hb).1, (t2 b hb).2, eS, eG]
      refine ⟨st, gn, τ, ?_, Rd_end hk16 hR hno, t3⟩
      unfold resI
      by_cases h9 : st b = 99
      · rw [if_pos h9, if_pos (by rw [h9]; decide +kernel)]
      · rw [if_neg h9, if_neg (show ¬ nI (st b) = 99 from fun z => h9 ((nI_eq (b := 99) (by omega) (by omega)).mp z))]
        split <;> rfl
theorem r_tellSkate {a b : Nat} (hw : Wf m) (hr : RMc σ m) (ha : a < m 9 1) (hb : b < m 9 1) (w3 : Int32) : ∃ τ, F_X7_tellSkate (nI a) (nI b) w3 σ = some (skV m a b w3, τ) ∧ FrW σ τ := by
  have hs := hw.sq
  have hfu := fuel_ge
  have hrd := rdN_le hw
  unfold F_X7_tellSkate
  let s0 : Nat → Nat := fun c => if c = a ∧ brB m a = true then 0 else 99
  have first : F_X7_tellSkate_3 fuel (nI a) (nI b) w3 0 σ = if brB m a = true then F_X7_tellSkate_71 (nI b) w3 true (rowf (rowf σ 65 (fun c => nI (s0 c)) 16) 66 (fun c => nI (rdN m c)) 16) else F_X7_tellSkate_71 (nI b) w3 false (rowf (rowf σ 65 (fun c => nI (s0 c)) 16) 66 (fun c => nI (rdN m c)) 16) := by
    have hl := lp (fun n (x : Int32 × Hp) => F_X7_tellSkate_3 n (nI a) (nI b) w3 x.1 x.2) 16 (fun c => (nI c, rowf (rowf σ 65 (fun c => nI (s0 c)) c) 66 (fun c => nI (rdN m c)) c)) (if brB m a = true then F_X7_tellSkate_71 (nI b) w3 true (rowf (rowf σ 65 (fun c => nI (s0 c)) 16) 66 (fun c => nI (rdN m c)) 16) else F_X7_tellSkate_71 (nI b) w3 false (rowf (rowf σ 65 (fun c => nI (s0 c)) 16) 66 (fun c => nI (rdN m c)) 16)) ?_ ?_ fuel 0 (by omega) (by omega)
    · have hl' : F_X7_tellSkate_3 fuel (nI a) (nI b) w3 0 (rowf (rowf σ 65 (fun c => nI (s0 c)) 0) 66 (fun c => nI (rdN m c)) 0) = _ := hl
      rw [rowf_0, rowf_0] at hl'
      exact hl'
    · intro n
      show F_X7_tellSkate_3 (n + 1) (nI a) (nI b) w3 (nI 16) _ = _
      rw [F_X7_tellSkate_3, if_pos (by decide +kernel), inb_t (by omega) (by omega), if_pos rfl, cl_nI (by omega), rowf_c (by omega), rowf_lt (by omega)]
      by_cases hbr : brB m a = true
      · have e0 : s0 a = 0 := if_pos ⟨rfl, hbr⟩
        rw [e0, if_pos (by decide +kernel), if_pos hbr]
      · have e0 : s0 a = 99 := if_neg (fun z => hbr z.2)
        rw [e0, if_neg (by decide +kernel), if_neg hbr]
    · intro n d hd
      have hf2 : FrW σ (rowf (rowf σ 65 (fun c => nI (s0 c)) d) 66 (fun c => nI (rdN m c)) d) := ⟨fun c x y => by rw [rowf_r y, rowf_r x], rfl⟩
      have hrr := hf2.rmc hr
      show F_X7_tellSkate_3 (n + 1) (nI a) (nI b) w3 (nI d) (rowf (rowf σ 65 (fun c => nI (s0 c)) d) 66 (fun c => nI (rdN m c)) d) = F_X7_tellSkate_3 n (nI a) (nI b) w3 (nI (d + 1)) (rowf (rowf σ 65 (fun c => nI (s0 c)) (d + 1)) 66 (fun c => nI (rdN m c)) (d + 1))
      have h37 : ∀ v, v = nI (s0 d) → F_X7_tellSkate_37 (F_X7_tellSkate_3 n) (nI a) (nI b) w3 (nI d) v (nI d) (rowf (rowf σ 65 (fun c => nI (s0 c)) d) 66 (fun c => nI (rdN m c)) d) = F_X7_tellSkate_3 n (nI a) (nI b) w3 (nI (d + 1)) (rowf (rowf σ 65 (fun c => nI (s0 c)) (d + 1)) 66 (fun c => nI (rdN m c)) (d + 1)) := by
        intro v hv
        unfold F_X7_tellSkate_37
        rw [inb_t (by omega) (by omega), if_pos rfl, cl_nI (by omega), lt_p, rowf_ne (by omega), hv, rowf_up σ 65 (fun c => nI (s0 c)) d]
        have hf3 : FrW σ (rowf (rowf σ 65 (fun c => nI (s0 c)) (d + 1)) 66 (fun c => nI (rdN m c)) d) := ⟨fun c x y => by rw [rowf_r y, rowf_r x], rfl⟩
        rw [r_readIn hw (hf3.rmc hr) hd, Option.bind_some, if_pos rfl, lt_p, nI_1, rowf_up (rowf σ 65 (fun c => nI (s0 c)) (d + 1)) 66 (fun c => nI (rdN m c)) d]
      rw [F_X7_tellSkate_3, li16, if_neg (le_no (by omega) (by omega) hd)]
      by_cases e : d = a
      · subst e
        rw [if_pos rfl, r_bearsOne hw hrr ha, Option.bind_some]
        by_cases hbr : brB m d = true
        · rw [if_pos hbr]
          exact h37 _ (by rw [show s0 d = 0 from if_pos ⟨rfl, hbr⟩]; rfl)
        · rw [if_neg hbr]
          exact h37 _ (by rw [show s0 d = 99 from if_neg (fun z => hbr z.2)]; decide +kernel)
      · rw [if_neg (fun z => e ((nI_eq (by omega) (by omega)).mp z))]
        exact h37 _ (by rw [show s0 d = 99 from if_neg (fun z => e z.1)]; decide +kernel)
  rw [first]
  have hf0 : FrW σ (rowf (rowf σ 65 (fun c => nI (s0 c)) 16) 66 (fun c => nI (rdN m c)) 16) := ⟨fun c x y => by rw [rowf_r y, rowf_r x], rfl⟩
  have hH0 : HR (m 9 1) (rowf (rowf σ 65 (fun c => nI (s0 c)) 16) 66 (fun c => nI (rdN m c)) 16) s0 (rdN m) := fun c hc => ⟨by rw [rowf_c (by omega), rowf_lt (by omega)], by rw [rowf_lt (by omega)]⟩
  unfold F_X7_tellSkate_71
  by_cases hbr : brB m a = true
  · rw [if_pos hbr]
    have hs0 : ∀ c, s0 c ≠ 99 → c = a ∧ s0 c = 0 := by
      intro c h9
      by_cases e : c = a ∧ brB m a = true
      · exact ⟨e.1, if_pos e⟩
      · exact absurd (if_neg e) h9
    have hR : Rd (m 9 0) (m 9 1) a 1 (brB m) (rdN m) s0 (rdN m) := by
      refine ⟨fun c hc h9 => ?_, fun p c hp hc h9 hlt => absurd hlt (by omega), fun p c hp hc h9 h9' had he => ?_, fun _ => if_pos ⟨rfl, hbr⟩, fun c _ _ => rfl, ?_⟩
      · obtain ⟨e1, e2⟩ := hs0 c h9
        subst e1
        have := hrd c
        rw [e2]
        exact ⟨by omega, hbr, by omega, Or.inl ⟨rfl, rfl, rfl⟩⟩
      · have := (hs0 c h9').2; omega
      · have h0 : s0 a ≠ 99 := by rw [show s0 a = 0 from if_pos ⟨rfl, hbr⟩]; omega
        have := sumN_lt (f := fun _ => 0) (g := fun c => if s0 c = 99 then 0 else 1) (j := a) (n := m 9 1) (fun i _ => by omega) ha (by rw [if_neg h0]; omega)
        omega
    obtain ⟨st', gn', τ, t1, t2, t3⟩ := r_rounds (b := b) (w3 := w3) (a := a) hw hr hb 16 1 fuel _ s0 (rdN m) 1 (by omega) (by omega) (by omega) (by omega) (by omega) hR hH0 hf0
    have t1' : F_X7_tellSkate_76 fuel (nI b) w3 (b2i true) 1 (rowf (rowf σ 65 (fun c => nI (s0 c)) 16) 66 (fun c => nI (rdN m c)) 16) = _ := t1
    rw [t1', skV_eq t2 hb]
    exact ⟨τ, rfl, t3⟩
  · rw [if_neg hbr]
    have e9 : ∀ c, s0 c = 99 := fun c => if_neg (fun z => hbr z.2)
    have hSol : Sol (m 9 0) (m 9 1) a (brB m) (rdN m) s0 (rdN m) := ⟨fun c _ h9 => absurd (e9 c) h9, fun p c _ _ h9 => absurd (e9 p) h9, fun z => absurd z hbr⟩
    obtain ⟨n, hn⟩ : ∃ k, fuel = k + 1 := ⟨fuel - 1, by omega⟩
    rw [hn, F_X7_tellSkate_76, if_pos (by decide), inb_t (by omega) (by omega), if_pos rfl, cl_nI (by omega), (hH0 b hb).1, e9 b, if_pos (by decide +kernel), ← skV_eq hSol hb]
    unfold resI
    rw [if_pos (e9 b)]
    exact ⟨_, rfl, hf0⟩
theorem FrW.RM {τ : Hp} (h : FrW σ τ) (hr : RM σ m kp pg pn ld lk) : RM τ m kp pg pn ld lk := ⟨h.rmc hr.1, RM'.keep (fun k _ => by rw [h.1 55 (by omega) (by omega)]) (fun c hc => h.1 c (by omega) (by omega)) hr.2⟩
theorem r_skate (hw : WfG m kp pg pn ld) (hr : RM σ m kp pg pn ld lk) (x y w : Int32) : ∃ τ, F_X7_skate x y w σ = some (skA m x y w, τ) ∧ RM τ m kp pg pn ld lk ∧ FrM σ τ := by
  have hs := hw.1.sq
  unfold F_X7_skate skA
  rw [r_isSquare hw.1 hr.1, r_isSquare hw.1 hr.1, lj0, lj1, r_in]
  by_cases h1 : inb x (m 9 1) = true
  · by_cases h2 : inb y (m 9 1) = true
    · rw [if_pos h1, if_pos h2, if_pos (show inb x (m 9 1) = true ∧ inb y (m 9 1) = true from ⟨h1, h2⟩)]
      by_cases h3 : wn w 0 1 = true
      · rw [if_pos h3, if_pos h3]
        obtain ⟨a, ha, rfl⟩ := inb_of (by omega) h1
        obtain ⟨b, hb, rfl⟩ := inb_of (by omega) h2
        obtain ⟨τ, t1, t2⟩ := r_tellSkate hw.1 hr.1 ha hb w
        rw [t1, Option.bind_some, cl_nI (by omega), cl_nI (by omega)]
        exact ⟨τ, rfl, t2.RM hr, fun c hc => t2.1 c (by omega) (by omega)⟩
      · rw [if_neg h3, if_neg h3]
        exact ⟨σ, rfl, hr, FrM.rf⟩
    · rw [if_pos h1, if_neg h2, if_neg (fun z => h2 z.2)]
      exact ⟨σ, rfl, hr, FrM.rf⟩
  · rw [if_neg h1, if_neg (fun z => h1 z.1)]
    exact ⟨σ, rfl, hr, FrM.rf⟩
end RRD
