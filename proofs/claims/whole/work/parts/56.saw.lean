section SAW
variable {σ : Hp} {m : Tw} {kp : Option Tw} {pg : Nat → Nat} {pn ld lk : Nat}
def saA (m : Tw) (x : Int32) : Int32 := if inb x (m 9 4) = true then (if m 7 x.toNatClampNeg = 1 then nI (m 0 (m 2 x.toNatClampNeg)) else -103) else -101
def saN (m : Tw) (x : Int32) : Tw := if inb x (m 9 4) = true ∧ m 7 x.toNatClampNeg = 1 then tset (tset m 7 x.toNatClampNeg 2) 8 x.toNatClampNeg (m 0 (m 2 x.toNatClampNeg)) else m
theorem ts9 (m : Tw) (d v w x : Nat) : tset (tset m 7 d v) 8 d w 9 x = m 9 x := by simp [tset]
theorem c_saw (hw : WfG m kp pg pn ld) (hr : RC σ m kp pg pn ld) (x : Int32) : ∃ τ, F_X6_saw x σ = some (saA m x, τ) ∧ RC τ (saN m x) kp pg pn ld ∧ FrC σ τ := by
  have hn := hw.1.nd
  obtain ⟨hr1, hr2⟩ := hr
  unfold F_X6_saw saA
  rw [c_hasDebt hw.1 hr1]
  by_cases h1 : inb x (m 9 4) = true
  · obtain ⟨d, hd, rfl⟩ := inb_of (by omega) h1
    rw [cl_nI (by omega), c_isThere hw.1 hr1 hd, c_iceUnder hw.1 hr1 hd]
    by_cases h7 : m 7 d = 1
    · rw [show saN m (nI d) = tset (tset m 7 d 2) 8 d (m 0 (m 2 d)) by unfold saN; rw [cl_nI (by omega), if_pos ⟨h1, h7⟩]]
      simp (disch := omega) only [h1, h7, if_true, Option.bind_some, inb_t, lt, F_X0_keepBlock, decide_true]
      refine ⟨_, rfl, ⟨⟨fun k hk => ?_, fun c hc => ?_, fun d2 hd2 => ?_⟩, RC'.keep hw.kn (fun c hc => ?_) hr2⟩, (FrC.up (by omega)).tr (FrC.up (by omega))⟩
      · rw [up_c (by omega), up_c (by omega), ts9]; exact hr1.1 k hk
      · rw [up_c (by omega), up_c (by omega)]
        rw [ts9] at hc
        simp only [tset]
        exact hr1.2.1 c hc
      · rw [ts9] at hd2
        obtain ⟨⟨a0, a1, a2, a3, a4, a5⟩, a6, a7⟩ := hr1.2.2 d2 hd2
        unfold RCd
        by_cases e : d2 = d
        · subst e
          refine ⟨⟨?_, ?_, ?_, ?_, ?_, ?_⟩, ?_, ?_⟩
          · rw [up_k (by omega), up_k (by omega), a0]; simp [tset]
          · rw [up_k (by omega), up_k (by omega), a1]; simp [tset]
          · rw [up_k (by omega), up_k (by omega), a2]; simp [tset]
          · rw [up_k (by omega), up_k (by omega), a3]; simp [tset]
          · rw [up_k (by omega), up_k (by omega), a4]; simp [tset]
          · rw [up_k (by omega), up_k (by omega), a5]; simp [tset]
          · rw [up_k (by omega), up_s]; simp [tset]
          · intro _; rw [up_s]; simp [tset]
        · have e1 : (up (up σ (10 * 0 + d) 6 1) (10 * 0 + d) 7 (nI (m 0 (m 2 d)))).1 (10 * 0 + d2) = σ.1 (10 * 0 + d2) := by
            rw [up_off (by omega), up_off (by omega)]
          rw [e1]
          simp only [tset, e, and_false, if_false]
          exact ⟨⟨a0, a1, a2, a3, a4, a5⟩, a6, a7⟩
      · rw [up_off (by omega), up_off (by omega)]
    · rw [show saN m (nI d) = m by unfold saN; rw [cl_nI (by omega), if_neg (fun z => h7 z.2)]]
      simp (disch := omega) only [h1, h7, if_true, inb_t, decide_false]
      exact ⟨σ, rfl, ⟨hr1, hr2⟩, FrC.rf⟩
  · rw [show saN m x = m by unfold saN; rw [if_neg (fun z => h1 z.1)]]
    simp only [h1, if_false]
    exact ⟨σ, rfl, ⟨hr1, hr2⟩, FrC.rf⟩
theorem r_saw (hw : WfG m kp pg pn ld) (hr : RM σ m kp pg pn ld lk) (x : Int32) : ∃ τ, F_X7_saw x σ = some (saA m x, τ) ∧ RM τ (saN m x) kp pg pn ld lk ∧ FrM σ τ := by
  have hn := hw.1.nd
  have hs := hw.1.sq
  obtain ⟨hr1, hr2⟩ := hr
  unfold F_X7_saw saA
  rw [r_isDebt hw.1 hr1]
  by_cases h1 : inb x (m 9 4) = true
  · obtain ⟨d, hd, rfl⟩ := inb_of (by omega) h1
    obtain ⟨w1, w2, -⟩ := hw.1.d hd
    rw [cl_nI (by omega), r_isThere hw.1 hr1 hd, r_worthOf hw.1 hr1 hd]
    obtain ⟨b1, b2, b3, b4, b5, b6, b7⟩ := hr1
    have ha := b7 d hd
    obtain ⟨⟨a0, a1, a2, a3, a4, a5⟩, a6, a7⟩ := ha
    by_cases h7 : m 7 d = 1
    · rw [show saN m (nI d) = tset (tset m 7 d 2) 8 d (m 0 (m 2 d)) by unfold saN; rw [cl_nI (by omega), if_pos ⟨h1, h7⟩]]
      simp (disch := omega) only [h1, h7, if_true, Option.bind_some, li1, li2, li6, li7, ix8, inb_t, cl_nI, lt, decide_true]
      have e58 : ∀ k, k ≠ 8 * d + 6 → k ≠ 8 * d + 7 → (up (up σ 58 (8 * d + 7) (nI (wo m d))) 58 (8 * d + 6) (nI 2)).1 58 k = σ.1 58 k := fun k h1 h2 => by rw [up_k h1, up_k h2]
      have e56 : ∀ k, (up (up σ 58 (8 * d + 7) (nI (wo m d))) 58 (8 * d + 6) (nI 2)).1 56 k = σ.1 56 k := fun k => by rw [up_c (by omega), up_c (by omega)]
      rw [e58 (8 * d + 1) (by omega) (by omega), a1, inb_t (by omega) (by omega), cl_nI (by omega), e56, b5 _ w2]
      refine ⟨_, rfl, ⟨⟨?_, by rw [up_c (by omega), up_c (by omega), ts9]; exact b2, by rw [up_c (by omega), up_c (by omega), ts9]; exact b3, by rw [up_c (by omega), up_c (by omega), ts9]; exact b4, fun c hc => ?_, fun c hc => by rw [up_c (by omega), up_c (by omega), ts9]; exact b6 c hc, fun d2 hd2 => ?_⟩, RM'.keep (fun k hk => by rw [up_c (by omega), up_c (by omega)]) (fun c hc => by rw [up_off (by omega), up_off (by omega)]) hr2⟩, (FrM.up (by omega)).tr (FrM.up (by omega))⟩
      · obtain ⟨r, c1, c2, c3⟩ := b1
        exact ⟨r, c1, by rw [up_c (by omega), up_c (by omega)]; exact c2, by rw [ts9, ts9]; exact c3⟩
      · rw [e56]
        rw [ts9] at hc
        simp only [tset]
        exact b5 c hc
      · rw [ts9] at hd2
        unfold RMd
        by_cases e : d2 = d
        · subst e
          refine ⟨⟨?_, ?_, ?_, ?_, ?_, ?_⟩, ?_, ?_⟩
          · rw [e58 _ (by omega) (by omega), a0]; simp [tset]
          · rw [e58 _ (by omega) (by omega), a1]; simp [tset]
          · rw [e58 _ (by omega) (by omega), a2]; simp [tset]
          · rw [e58 _ (by omega) (by omega), a3]; simp [tset]
          · rw [e58 _ (by omega) (by omega), a4]; simp [tset]
          · rw [e58 _ (by omega) (by omega), a5]; simp [tset]
          · rw [up_s]; simp [tset]
          · intro _
            rw [up_k (by omega), up_s]
            congr 1
            simp [wo, tset, h7]
        · obtain ⟨⟨c0, c1, c2, c3, c4, c5⟩, c6, c7⟩ := b7 d2 hd2
          rw [e58 _ (by omega) (by omega), e58 _ (by omega) (by omega), e58 _ (by omega) (by omega), e58 _ (by omega) (by omega), e58 _ (by omega) (by omega), e58 _ (by omega) (by omega), e58 _ (by omega) (by omega), e58 _ (by omega) (by omega)]
          have ew : wo (tset (tset m 7 d 2) 8 d (m 0 (m 2 d))) d2 = wo m d2 := by simp [wo, tset, e]
          rw [ew]
          simp only [tset, e, and_false, if_false]
          exact ⟨⟨c0, c1, c2, c3, c4, c5⟩, c6, c7⟩
    · rw [show saN m (nI d) = m by unfold saN; rw [cl_nI (by omega), if_neg (fun z => h7 z.2)]]
      simp only [h1, h7, if_true, Option.bind_some, decide_false]
      exact ⟨σ, rfl, ⟨⟨b1, b2, b3, b4, b5, b6, b7⟩, hr2⟩, FrM.rf⟩
  · rw [show saN m x = m by unfold saN; rw [if_neg (fun z => h1 z.1)]]
    simp only [h1, if_false]
    exact ⟨σ, rfl, ⟨hr1, hr2⟩, FrM.rf⟩
theorem w_saw (hw : WfG m kp pg pn ld) (x : Int32) : WfG (saN m x) kp pg pn ld := by
  have hn := hw.1.nd
  unfold saN
  by_cases h : inb x (m 9 4) = true ∧ m 7 x.toNatClampNeg = 1
  · rw [if_pos h]
    obtain ⟨d, hd, rfl⟩ := inb_of (by omega) h.1
    rw [cl_nI (by omega)] at h ⊢
    obtain ⟨⟨h1, h2, h3, h4, h5⟩, h6⟩ := hw
    have hi := h4 _ (h5 d hd).2.1
    refine ⟨⟨h1, h2, h3, fun c hc => ?_, fun d2 hd2 => ?_⟩, h6⟩
    · simp only [tset]; exact h4 c hc
    · rw [ts9] at hd2
      obtain ⟨w1, w2, w3, w4, w5, w6, w7, w8, w9, w10, w11⟩ := h5 d2 hd2
      unfold Wfd
      by_cases e : d2 = d
      · subst e
        simp [tset]
        exact ⟨w1, w2, w3, w4, w5, w6, w7, w8, fun z => by have := w10.mpr z; omega, hi⟩
      · simp only [tset, e, and_false, if_false]
        exact ⟨w1, w2, w3, w4, w5, w6, w7, w8, w9, w10, w11⟩
  · rw [if_neg h]; exact hw
end SAW
