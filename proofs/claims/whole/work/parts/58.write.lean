theorem RCd.keep {σ τ : Hp} {t : Nat} {m : Tw} {d : Nat} (e : τ.1 (10 * t + d) = σ.1 (10 * t + d)) (h : RCd σ t m d) : RCd τ t m d := by
  unfold RCd at h ⊢
  rw [e]; exact h
theorem RMd.keep {σ τ : Hp} {ar : Nat} {m : Tw} {d : Nat} (e : ∀ j, j < 8 → τ.1 ar (8 * d + j) = σ.1 ar (8 * d + j)) (h : RMd σ ar m d) : RMd τ ar m d := by
  unfold RMd at h ⊢
  have e0 := e 0 (by omega)
  rw [Nat.add_zero] at e0
  rw [e0, e 1 (by omega), e 2 (by omega), e 3 (by omega), e 4 (by omega), e 5 (by omega), e 6 (by omega), e 7 (by omega)]
  exact h
section WRITE
variable {σ : Hp} {m : Tw} {kp : Option Tw} {pg : Nat → Nat} {pn ld lk : Nat}
def depI (k u : Int32) : Int32 := if k = 1 then 2 * u else u
theorem c_depthOf (k u : Int32) (σ : Hp) : F_X0_depthOf k u σ = depI k u := rfl
def wrA (m : Tw) (k c a b s u : Int32) : Int32 := if inb c (m 9 1) = true ∧ wn a 0 5 = true ∧ wn b 0 5 = true ∧ ¬ a = b then (if wn k 0 4 = true ∧ wn s 1 99 = true ∧ wn u 1 9 = true then (if depI k u ≤ nI (m 0 c.toNatClampNeg) then (if m 9 4 < 10 then nI (m 9 4) else -104) else -103) else -102) else -101
def wrOk (m : Tw) (k c a b s u : Int32) : Prop := (inb c (m 9 1) = true ∧ wn a 0 5 = true ∧ wn b 0 5 = true ∧ ¬ a = b) ∧ (wn k 0 4 = true ∧ wn s 1 99 = true ∧ wn u 1 9 = true) ∧ depI k u ≤ nI (m 0 c.toNatClampNeg) ∧ m 9 4 < 10
def wrN (m : Tw) (k c a b s u : Nat) : Tw := fun f x => if f = 9 ∧ x = 4 then m 9 4 + 1 else if 1 ≤ f ∧ f ≤ 8 ∧ x = m 9 4 then (if f = 1 then k else if f = 2 then c else if f = 3 then a else if f = 4 then b else if f = 5 then s else if f = 6 then (if k = 1 then 2 * u else u) else if f = 7 then 1 else 0) else m f x
theorem wrN_9 (m : Tw) (k c a b s u : Nat) {x : Nat} (h : x ≠ 4) : wrN m k c a b s u 9 x = m 9 x := by simp [wrN, h]
theorem wrN_0 (m : Tw) (k c a b s u x : Nat) : wrN m k c a b s u 0 x = m 0 x := by simp [wrN]
theorem wrN_o (m : Tw) (k c a b s u : Nat) {f x : Nat} (hf : f ≤ 8) (h : x ≠ m 9 4) : wrN m k c a b s u f x = m f x := by
  have : ¬ f = 9 := by omega
  simp [wrN, h, this]
theorem dep_nI {k u : Nat} (hk : k ≤ 4) : depI (nI k) (nI u) = nI (if k = 1 then 2 * u else u) := by
  unfold depI
  by_cases h : k = 1
  · subst h; rw [if_pos (by decide +kernel), li2, pk_mul]; simp
  · have : ¬ nI k = 1 := fun z => h ((nI_eq (b := 1) (by omega) (by omega)).mp z)
    rw [if_neg this, if_neg h]
theorem c_write (hw : WfG m kp pg pn ld) (hr : RC σ m kp pg pn ld) (k c a b s u : Int32) : ∃ τ, F_X6_write k c a b s u σ = some (wrA m k c a b s u, τ) ∧ (wrOk m k c a b s u → RC τ (wrN m k.toNatClampNeg c.toNatClampNeg a.toNatClampNeg b.toNatClampNeg s.toNatClampNeg u.toNatClampNeg) kp pg pn ld) ∧ (¬ wrOk m k c a b s u → τ = σ) ∧ FrC σ τ := by
  have hn := hw.1.nd
  have hsq := hw.1.sq
  obtain ⟨hr1, hr2⟩ := hr
  have e4 : σ.1 30 4 = nI (m 9 4) := hr1.1 4 (by omega)
  unfold F_X6_write wrA
  rw [c_hasSquare hw.1 hr1, c_isKind, c_within, c_within, c_depthOf]
  have hpair : (F_X6_arePair a b σ = true) ↔ (wn a 0 5 = true ∧ wn b 0 5 = true ∧ ¬ a = b) := by
    unfold F_X6_arePair
    rw [c_isPerson, c_isPerson]
    cases wn a 0 5 <;> cases wn b 0 5 <;> by_cases h : a = b <;> simp [h]
  by_cases hA : inb c (m 9 1) = true ∧ wn a 0 5 = true ∧ wn b 0 5 = true ∧ ¬ a = b
  · rw [if_pos hA.1, if_pos (hpair.mpr hA.2), if_pos hA]
    by_cases hB : wn k 0 4 = true ∧ wn s 1 99 = true ∧ wn u 1 9 = true
    · rw [if_pos hB.1, if_pos hB.2.1, if_pos hB.2.2, if_pos hB]
      obtain ⟨c', hc, rfl⟩ := inb_of (by omega) hA.1
      have e3 : σ.1 33 c' = nI (m 0 c') := hr1.2.1 c' hc
      rw [cl_nI (by omega), inb_t (by omega) (by omega), if_pos rfl, e3]
      by_cases hC : depI k u ≤ nI (m 0 c')
      · rw [if_pos hC, if_pos hC, e4, li10]
        by_cases hD : m 9 4 < 10
        · rw [if_pos ((nI_ltI (by omega) (by omega)).mpr hD), if_pos hD]
          obtain ⟨k', -, hk, rfl⟩ := wn_nI (a := 0) (b := 4) (by omega) (by omega) hB.1
          obtain ⟨s', hs1, hs2, rfl⟩ := wn_nI (a := 1) (b := 99) (by omega) (by omega) hB.2.1
          obtain ⟨u', hu1, hu2, rfl⟩ := wn_nI (a := 1) (b := 9) (by omega) (by omega) hB.2.2
          obtain ⟨a', -, ha, rfl⟩ := wn_nI (a := 0) (b := 5) (by omega) (by omega) hA.2.1
          obtain ⟨b', -, hb, rfl⟩ := wn_nI (a := 0) (b := 5) (by omega) (by omega) hA.2.2.1
          have hok : wrOk m (nI k') (nI c') (nI a') (nI b') (nI s') (nI u') := ⟨hA, hB, by rw [cl_nI (by omega)]; exact hC, hD⟩
          simp (disch := omega) only [lt_p, inb_t, cl_nI, if_true, F_X0_concern, F_X0_cutIn, c_depthOf, nI_1, dep_nI hk]
          refine ⟨_, rfl, fun _ => ⟨⟨fun j hj => ?_, fun x hx => ?_, fun d hd => ?_⟩, RC'.keep hw.kn (fun x hx => ?_) hr2⟩, fun h => absurd hok h, ?_⟩
          · have h30 : ∀ x : Nat, 30 + 0 ≠ 10 * 0 + m 9 4 := fun _ => by omega
            by_cases hj4 : j = 4
            · subst hj4; rw [show 30 + 0 = 30 from rfl, up_s]; simp [wrN]
            · rw [up_k hj4, up_c (h30 0), up_c (h30 0), up_c (h30 0), up_c (h30 0), up_c (h30 0), up_c (h30 0), up_c (h30 0), up_c (h30 0), wrN_9 _ _ _ _ _ _ _ hj4]
              exact hr1.1 j hj
          · rw [wrN_9 _ _ _ _ _ _ _ (by omega)] at hx
            have h33 : 33 + 0 ≠ 10 * 0 + m 9 4 := by omega
            rw [up_c (by omega), up_c h33, up_c h33, up_c h33, up_c h33, up_c h33, up_c h33, up_c h33, up_c h33, wrN_0]
            exact hr1.2.1 x hx
          · have hd2 : d < m 9 4 + 1 := by simpa [wrN] using hd
            unfold RCd
            have hc30 : 10 * 0 + d ≠ 30 := by omega
            by_cases e : d = m 9 4
            · subst e
              refine ⟨⟨?_, ?_, ?_, ?_, ?_, ?_⟩, ?_, ?_⟩
              · rw [up_c hc30]; simp [up_at, wrN]
              · rw [up_c hc30]; simp [up_at, wrN]
              · rw [up_c hc30]; simp [up_at, wrN]
              · rw [up_c hc30]; simp [up_at, wrN]
              · rw [up_c hc30]; simp [up_at, wrN]
              · rw [up_c hc30]; simp [up_at, wrN]
              · rw [up_c hc30]; simp [up_at, wrN]
              · intro h; simp [wrN] at h
            · have hne : 10 * 0 + d ≠ 10 * 0 + m 9 4 := by omega
              simp only [up_c hc30, up_c hne]
              rw [wrN_o _ _ _ _ _ _ _ (by omega) e, wrN_o _ _ _ _ _ _ _ (by omega) e, wrN_o _ _ _ _ _ _ _ (by omega) e, wrN_o _ _ _ _ _ _ _ (by omega) e, wrN_o _ _ _ _ _ _ _ (by omega) e, wrN_o _ _ _ _ _ _ _ (by omega) e, wrN_o _ _ _ _ _ _ _ (by omega) e, wrN_o _ _ _ _ _ _ _ (by omega) e]
              exact hr1.2.2 d (by omega)
          · have hne : x ≠ 10 * 0 + m 9 4 := by omega
            have hne2 : x ≠ 30 := by omega
            simp only [up_off hne, up_off hne2]
          · have hlt : 10 * 0 + m 9 4 < 55 := by omega
            exact (FrC.up hlt).tr ((FrC.up hlt).tr ((FrC.up hlt).tr ((FrC.up hlt).tr ((FrC.up hlt).tr ((FrC.up hlt).tr ((FrC.up hlt).tr ((FrC.up hlt).tr (FrC.up (by omega)))))))))
        · rw [if_neg (fun z => hD ((nI_ltI (by omega) (by omega)).mp z)), if_neg hD]
          exact ⟨σ, rfl, fun h => absurd h.2.2.2 hD, fun _ => rfl, FrC.rf⟩
      · rw [if_neg hC, if_neg hC]
        exact ⟨σ, rfl, fun h => absurd (by have := h.2.2.1; rwa [cl_nI (by omega)] at this) hC, fun _ => rfl, FrC.rf⟩
    · rw [if_neg hB]
      refine ⟨σ, ?_, fun h => absurd h.2.1 hB, fun _ => rfl, FrC.rf⟩
      by_cases b1 : wn k 0 4 = true
      · rw [if_pos b1]
        by_cases b2 : wn s 1 99 = true
        · rw [if_pos b2, if_neg (fun b3 => hB ⟨b1, b2, b3⟩)]
        · rw [if_neg b2]
      · rw [if_neg b1]
  · rw [if_neg hA]
    refine ⟨σ, ?_, fun h => absurd h.1 hA, fun _ => rfl, FrC.rf⟩
    by_cases b1 : inb c (m 9 1) = true
    · rw [if_pos b1, if_neg (fun z => hA ⟨b1, hpair.mp z⟩)]
    · rw [if_neg b1]
theorem r_write (hw : WfG m kp pg pn ld) (hr : RM σ m kp pg pn ld lk) (k c a b s u : Int32) : ∃ τ, F_X7_write k c a b s u σ = some (wrA m k c a b s u, τ) ∧ (wrOk m k c a b s u → RM τ (wrN m k.toNatClampNeg c.toNatClampNeg a.toNatClampNeg b.toNatClampNeg s.toNatClampNeg u.toNatClampNeg) kp pg pn ld lk) ∧ (¬ wrOk m k c a b s u → τ = σ) ∧ FrM σ τ := by
  have hn := hw.1.nd
  have hsq := hw.1.sq
  obtain ⟨hr1, hr2⟩ := hr
  have e4 := hr1.2.2.2.1
  unfold F_X7_write wrA
  rw [r_isSquare hw.1 hr1, r_isPerson, r_isPerson, lj0, lj1, lj4, lj9, lj99, r_in, r_in, r_in]
  by_cases hA : inb c (m 9 1) = true ∧ wn a 0 5 = true ∧ wn b 0 5 = true ∧ ¬ a = b
  · rw [if_pos hA.1, if_pos hA.2.1, if_pos hA.2.2.1, if_neg hA.2.2.2, if_pos hA]
    by_cases hB : wn k 0 4 = true ∧ wn s 1 99 = true ∧ wn u 1 9 = true
    · rw [if_pos hB.1, if_pos hB.2.1, if_pos hB.2.2, if_pos hB]
      have hdep : (if k = 1 then F_X7_write_87 k c a b s (2 * u) σ else F_X7_write_87 k c a b s u σ) = F_X7_write_87 k c a b s (depI k u) σ := by
        unfold depI; split <;> rfl
      rw [hdep]
      obtain ⟨c', hc, rfl⟩ := inb_of (by omega) hA.1
      have e3 := hr1.2.2.2.2.1 c' hc
      unfold F_X7_write_87
      rw [cl_nI (n := c') (by omega), inb_t (i := c') (by omega) (by omega), if_pos rfl, e3]
      by_cases hC : depI k u ≤ nI (m 0 c')
      · rw [if_pos hC, if_pos hC, e4, li10]
        by_cases hD : m 9 4 < 10
        · rw [if_neg (fun z => by have := (nI_eq (by omega) (by omega)).mp z; omega), if_pos hD]
          obtain ⟨k', -, hk, rfl⟩ := wn_nI (a := 0) (b := 4) (by omega) (by omega) hB.1
          obtain ⟨s', hs1, hs2, rfl⟩ := wn_nI (a := 1) (b := 99) (by omega) (by omega) hB.2.1
          obtain ⟨u', hu1, hu2, rfl⟩ := wn_nI (a := 1) (b := 9) (by omega) (by omega) hB.2.2
          obtain ⟨a', -, ha, rfl⟩ := wn_nI (a := 0) (b := 5) (by omega) (by omega) hA.2.1
          obtain ⟨b', -, hb, rfl⟩ := wn_nI (a := 0) (b := 5) (by omega) (by omega) hA.2.2.1
          have hok : wrOk m (nI k') (nI c') (nI a') (nI b') (nI s') (nI u') := ⟨hA, hB, by rw [cl_nI (by omega)]; exact hC, hD⟩
          have e55 : ∀ (v0 v1 v2 v3 v4 v5 v6 v7 : Int32) (i0 i1 i2 i3 i4 i5 i6 i7 j : Nat), (up (up (up (up (up (up (up (up σ 58 i0 v0) 58 i1 v1) 58 i2 v2) 58 i3 v3) 58 i4 v4) 58 i5 v5) 58 i6 v6) 58 i7 v7).1 55 j = σ.1 55 j := by
            intros; simp [up_at]
          rw [lt_p, li8, pk_mul]
          simp (disch := omega) only [li1, li2, li3, li4, li5, li6, li7, nI_add, inb_t, cl_nI, if_true, dep_nI hk]
          simp only [lt_p]
          rw [e55, e4, nI_add, up_s, pk_sub (by omega), Nat.add_sub_cancel]
          refine ⟨_, rfl, fun _ => ⟨?_, RM'.keep (fun j hj => ?_) (fun x hx => ?_) hr2⟩, fun h => absurd hok h, ?_⟩
          · obtain ⟨⟨r, c1, c2, c3⟩, b2, b3, b4, b5, b6, b7⟩ := hr1
            refine ⟨⟨r, c1, ?_, ?_⟩, ?_, ?_, ?_, fun x hx => ?_, fun x hx => ?_, fun d hd => ?_⟩
            · rw [up_k (by omega), e55]; exact c2
            · rw [wrN_9 _ _ _ _ _ _ _ (by omega), wrN_9 _ _ _ _ _ _ _ (by omega)]; exact c3
            · rw [up_k (by omega), e55, wrN_9 _ _ _ _ _ _ _ (by omega)]; exact b2
            · rw [up_k (by omega), e55, wrN_9 _ _ _ _ _ _ _ (by omega)]; exact b3
            · rw [up_s]; simp [wrN]
            · rw [wrN_9 _ _ _ _ _ _ _ (by omega)] at hx
              rw [wrN_0]
              simp only [up_c (show 56 ≠ 55 by omega), up_c (show 56 ≠ 58 by omega)]
              exact b5 x hx
            · rw [wrN_9 _ _ _ _ _ _ _ (by omega)]
              simp only [up_c (show 57 ≠ 55 by omega), up_c (show 57 ≠ 58 by omega)]
              exact b6 x hx
            · have hd2 : d < m 9 4 + 1 := by simpa [wrN] using hd
              by_cases e : d = m 9 4
              · subst e
                unfold RMd
                simp only [up_c (show 58 ≠ 55 by omega)]
                refine ⟨⟨?_, ?_, ?_, ?_, ?_, ?_⟩, ?_, ?_⟩
                · simp [up_at, wrN]
                · simp [up_at, wrN]
                · simp [up_at, wrN]
                · simp [up_at, wrN]
                · simp [up_at, wrN]
                · simp [up_at, wrN]
                · simp [up_at, wrN]
                · intro h; simp [wrN] at h
              · refine RMd.keep (σ := σ) (fun j hj => ?_) ?_
                · rw [up_c (by omega), up_k (by omega), up_k (by omega), up_k (by omega), up_k (by omega), up_k (by omega), up_k (by omega), up_k (by omega), up_k (by omega)]
                · have ew : wo (wrN m k' c' a' b' s' u') d = wo m d := by
                    unfold wo
                    rw [wrN_o _ _ _ _ _ _ _ (by omega) e, wrN_o _ _ _ _ _ _ _ (by omega) e, wrN_o _ _ _ _ _ _ _ (by omega) e, wrN_o _ _ _ _ _ _ _ (by omega) e, wrN_o _ _ _ _ _ _ _ (by omega) e, wrN_0]
                  unfold RMd
                  rw [ew, wrN_o _ _ _ _ _ _ _ (by omega) e, wrN_o _ _ _ _ _ _ _ (by omega) e, wrN_o _ _ _ _ _ _ _ (by omega) e, wrN_o _ _ _ _ _ _ _ (by omega) e, wrN_o _ _ _ _ _ _ _ (by omega) e, wrN_o _ _ _ _ _ _ _ (by omega) e, wrN_o _ _ _ _ _ _ _ (by omega) e]
                  exact b7 d (by omega)
          · rw [up_k (by omega), e55]
          · simp only [up_off (show x ≠ 55 by omega), up_off (show x ≠ 58 by omega)]
          · have hle : 55 ≤ 58 := by omega
            exact (FrM.up hle).tr ((FrM.up hle).tr ((FrM.up hle).tr ((FrM.up hle).tr ((FrM.up hle).tr ((FrM.up hle).tr ((FrM.up hle).tr ((FrM.up hle).tr (FrM.up (by omega)))))))))
        · rw [if_pos (by rw [show m 9 4 = 10 by omega]), if_neg hD]
          exact ⟨σ, rfl, fun h => absurd h.2.2.2 hD, fun _ => rfl, FrM.rf⟩
      · rw [if_neg hC, if_neg hC]
        exact ⟨σ, rfl, fun h => absurd (by have := h.2.2.1; rwa [cl_nI (by omega)] at this) hC, fun _ => rfl, FrM.rf⟩
    · rw [if_neg hB]
      refine ⟨σ, ?_, fun h => absurd h.2.1 hB, fun _ => rfl, FrM.rf⟩
      by_cases b1 : wn k 0 4 = true
      · rw [if_pos b1]
        by_cases b2 : wn s 1 99 = true
        · rw [if_pos b2, if_neg (fun b3 => hB ⟨b1, b2, b3⟩)]
        · rw [if_neg b2]
      · rw [if_neg b1]
  · rw [if_neg hA]
    refine ⟨σ, ?_, fun h => absurd h.1 hA, fun _ => rfl, FrM.rf⟩
    by_cases b1 : inb c (m 9 1) = true
    · rw [if_pos b1]
      by_cases b2 : wn a 0 5 = true
      · rw [if_pos b2]
        by_cases b3 : wn b 0 5 = true
        · rw [if_pos b3]
          by_cases b4 : a = b
          · rw [if_pos b4]
          · exact absurd ⟨b1, b2, b3, b4⟩ hA
        · rw [if_neg b3]
      · rw [if_neg b2]
    · rw [if_neg b1]
theorem w_write (hw : WfG m kp pg pn ld) {k c a b s u : Int32} (h : wrOk m k c a b s u) : WfG (wrN m k.toNatClampNeg c.toNatClampNeg a.toNatClampNeg b.toNatClampNeg s.toNatClampNeg u.toNatClampNeg) kp pg pn ld := by
  have hsq := hw.1.sq
  obtain ⟨hA, hB, hC, hD⟩ := h
  obtain ⟨c', hc, rfl⟩ := inb_of (by omega) hA.1
  obtain ⟨k', -, hk, rfl⟩ := wn_nI (a := 0) (b := 4) (by omega) (by omega) hB.1
  obtain ⟨s', hs1, hs2, rfl⟩ := wn_nI (a := 1) (b := 99) (by omega) (by omega) hB.2.1
  obtain ⟨u', hu1, hu2, rfl⟩ := wn_nI (a := 1) (b := 9) (by omega) (by omega) hB.2.2
  obtain ⟨a', -, ha, rfl⟩ := wn_nI (a := 0) (b := 5) (by omega) (by omega) hA.2.1
  obtain ⟨b', -, hb, rfl⟩ := wn_nI (a := 0) (b := 5) (by omega) (by omega) hA.2.2.1
  have hab : a' ≠ b' := fun e => hA.2.2.2 (by rw [e])
  rw [cl_nI (by omega), cl_nI (by omega), cl_nI (by omega), cl_nI (by omega), cl_nI (by omega), cl_nI (by omega)]
  obtain ⟨⟨h1, h2, h3, h4, h5⟩, h6, h7⟩ := hw
  refine ⟨⟨?_, ?_, ?_, fun x hx => ?_, fun d hd => ?_⟩, fun q hq => ?_, h7⟩
  · obtain ⟨r, g1, g2, g3, g4, g5⟩ := h1
    exact ⟨r, g1, g2, by rw [wrN_9 _ _ _ _ _ _ _ (by omega)]; exact g3, by rw [wrN_9 _ _ _ _ _ _ _ (by omega)]; exact g4, by rw [wrN_9 _ _ _ _ _ _ _ (by omega), wrN_9 _ _ _ _ _ _ _ (by omega)]; exact g5⟩
  · rw [wrN_9 _ _ _ _ _ _ _ (by omega)]; exact h2
  · simp [wrN]; omega
  · rw [wrN_9 _ _ _ _ _ _ _ (by omega)] at hx
    rw [wrN_0]; exact h4 x hx
  · have hd2 : d < m 9 4 + 1 := by simpa [wrN] using hd
    unfold Wfd
    rw [wrN_9 _ _ _ _ _ _ _ (by omega)]
    by_cases e : d = m 9 4
    · subst e
      simp [wrN]
      refine ⟨hk, hc, ha, hb, hab, hs1, hs2, ?_, ?_⟩
      · split <;> omega
      · split <;> omega
    · rw [wrN_o _ _ _ _ _ _ _ (by omega) e, wrN_o _ _ _ _ _ _ _ (by omega) e, wrN_o _ _ _ _ _ _ _ (by omega) e, wrN_o _ _ _ _ _ _ _ (by omega) e, wrN_o _ _ _ _ _ _ _ (by omega) e, wrN_o _ _ _ _ _ _ _ (by omega) e, wrN_o _ _ _ _ _ _ _ (by omega) e, wrN_o _ _ _ _ _ _ _ (by omega) e]
      exact h5 d (by omega)
  · obtain ⟨g1, g2, g3⟩ := h6 q hq
    exact ⟨g1, by rw [wrN_9 _ _ _ _ _ _ _ (by omega)]; exact g2, by rw [wrN_9 _ _ _ _ _ _ _ (by omega)]; exact g3⟩
end WRITE
