section RWINTER
variable {σ : Hp} {m : Tw} {kp : Option Tw} {pg : Nat → Nat} {pn ld lk : Nat}
theorem RMt.keepR {σ τ : Hp} {ai as ar : Nat} {m : Tw} (hs : m 9 1 ≤ 16) (hn : m 9 4 ≤ 10) (h1 : ∀ k, k < 16 → τ.1 ai k = σ.1 ai k) (h2 : ∀ k, k < 16 → τ.1 as k = σ.1 as k) (h3 : ∀ k, k < 80 → τ.1 ar k = σ.1 ar k) (hr : RMt σ ai as ar m) : RMt τ ai as ar m := by
  obtain ⟨g1, g2, g3⟩ := hr
  exact ⟨fun c hc => by rw [h1 c (by omega)]; exact g1 c hc, fun c hc => by rw [h2 c hc]; exact g2 c hc, fun d hd => (g3 d hd).keep (fun j hj => h3 _ (by omega))⟩
theorem r_wend {h : Hp} {q : Tw} (hw : Wf q) (hr : RMc h q) (w v : Int32) : F_X7_winter_127 fuel w v 0 0 h = (F_X7_copy 67 56 h).bind fun q2 => (F_X7_copy 68 57 q2).bind fun q3 => (F_X7_copy 69 58 q3).bind fun q4 => if w = 0 then some (v, q4) else if w = 1 then some (icI q, q4) else some (q4.1 55 23, q4) := by
  have hs := hw.sq
  have hl := lp (fun n (x : Int32 × Int32) => F_X7_winter_127 n w v x.1 x.2 h) (q 9 1) (fun d => (sumI (fun c => nI (q 0 c)) d, nI d)) ((F_X7_copy 67 56 h).bind fun q2 => (F_X7_copy 68 57 q2).bind fun q3 => (F_X7_copy 69 58 q3).bind fun q4 => if w = 0 then some (v, q4) else if w = 1 then some (icI q, q4) else some (q4.1 55 23, q4)) ?_ ?_ fuel 0 (by omega) (by have := fuel_ge; omega)
  · exact hl
  · intro n
    show F_X7_winter_127 (n + 1) w v _ (nI (q 9 1)) h = _
    rw [F_X7_winter_127, r_squares hr, if_pos (nle.mp (fun z => by have := (nI_ltI (by omega) (by omega)).mp z; omega))]
    rfl
  · intro n d hd
    show F_X7_winter_127 (n + 1) w v _ (nI d) h = F_X7_winter_127 n w v _ (nI (d + 1)) h
    rw [F_X7_winter_127, r_squares hr, if_neg (le_no (by omega) (by omega) hd), inb_t (by omega) (by omega), cl_nI (by omega), if_pos rfl, lt_p, hr.2.2.2.2.1 d hd, nI_1]
    rfl
theorem r_winter (hw : WfG m kp pg pn ld) (hr : RM σ m kp pg pn ld lk) (d s w : Int32) : ∃ τ, F_X7_winter d s w σ = some (wiA m d s w, τ) ∧ RM τ m kp pg pn ld lk ∧ FrM σ τ := by
  unfold F_X7_winter wiA
  rw [lj0, lj1, lj2, lj60, r_in, r_in]
  by_cases h1 : wn d 1 60 = true
  · by_cases h2 : s < 0
    · rw [if_pos h1, if_pos h2, if_neg (fun z => z.2.1 h2)]
      exact ⟨σ, rfl, hr, FrM.rf⟩
    · by_cases h3 : wn w 0 2 = true
      · rw [if_pos h1, if_neg h2, if_pos h3, if_pos ⟨h1, h2, h3⟩]
        obtain ⟨D, hD1, hD2, rfl⟩ := wn_nI (a := 1) (b := 60) (by omega) (by omega) h1
        obtain ⟨w', -, hw2, rfl⟩ := wn_nI (a := 0) (b := 2) (by omega) (by omega) h3
        have hsq := hw.1.sq
        have hnd := hw.1.nd
        rw [cl_nI (by omega), r_copy (by omega) (by decide) (by decide), Option.bind_some, r_copy (by omega) (by decide) (by decide), Option.bind_some, r_copy (by omega) (by decide) (by decide), Option.bind_some, lt_p]
        obtain ⟨⟨⟨r, c1, c2, c3⟩, b2, b3, b4, b5, b6, b7⟩, k2⟩ := hr
        generalize hτe : rowf (rowf (rowf σ 67 (σ.1 56) (alen 56)) 68 ((rowf σ 67 (σ.1 56) (alen 56)).1 57) (alen 57)) 69 ((rowf (rowf σ 67 (σ.1 56) (alen 56)) 68 ((rowf σ 67 (σ.1 56) (alen 56)).1 57) (alen 57)).1 58) (alen 58) = υ
        have ho : ∀ c, c ≠ 67 → c ≠ 68 → c ≠ 69 → υ.1 c = σ.1 c := fun c g0 g1 g2 => by rw [← hτe, rowf_r g2, rowf_r g1, rowf_r g0]
        have e67 : ∀ k, k < 16 → υ.1 67 k = σ.1 56 k := fun k hk => by rw [← hτe, rowf_c (by omega), rowf_c (by omega), rowf_lt (by exact hk)]
        have e68 : ∀ k, k < 16 → υ.1 68 k = σ.1 57 k := fun k hk => by rw [← hτe, rowf_c (by omega), rowf_lt (by exact hk), rowf_c (by omega)]
        have e69 : ∀ k, k < 80 → υ.1 69 k = σ.1 58 k := fun k hk => by rw [← hτe, rowf_lt (by exact hk), rowf_c (by omega), rowf_c (by omega)]
        have e55 : ∀ k, k ≠ 23 → (up υ 55 23 s).1 55 k = σ.1 55 k := fun k hk => by rw [up_k hk, ho 55 (by omega) (by omega) (by omega)]
        have eo : ∀ c, c ≠ 55 → c ≠ 67 → c ≠ 68 → c ≠ 69 → (up υ 55 23 s).1 c = σ.1 c := fun c g g0 g1 g2 => by rw [up_off g, ho c g0 g1 g2]
        have hstart : RMc (up υ 55 23 s) m := ⟨⟨r, c1, by rw [e55 0 (by omega)]; exact c2, c3⟩, by rw [e55 1 (by omega)]; exact b2, by rw [e55 5 (by omega)]; exact b3, by rw [e55 6 (by omega)]; exact b4, RMt.congr (eo 56 (by omega) (by omega) (by omega) (by omega)) (eo 57 (by omega) (by omega) (by omega) (by omega)) (eo 58 (by omega) (by omega) (by omega) (by omega)) ⟨b5, b6, b7⟩⟩
        have := lpI (fun n (x : Int32 × Hp) => F_X7_winter_72 n (nI D) (nI w') x.1 x.2) D (fun e x => x.1 = nI e ∧ RMc x.2 (wsd m s e).1 ∧ x.2.1 55 23 = (wsd m s e).2 ∧ (∀ k, k ≠ 23 → x.2.1 55 k = σ.1 55 k) ∧ (∀ c, c ≠ 55 → c ≠ 56 → c ≠ 57 → c ≠ 58 → x.2.1 c = υ.1 c)) (fun o => ∃ τ, o = some ((if nI w' = 0 then stI (wsd m s D).1 else if nI w' = 1 then icI (wsd m s D).1 else (wsd m s D).2), τ) ∧ (∀ k, k ≠ 23 → τ.1 55 k = σ.1 55 k) ∧ (∀ c, c ≠ 55 → c ≠ 56 → c ≠ 57 → c ≠ 58 → τ.1 c = υ.1 c) ∧ (∀ k, k < 16 → τ.1 56 k = σ.1 56 k) ∧ (∀ k, k < 16 → τ.1 57 k = σ.1 57 k) ∧ (∀ k, k < 80 → τ.1 58 k = σ.1 58 k)) ?_ ?_ fuel 0 (nI 0, up υ 55 23 s) (by omega) (by have := fuel_ge; omega) ⟨rfl, hstart, up_s, e55, fun c g _ _ _ => up_off g⟩
        · obtain ⟨τ, t1, t2, t3, t4, t5, t6⟩ := this
          have tt : ∀ c, c ≠ 55 → c ≠ 56 → c ≠ 57 → c ≠ 58 → c ≠ 67 → c ≠ 68 → c ≠ 69 → τ.1 c = σ.1 c := fun c g1 g2 g3 g4 g5 g6 g7 => by rw [t3 c g1 g2 g3 g4, ho c g5 g6 g7]
          refine ⟨τ, t1, ⟨⟨⟨r, c1, by rw [t2 0 (by omega)]; exact c2, c3⟩, by rw [t2 1 (by omega)]; exact b2, by rw [t2 5 (by omega)]; exact b3, by rw [t2 6 (by omega)]; exact b4, RMt.keepR (by omega) hnd t4 t5 t6 ⟨b5, b6, b7⟩⟩, RM'.keep (fun k hk => t2 k (by omega)) (fun c hc => tt c (by omega) (by omega) (by omega) (by omega) (by omega) (by omega) (by omega)) k2⟩, fun c hc => tt c (by omega) (by omega) (by omega) (by omega) (by omega) (by omega) (by omega)⟩
        · rintro n ⟨x1, h⟩ ⟨i1, i2, i3, i4, i5⟩
          dsimp only at i1 i2 i3 i4 i5 ⊢
          subst i1
          have hwD := w_wsd hw.1 s D
          rw [F_X7_winter_72, if_pos (nle.mp (fun z => by have := (nI_ltI (by omega) (by omega)).mp z; omega)), r_thereMany hwD i2, Option.bind_some, r_wend hwD i2, r_copy (by omega) (by decide) (by decide), Option.bind_some, r_copy (by omega) (by decide) (by decide), Option.bind_some, r_copy (by omega) (by decide) (by decide), Option.bind_some]
          generalize hfe : rowf (rowf (rowf h 56 (h.1 67) (alen 67)) 57 ((rowf h 56 (h.1 67) (alen 67)).1 68) (alen 68)) 58 ((rowf (rowf h 56 (h.1 67) (alen 67)) 57 ((rowf h 56 (h.1 67) (alen 67)).1 68) (alen 68)).1 69) (alen 69) = τ
          have fo : ∀ c, c ≠ 56 → c ≠ 57 → c ≠ 58 → τ.1 c = h.1 c := fun c g0 g1 g2 => by rw [← hfe, rowf_r g2, rowf_r g1, rowf_r g0]
          have f55 : τ.1 55 = h.1 55 := fo 55 (by omega) (by omega) (by omega)
          refine ⟨τ, ?_, fun k hk => by rw [f55]; exact i4 k hk, fun c g1 g2 g3 g4 => by rw [fo c g2 g3 g4]; exact i5 c g1 g2 g3 g4, fun k hk => ?_, fun k hk => ?_, fun k hk => ?_⟩
          · rw [f55, i3]
            split
            · rfl
            · split <;> rfl
          · rw [← hfe, rowf_c (by omega), rowf_c (by omega), rowf_lt (by exact hk), i5 67 (by omega) (by omega) (by omega) (by omega), e67 k hk]
          · rw [← hfe, rowf_c (by omega), rowf_lt (by exact hk), rowf_c (by omega), i5 68 (by omega) (by omega) (by omega) (by omega), e68 k hk]
          · rw [← hfe, rowf_lt (by exact hk), rowf_c (by omega), rowf_c (by omega), i5 69 (by omega) (by omega) (by omega) (by omega), e69 k hk]
        · rintro n e ⟨x1, h⟩ he ⟨i1, i2, i3, i4, i5⟩
          dsimp only at i1 i2 i3 i4 i5 ⊢
          subst i1
          have hwe := w_wsd hw.1 s e
          generalize hq : wsd m s e = q at i2 i3 hwe ⊢
          have hq1 : wsd m s (e + 1) = ws1 q := by rw [← hq]; rfl
          rw [hq1]
          have hk4 := dr_lt (nx q.2) (n := 4) (by omega)
          have hk9 := dr_lt (nx (nx q.2)) (n := 9) (by omega)
          rw [F_X7_winter_72, if_neg (le_no (by omega) (by omega) he), li4, r_draw (by omega) (by omega), Option.bind_some, i3]
          have u55 : ∀ (g : Hp) (v : Int32), RMc g q.1 → RMc (up g 55 23 v) q.1 := fun g v hg => hg.congr (up_k (by omega)) (up_k (by omega)) (up_k (by omega)) (up_k (by omega)) (up_off (by omega)) (up_off (by omega)) (up_off (by omega))
          have hpass : ∀ (k i : Nat) (g : Hp) (sd : Int32), k ≤ 3 → i ≤ 9 → RMc g q.1 → g.1 55 23 = sd → (∀ k, k ≠ 23 → g.1 55 k = σ.1 55 k) → (∀ c, c ≠ 55 → c ≠ 56 → c ≠ 57 → c ≠ 58 → g.1 c = υ.1 c) → ∃ x' : Int32 × Hp, (x'.1 = nI (e + 1) ∧ RMc x'.2 (dyM q.1 k i) ∧ x'.2.1 55 23 = sd ∧ (∀ k, k ≠ 23 → x'.2.1 55 k = σ.1 55 k) ∧ (∀ c, c ≠ 55 → c ≠ 56 → c ≠ 57 → c ≠ 58 → x'.2.1 c = υ.1 c)) ∧ F_X7_winter_106 (F_X7_winter_72 n) (nI D) (nI w') (nI e) (nI i) (nI k) g = F_X7_winter_72 n (nI D) (nI w') x'.1 x'.2 := by
            intro k i g sd hk hi g1 g2 g3 g4
            obtain ⟨τ, t1, t2, t3, t4⟩ := r_day hk hi hwe g1
            have t55 : τ.1 55 = g.1 55 := t3 55 (by omega) (by omega) (by omega)
            refine ⟨(nI (e + 1), τ), ⟨rfl, t2, by rw [t55]; exact g2, fun k hk => by rw [t55]; exact g3 k hk, fun c q1 q2 q3 q4 => by rw [t3 c q2 q3 q4]; exact g4 c q1 q2 q3 q4⟩, ?_⟩
            unfold F_X7_winter_106
            rw [t1, Option.bind_some, nI_1]
          unfold ws1
          by_cases hk2 : dr (nx q.2) 4 < 2
          · rw [if_pos hk2, li2, if_neg (le_no (by omega) (by omega) hk2), li9, r_draw (by omega) (by omega), Option.bind_some, up_s, li1, nI_add, Nat.add_comm 1]
            exact hpass _ _ _ _ (by omega) (by omega) (u55 _ _ (u55 _ _ i2)) up_s (fun k hk => by rw [up_k hk, up_k hk]; exact i4 k hk) (fun c q1 q2 q3 q4 => by rw [up_off q1, up_off q1]; exact i5 c q1 q2 q3 q4)
          · rw [if_neg hk2, li2, if_pos ((nI_leI (by omega) (by omega)).mpr (by omega))]
            exact hpass _ 0 _ _ (by omega) (by omega) (u55 _ _ i2) up_s (fun k hk => by rw [up_k hk]; exact i4 k hk) (fun c q1 q2 q3 q4 => by rw [up_off q1]; exact i5 c q1 q2 q3 q4)
      · rw [if_pos h1, if_neg h2, if_neg h3, if_neg (fun z => h3 z.2.2)]
        exact ⟨σ, rfl, hr, FrM.rf⟩
  · rw [if_neg h1, if_neg (fun z => h1 z.1)]
    exact ⟨σ, rfl, hr, FrM.rf⟩
end RWINTER
