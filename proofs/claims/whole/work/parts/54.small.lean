/-! both systems as they stand; small calls -/
def FrC (σ τ : Hp) : Prop := (∀ c, 55 ≤ c → τ.1 c = σ.1 c) ∧ τ.2 = σ.2
def FrM (σ τ : Hp) : Prop := ∀ c, c < 55 → τ.1 c = σ.1 c
def WfG (m : Tw) (kp : Option Tw) (pg : Nat → Nat) (pn ld : Nat) : Prop := Wf m ∧ (∀ k, kp = some k → Wf k ∧ k 9 0 = m 9 0 ∧ k 9 1 = m 9 1) ∧ pn ≤ 24 ∧ (∀ i, i < pn → pg i ≤ 255) ∧ ld ≤ 20
def RC (σ : Hp) (m : Tw) (kp : Option Tw) (pg : Nat → Nat) (pn ld : Nat) : Prop := RCt σ 0 m ∧ σ.1 54 7 = (if kp.isSome then 1 else 0) ∧ (∀ k, kp = some k → RCt σ 1 k) ∧ σ.1 54 8 = nI ld ∧ σ.1 39 1 = nI pn ∧ (∀ i, i < pn → σ.1 40 i = nI (pg i)) ∧ σ.1 52 0 = 0 ∧ σ.1 53 0 = 0
def RM (σ : Hp) (m : Tw) (kp : Option Tw) (pg : Nat → Nat) (pn ld lk : Nat) : Prop := RMc σ m ∧ σ.1 55 2 = nI lk ∧ (kp = none → σ.1 55 24 = -1 ∨ ∃ j, j < lk ∧ σ.1 55 24 = nI j) ∧ (∀ k, kp = some k → σ.1 55 24 = nI lk ∧ σ.1 55 25 = nI (k 9 4) ∧ σ.1 55 26 = nI (k 9 3) ∧ RMt σ 70 71 72 k) ∧ σ.1 55 9 = nI pn ∧ (∀ i, i < pn → σ.1 59 i = nI (pg i)) ∧ σ.1 55 14 = nI ld
theorem RCt.congr {σ τ : Hp} {t : Nat} {m : Tw} (hd : m 9 4 ≤ 10) (ht : t < 3) (h : ∀ c, c < 55 → τ.1 c = σ.1 c) (hr : RCt σ t m) : RCt τ t m := by
  obtain ⟨h1, h2, h3⟩ := hr
  refine ⟨fun k hk => by rw [h _ (by omega)]; exact h1 k hk, fun c hc => by rw [h _ (by omega)]; exact h2 c hc, fun d hd2 => ?_⟩
  obtain ⟨⟨a0, a1, a2, a3, a4, a5⟩, a6, a7⟩ := h3 d hd2
  have e : τ.1 (10 * t + d) = σ.1 (10 * t + d) := h _ (by omega)
  exact ⟨⟨by rw [e]; exact a0, by rw [e]; exact a1, by rw [e]; exact a2, by rw [e]; exact a3, by rw [e]; exact a4, by rw [e]; exact a5⟩, by rw [e]; exact a6, fun z => by rw [e]; exact a7 z⟩
theorem RMt.congr {σ τ : Hp} {ai as ar : Nat} {m : Tw} (h1 : τ.1 ai = σ.1 ai) (h2 : τ.1 as = σ.1 as) (h3 : τ.1 ar = σ.1 ar) (hr : RMt σ ai as ar m) : RMt τ ai as ar m := by
  obtain ⟨g1, g2, g3⟩ := hr
  refine ⟨fun c hc => by rw [h1]; exact g1 c hc, fun c hc => by rw [h2]; exact g2 c hc, fun d hd => ?_⟩
  obtain ⟨⟨a0, a1, a2, a3, a4, a5⟩, a6, a7⟩ := g3 d hd
  exact ⟨⟨by rw [h3]; exact a0, by rw [h3]; exact a1, by rw [h3]; exact a2, by rw [h3]; exact a3, by rw [h3]; exact a4, by rw [h3]; exact a5⟩, by rw [h3]; exact a6, fun z => by rw [h3]; exact a7 z⟩
theorem RMc.congr {σ τ : Hp} {m : Tw} (h0 : τ.1 55 0 = σ.1 55 0) (h1 : τ.1 55 1 = σ.1 55 1) (h5 : τ.1 55 5 = σ.1 55 5) (h6 : τ.1 55 6 = σ.1 55 6) (g1 : τ.1 56 = σ.1 56) (g2 : τ.1 57 = σ.1 57) (g3 : τ.1 58 = σ.1 58) (hr : RMc σ m) : RMc τ m := by
  obtain ⟨⟨r, a1, a2, a3⟩, b1, b2, b3, b4⟩ := hr
  exact ⟨⟨r, a1, by rw [h0]; exact a2, a3⟩, by rw [h1]; exact b1, by rw [h5]; exact b2, by rw [h6]; exact b3, b4.congr g1 g2 g3⟩
theorem RC.congr {σ τ : Hp} {m : Tw} {kp : Option Tw} {pg : Nat → Nat} {pn ld : Nat} (hw : WfG m kp pg pn ld) (h : FrM σ τ) (hr : RC σ m kp pg pn ld) : RC τ m kp pg pn ld := by
  obtain ⟨h1, h2, h3, h4, h5, h6, h7, h8⟩ := hr
  exact ⟨h1.congr hw.1.nd (by omega) h, by rw [h 54 (by omega)]; exact h2, fun k hk => (h3 k hk).congr (hw.2.1 k hk).1.nd (by omega) h, by rw [h 54 (by omega)]; exact h4, by rw [h 39 (by omega)]; exact h5, fun i hi => by rw [h 40 (by omega)]; exact h6 i hi, by rw [h 52 (by omega)]; exact h7, by rw [h 53 (by omega)]; exact h8⟩
theorem RM.congr {σ τ : Hp} {m : Tw} {kp : Option Tw} {pg : Nat → Nat} {pn ld lk : Nat} (h : FrC σ τ) (hr : RM σ m kp pg pn ld lk) : RM τ m kp pg pn ld lk := by
  have e := fun c hc => h.1 c hc
  obtain ⟨h1, h2, h3, h4, h5, h6, h7⟩ := hr
  have e55 := e 55 (by omega)
  refine ⟨h1.congr (by rw [e55]) (by rw [e55]) (by rw [e55]) (by rw [e55]) (e 56 (by omega)) (e 57 (by omega)) (e 58 (by omega)), by rw [e55]; exact h2, fun z => by rw [e55]; exact h3 z, fun k hk => ?_, by rw [e55]; exact h5, fun i hi => by rw [e 59 (by omega)]; exact h6 i hi, by rw [e55]; exact h7⟩
  obtain ⟨a, b, c, d⟩ := h4 k hk
  exact ⟨by rw [e55]; exact a, by rw [e55]; exact b, by rw [e55]; exact c, d.congr (e 70 (by omega)) (e 71 (by omega)) (e 72 (by omega))⟩
section SMALL
variable {σ : Hp} {m : Tw}
def sqA (m : Tw) (x w : Int32) : Int32 := if inb x (m 9 1) = true then (if w = 0 then nI (m 0 x.toNatClampNeg) else if w = 1 then nI (m 9 2) else if w = 2 then thI m x else if w = 3 then (if m 0 x.toNatClampNeg < 4 then 0 else 1) else -102) else -101
theorem c_square (hw : Wf m) (hr : RCt σ 0 m) (x w : Int32) : F_X6_square x w σ = some (sqA m x w) := by
  have hs := hw.sq
  have e2 : σ.1 30 2 = nI (m 9 2) := hr.1 2 (by omega)
  unfold F_X6_square sqA
  rw [c_hasSquare hw hr, c_thereIn hw hr]
  by_cases h : inb x (m 9 1) = true
  · obtain ⟨j, hj, rfl⟩ := inb_of (by omega) h
    have hi := hw.ic hj
    have e3 : σ.1 33 j = nI (m 0 j) := hr.2.1 j hj
    simp (disch := omega) only [inb_t, cl_nI, if_true, e2, e3, li4, nI_ltI, Option.bind_some]
    repeat' split
    all_goals rfl
  · simp [h]
theorem r_square (hw : Wf m) (hr : RMc σ m) (x w : Int32) : F_X7_square x w σ = some (sqA m x w) := by
  have hs := hw.sq
  unfold F_X7_square F_X7_tellSquare F_X7_bearsOne sqA
  rw [r_isSquare hw hr, r_thereIn hw hr]
  by_cases h : inb x (m 9 1) = true
  · obtain ⟨j, hj, rfl⟩ := inb_of (by omega) h
    have hi := hw.ic hj
    have e3 := hr.2.2.2.2.1 j hj
    have e2 := hr.2.2.2.2.2.1 j (by omega)
    simp (disch := omega) only [inb_t, cl_nI, if_true, e2, e3, li3, nI_leI, Option.bind_some]
    by_cases g : m 0 j < 4
    · have : m 0 j ≤ 3 := by omega
      simp only [g, this, if_true, Option.bind_some]
      repeat' split
      all_goals first | rfl | simp_all
    · have : ¬ m 0 j ≤ 3 := by omega
      simp only [g, this, if_false, Option.bind_some]
      repeat' split
      all_goals first | rfl | simp_all
  · simp [h]
def abA (m : Tw) (x w : Int32) : Int32 := if inb x (m 9 4) = true then (if w = 0 then nI (m 1 x.toNatClampNeg) else if w = 1 then nI (m 2 x.toNatClampNeg) else if w = 2 then nI (m 3 x.toNatClampNeg) else if w = 3 then nI (m 4 x.toNatClampNeg) else if w = 4 then nI (m 5 x.toNatClampNeg) else if w = 5 then nI (m 6 x.toNatClampNeg) else if w = 6 then nI (wo m x.toNatClampNeg) else if w = 7 then nI (look m x.toNatClampNeg) else -102) else -101
theorem c_about (hw : Wf m) (hr : RCt σ 0 m) (x w : Int32) : F_X6_about x w σ = some (abA m x w) := by
  have hn := hw.nd
  unfold F_X6_about abA
  rw [c_hasDebt hw hr]
  by_cases h : inb x (m 9 4) = true
  · obtain ⟨d, hd, rfl⟩ := inb_of (by omega) h
    obtain ⟨⟨a0, a1, a2, a3, a4, a5⟩, -, -⟩ := hr.2.2 d hd
    simp (disch := omega) only [inb_t, cl_nI, if_true, a0, a1, a2, a3, a4, a5, c_worthOf hw hr hd, c_conditionOf hw hr hd, Option.bind_some]
    repeat' split
    all_goals rfl
  · simp [h]
theorem r_tellDebt (hw : Wf m) (hr : RMc σ m) {d : Nat} (hd : d < m 9 4) (w : Int32) : F_X7_tellDebt (nI d) w σ = some (if w = 0 then nI (m 1 d) else if w = 1 then nI (m 2 d) else if w = 2 then nI (m 3 d) else if w = 3 then nI (m 4 d) else if w = 4 then nI (m 5 d) else if w = 5 then nI (m 6 d) else if w = 6 then nI (wo m d) else if w = 7 then nI (look m d) else -102) := by
  have hn := hw.nd
  obtain ⟨⟨a0, a1, a2, a3, a4, a5⟩, -, -⟩ := hr.2.2.2.2.2.2 d hd
  unfold F_X7_tellDebt
  rw [r_worthOf hw hr hd, r_lookOf hw hr hd, lj0, lj5, r_in]
  simp only [Option.bind_some]
  by_cases h6 : w = 6
  · subst h6; simp
  by_cases h7 : w = 7
  · subst h7; simp
  rw [if_neg h6, if_neg h7]
  by_cases h : wn w 0 5 = true
  · rw [if_pos h]
    obtain ⟨j, -, hj, rfl⟩ := wn_nI (a := 0) (b := 5) (by omega) (by omega) h
    rw [ix8 (by omega) (by omega), inb_t (by omega) (by omega), cl_nI (by omega), if_pos rfl]
    have : j = 0 ∨ j = 1 ∨ j = 2 ∨ j = 3 ∨ j = 4 ∨ j = 5 := by omega
    rcases this with rfl | rfl | rfl | rfl | rfl | rfl
    · rw [if_pos (by decide +kernel)]; exact congrArg some a0
    · rw [if_neg (by decide +kernel), if_pos (by decide +kernel)]; exact congrArg some a1
    · rw [if_neg (by decide +kernel), if_neg (by decide +kernel), if_pos (by decide +kernel)]; exact congrArg some a2
    · rw [if_neg (by decide +kernel), if_neg (by decide +kernel), if_neg (by decide +kernel), if_pos (by decide +kernel)]; exact congrArg some a3
    · rw [if_neg (by decide +kernel), if_neg (by decide +kernel), if_neg (by decide +kernel), if_neg (by decide +kernel), if_pos (by decide +kernel)]; exact congrArg some a4
    · rw [if_neg (by decide +kernel), if_neg (by decide +kernel), if_neg (by decide +kernel), if_neg (by decide +kernel), if_neg (by decide +kernel), if_pos (by decide +kernel)]; exact congrArg some a5
  · rw [if_neg h]
    have k : ∀ j : Nat, j ≤ 5 → ¬ w = nI j := fun j hj e => h (by rw [e]; exact wn_of (a := 0) (b := 5) (by omega) (by omega) hj (by omega))
    rw [if_neg (show ¬ w = 0 from k 0 (by omega)), if_neg (show ¬ w = 1 from k 1 (by omega)), if_neg (show ¬ w = 2 from k 2 (by omega)), if_neg (show ¬ w = 3 from k 3 (by omega)), if_neg (show ¬ w = 4 from k 4 (by omega)), if_neg (show ¬ w = 5 from k 5 (by omega)), if_neg h6, if_neg h7]
theorem r_about (hw : Wf m) (hr : RMc σ m) (x w : Int32) : F_X7_about x w σ = some (abA m x w) := by
  have hn := hw.nd
  unfold F_X7_about abA
  rw [r_isDebt hw hr]
  by_cases h : inb x (m 9 4) = true
  · obtain ⟨d, hd, rfl⟩ := inb_of (by omega) h
    rw [r_tellDebt hw hr hd, if_pos h, if_pos h, cl_nI (by omega)]
    rfl
  · simp [h]
def asA (m : Tw) (x w : Int32) : Int32 := if inb x (m 9 4) = true then (if wn w 0 4 = true then (if w = 0 ∨ w = nI (m 1 x.toNatClampNeg) ∨ (w = 2 ∧ m 1 x.toNatClampNeg = 4) then x else -1) else -102) else -101
theorem c_as (hw : Wf m) (hr : RCt σ 0 m) (x w : Int32) : F_X6_as x w σ = some (asA m x w) := by
  have hn := hw.nd
  unfold F_X6_as asA
  rw [c_hasDebt hw hr, c_isKind]
  by_cases h : inb x (m 9 4) = true
  · obtain ⟨d, hd, rfl⟩ := inb_of (by omega) h
    obtain ⟨⟨a0, -⟩, -, -⟩ := hr.2.2 d hd
    obtain ⟨w1, -⟩ := hw.d hd
    rw [if_pos h, if_pos h, inb_t (by omega) (by omega), cl_nI (by omega), a0]
    by_cases h2 : wn w 0 4 = true
    · rw [if_pos h2, if_pos h2]
      obtain ⟨j, -, hj, rfl⟩ := wn_nI (a := 0) (b := 4) (by omega) (by omega) h2
      simp only [if_true]
      unfold F_X0_isOfKind
      rw [li0, li2, li4]
      simp (disch := omega) only [nI_eq]
      have e : (m 1 d = j) ↔ (j = m 1 d) := ⟨Eq.symm, Eq.symm⟩
      repeat' split
      all_goals first | rfl | omega | simp_all
    · rw [if_neg h2, if_neg h2]
  · simp [h]
theorem r_as (hw : Wf m) (hr : RMc σ m) (x w : Int32) : F_X7_as x w σ = some (asA m x w) := by
  have hn := hw.nd
  unfold F_X7_as F_X7_as_60 asA
  rw [r_isDebt hw hr, lj0, lj4, r_in]
  by_cases h : inb x (m 9 4) = true
  · obtain ⟨d, hd, rfl⟩ := inb_of (by omega) h
    obtain ⟨⟨a0, -⟩, -, -⟩ := hr.2.2.2.2.2.2 d hd
    obtain ⟨w1, -⟩ := hw.d hd
    rw [if_pos h, if_pos h, li8, pk_mul, inb_t (by omega) (by omega), cl_nI (by omega), cl_nI (by omega), a0]
    by_cases h2 : wn w 0 4 = true
    · rw [if_pos h2, if_pos h2]
      obtain ⟨j, -, hj, rfl⟩ := wn_nI (a := 0) (b := 4) (by omega) (by omega) h2
      simp only [if_true, lt]
      rw [li0, li2, li4]
      simp (disch := omega) only [nI_eq]
      repeat' split
      all_goals first | rfl | omega | simp_all
    · rw [if_neg h2, if_neg h2]
  · simp [h]
end SMALL
