/-! calls that change little -/
theorem lp {X R : Type} (F : Nat → X → Option R) (N : Nat) (S : Nat → X) (res : Option R) (hexit : ∀ n, F (n + 1) (S N) = res) (hstep : ∀ n d, d < N → F (n + 1) (S d) = F n (S (d + 1))) : ∀ n d, d ≤ N → N < d + n → F n (S d) = res := by
  intro n
  induction n with
  | zero => intro d h1 h2; omega
  | succ n ih =>
    intro d h1 h2
    by_cases hd : d < N
    · rw [hstep n d hd]
      exact ih (d + 1) (by omega) (by omega)
    · have : d = N := by omega
      subst this
      exact hexit n
/-- a row filled up to d -/
def rowf (σ : Hp) (c : Nat) (f : Nat → Int32) (d : Nat) : Hp := (fun c' k => if c' = c ∧ k < d then f k else σ.1 c' k, σ.2)
theorem rowf_0 (σ : Hp) (c : Nat) (f : Nat → Int32) : rowf σ c f 0 = σ := by
  unfold rowf; simp
theorem rowf_up (σ : Hp) (c : Nat) (f : Nat → Int32) (d : Nat) : up (rowf σ c f d) c d (f d) = rowf σ c f (d + 1) := by
  unfold rowf up
  refine Prod.ext ?_ rfl
  funext c' k
  dsimp only
  by_cases h1 : c' = c
  · by_cases h2 : k = d
    · subst h2; simp [h1]
    · by_cases h3 : k < d
      · have : k < d + 1 := by omega
        simp [h1, h2, h3, this]
      · have : ¬ k < d + 1 := by omega
        simp [h1, h2, h3, this]
  · simp [h1]
theorem rowf_ne {σ : Hp} {c c' k d : Nat} {f : Nat → Int32} {v : Int32} (h : c ≠ c') : up (rowf σ c' f d) c k v = rowf (up σ c k v) c' f d := by
  unfold rowf up
  refine Prod.ext ?_ rfl
  funext c2 k2
  dsimp only
  by_cases h1 : c2 = c
  · have : ¬ c2 = c' := fun z => h (h1.symm.trans z)
    simp [this]
  · simp [h1]
theorem rowf_c {σ : Hp} {c c' k d : Nat} {f : Nat → Int32} (h : c' ≠ c) : (rowf σ c f d).1 c' k = σ.1 c' k := by
  show (if c' = c ∧ k < d then f k else σ.1 c' k) = _
  rw [if_neg (fun z => h z.1)]
theorem rowf_r {σ : Hp} {c c' d : Nat} {f : Nat → Int32} (h : c' ≠ c) : (rowf σ c f d).1 c' = σ.1 c' := funext fun k => rowf_c h
theorem rowf_lt {σ : Hp} {c k d : Nat} {f : Nat → Int32} (h : k < d) : (rowf σ c f d).1 c k = f k := by
  show (if c = c ∧ k < d then f k else σ.1 c k) = _
  rw [if_pos ⟨rfl, h⟩]
theorem rowf_ge {σ : Hp} {c k d : Nat} {f : Nat → Int32} (h : ¬ k < d) : (rowf σ c f d).1 c k = σ.1 c k := by
  show (if c = c ∧ k < d then f k else σ.1 c k) = _
  rw [if_neg (fun z => h z.2)]
theorem FrC.up {σ : Hp} {c k : Nat} {v : Int32} (h : c < 55) : FrC σ (up σ c k v) := ⟨fun c' hc => up_off (by omega), rfl⟩
theorem FrM.up {σ : Hp} {c k : Nat} {v : Int32} (h : 55 ≤ c) : FrM σ (up σ c k v) := fun c' hc => up_off (by omega)
theorem FrC.rf {σ : Hp} : FrC σ σ := ⟨fun _ _ => rfl, rfl⟩
theorem FrM.rf {σ : Hp} : FrM σ σ := fun _ _ => rfl
theorem FrC.tr {σ τ υ : Hp} (h : FrC σ τ) (g : FrC τ υ) : FrC σ υ := ⟨fun c hc => (g.1 c hc).trans (h.1 c hc), g.2.trans h.2⟩
theorem FrM.tr {σ τ υ : Hp} (h : FrM σ τ) (g : FrM τ υ) : FrM σ υ := fun c hc => (g c hc).trans (h c hc)
theorem FrC.rowf {σ : Hp} {c d : Nat} {f : Nat → Int32} (h : c < 55) : FrC σ (rowf σ c f d) := ⟨fun c' hc => rowf_r (by omega), rfl⟩
theorem FrM.rowf {σ : Hp} {c d : Nat} {f : Nat → Int32} (h : 55 ≤ c) : FrM σ (rowf σ c f d) := fun c' hc => rowf_r (by omega)
/-- one number of a town set anew -/
def tset (m : Tw) (f x v : Nat) : Tw := fun f' x' => if f' = f ∧ x' = x then v else m f' x'
theorem tset_ne {m : Tw} {f x v f' x' : Nat} (h : f' ≠ f) : tset m f x v f' x' = m f' x' := by
  unfold tset; rw [if_neg (fun z => h z.1)]
theorem RCt.keep {σ τ : Hp} {t : Nat} {m : Tw} (hn : m 9 4 ≤ 10) (h : ∀ c, (c = 30 + t ∨ c = 33 + t ∨ (10 * t ≤ c ∧ c < 10 * t + 10)) → τ.1 c = σ.1 c) (hr : RCt σ t m) : RCt τ t m := by
  obtain ⟨h1, h2, h3⟩ := hr
  refine ⟨fun k hk => by rw [h _ (by omega)]; exact h1 k hk, fun c hc => by rw [h _ (by omega)]; exact h2 c hc, fun d hd2 => ?_⟩
  obtain ⟨⟨a0, a1, a2, a3, a4, a5⟩, a6, a7⟩ := h3 d hd2
  have e : τ.1 (10 * t + d) = σ.1 (10 * t + d) := h _ (by omega)
  exact ⟨⟨by rw [e]; exact a0, by rw [e]; exact a1, by rw [e]; exact a2, by rw [e]; exact a3, by rw [e]; exact a4, by rw [e]; exact a5⟩, by rw [e]; exact a6, fun z => by rw [e]; exact a7 z⟩
/-- RC but for the town that stands -/
def RC' (σ : Hp) (kp : Option Tw) (pg : Nat → Nat) (pn ld : Nat) : Prop := σ.1 54 7 = (if kp.isSome then 1 else 0) ∧ (∀ k, kp = some k → RCt σ 1 k) ∧ σ.1 54 8 = nI ld ∧ σ.1 39 1 = nI pn ∧ (∀ i, i < pn → σ.1 40 i = nI (pg i)) ∧ σ.1 52 0 = 0 ∧ σ.1 53 0 = 0
theorem RC'.keep {σ τ : Hp} {kp : Option Tw} {pg : Nat → Nat} {pn ld : Nat} (hk : ∀ k, kp = some k → k 9 4 ≤ 10) (h : ∀ c, (c = 31 ∨ c = 34 ∨ (10 ≤ c ∧ c < 20) ∨ c = 39 ∨ c = 40 ∨ c = 52 ∨ c = 53 ∨ c = 54) → τ.1 c = σ.1 c) (hr : RC' σ kp pg pn ld) : RC' τ kp pg pn ld := by
  obtain ⟨h2, h3, h4, h5, h6, h7, h8⟩ := hr
  exact ⟨by rw [h 54 (by omega)]; exact h2, fun k hk2 => (h3 k hk2).keep (hk k hk2) (fun c hc => h c (by omega)), by rw [h 54 (by omega)]; exact h4, by rw [h 39 (by omega)]; exact h5, fun i hi => by rw [h 40 (by omega)]; exact h6 i hi, by rw [h 52 (by omega)]; exact h7, by rw [h 53 (by omega)]; exact h8⟩
theorem WfG.kn {m : Tw} {kp : Option Tw} {pg : Nat → Nat} {pn ld : Nat} (hw : WfG m kp pg pn ld) : ∀ k, kp = some k → k 9 4 ≤ 10 := fun k hk => (hw.2.1 k hk).1.nd
/-- RM but for the town that stands -/
def RM' (σ : Hp) (kp : Option Tw) (pg : Nat → Nat) (pn ld lk : Nat) : Prop := σ.1 55 2 = nI lk ∧ (kp = none → σ.1 55 24 = -1 ∨ ∃ j, j < lk ∧ σ.1 55 24 = nI j) ∧ (∀ k, kp = some k → σ.1 55 24 = nI lk ∧ σ.1 55 25 = nI (k 9 4) ∧ σ.1 55 26 = nI (k 9 3) ∧ RMt σ 70 71 72 k) ∧ σ.1 55 9 = nI pn ∧ (∀ i, i < pn → σ.1 59 i = nI (pg i)) ∧ σ.1 55 14 = nI ld
theorem RM'.keep {σ τ : Hp} {kp : Option Tw} {pg : Nat → Nat} {pn ld lk : Nat} (h55 : ∀ k, (k = 2 ∨ k = 24 ∨ k = 25 ∨ k = 26 ∨ k = 9 ∨ k = 14) → τ.1 55 k = σ.1 55 k) (h : ∀ c, (c = 59 ∨ c = 70 ∨ c = 71 ∨ c = 72) → τ.1 c = σ.1 c) (hr : RM' σ kp pg pn ld lk) : RM' τ kp pg pn ld lk := by
  obtain ⟨h2, h3, h4, h5, h6, h7⟩ := hr
  refine ⟨by rw [h55 2 (by omega)]; exact h2, fun z => by rw [h55 24 (by omega)]; exact h3 z, fun k hk => ?_, by rw [h55 9 (by omega)]; exact h5, fun i hi => by rw [h 59 (by omega)]; exact h6 i hi, by rw [h55 14 (by omega)]; exact h7⟩
  obtain ⟨a, b, c, d⟩ := h4 k hk
  exact ⟨by rw [h55 24 (by omega)]; exact a, by rw [h55 25 (by omega)]; exact b, by rw [h55 26 (by omega)]; exact c, d.congr (h 70 (by omega)) (h 71 (by omega)) (h 72 (by omega))⟩
theorem wo_s {m m' : Tw} {d : Nat} (h7 : m 7 d = 2) (g7 : m' 7 d = 2) (h5 : m' 5 d = m 5 d) (h1 : m' 1 d = m 1 d) (h8 : m' 8 d = m 8 d) : wo m' d = wo m d := by
  unfold wo; rw [h7, g7, h5, h1, h8]; rfl
section CHG
variable {σ : Hp} {m : Tw} {kp : Option Tw} {pg : Nat → Nat} {pn ld lk : Nat}
theorem c_blank (hw : WfG m kp pg pn ld) (hr : RC σ m kp pg pn ld) : ∃ τ, F_X6_blank σ = (nI pn, τ) ∧ RC τ m kp pg 0 ld ∧ FrC σ τ := by
  obtain ⟨h1, h2, h3, h4, h5, h6, h7, h8⟩ := hr
  refine ⟨up σ 39 1 0, by simp only [F_X6_blank, lt, h5], ⟨h1.keep hw.1.nd (fun c hc => up_off (by omega)), ?_, fun k hk => (h3 k hk).keep (hw.kn k hk) (fun c hc => up_off (by omega)), ?_, up_s, fun i hi => absurd hi (by omega), ?_, ?_⟩, FrC.up (by omega)⟩
  · rw [up_c (by omega)]; exact h2
  · rw [up_c (by omega)]; exact h4
  · rw [up_c (by omega)]; exact h7
  · rw [up_c (by omega)]; exact h8
theorem r_blank (hr : RM σ m kp pg pn ld lk) : ∃ τ, F_X7_blank σ = (nI pn, τ) ∧ RM τ m kp pg 0 ld lk ∧ FrM σ τ := by
  obtain ⟨h1, h2, h3, h4, h5, h6, h7⟩ := hr
  refine ⟨up σ 55 9 0, by simp only [F_X7_blank, lt, h5], ⟨h1.congr (up_k (by omega)) (up_k (by omega)) (up_k (by omega)) (up_k (by omega)) (up_off (by omega)) (up_off (by omega)) (up_off (by omega)), ?_, fun z => ?_, fun k hk => ?_, up_s, fun i hi => absurd hi (by omega), ?_⟩, FrM.up (by omega)⟩
  · rw [up_k (by omega)]; exact h2
  · rw [up_k (by omega)]; exact h3 z
  · obtain ⟨a, b, c, d⟩ := h4 k hk
    exact ⟨by rw [up_k (by omega)]; exact a, by rw [up_k (by omega)]; exact b, by rw [up_k (by omega)]; exact c, d.congr (up_off (by omega)) (up_off (by omega)) (up_off (by omega))⟩
  · rw [up_k (by omega)]; exact h7
/-- ice(x, v) -/
def icA (m : Tw) (x v : Int32) : Int32 := if inb x (m 9 1) = true then (if wn v 0 99 = true then (if thI m x ≤ 0 then nI (m 0 x.toNatClampNeg) else -103) else -102) else -101
def icN (m : Tw) (x v : Int32) : Tw := if inb x (m 9 1) = true ∧ wn v 0 99 = true ∧ thI m x ≤ 0 then tset m 0 x.toNatClampNeg v.toNatClampNeg else m
theorem Wf.ice {m : Tw} (hw : Wf m) {x v : Nat} (hv : v ≤ 99) : Wf (tset m 0 x v) := by
  obtain ⟨h1, h2, h3, h4, h5⟩ := hw
  refine ⟨h1, h2, h3, fun c hc => ?_, fun d hd => h5 d hd⟩
  have hc2 : c < m 9 1 := hc
  show tset m 0 x v 0 c ≤ 99
  unfold tset
  by_cases e : c = x
  · simp [e, hv]
  · simp [e]; exact h4 c hc2
theorem c_ice (hw : WfG m kp pg pn ld) (hr : RC σ m kp pg pn ld) (x v : Int32) : ∃ τ, F_X6_ice x v σ = some (icA m x v, τ) ∧ RC τ (icN m x v) kp pg pn ld ∧ FrC σ τ := by
  have hs := hw.1.sq
  obtain ⟨hr1, hr2⟩ := hr
  unfold F_X6_ice icA
  rw [c_hasSquare hw.1 hr1, c_within, c_thereIn hw.1 hr1]
  by_cases h1 : inb x (m 9 1) = true
  · by_cases h2 : wn v 0 99 = true
    · by_cases h3 : thI m x ≤ 0
      · obtain ⟨j, hj, rfl⟩ := inb_of (by omega) h1
        obtain ⟨w, -, hw2, rfl⟩ := wn_nI (a := 0) (b := 99) (by omega) (by omega) h2
        rw [show icN m (nI j) (nI w) = tset m 0 j w by unfold icN; rw [if_pos ⟨h1, h2, h3⟩, cl_nI (by omega), cl_nI (by omega)]]
        simp (disch := omega) only [h1, h2, h3, if_true, Option.bind_some, inb_t, cl_nI, lt]
        have e3 : σ.1 33 j = nI (m 0 j) := hr1.2.1 j hj
        refine ⟨_, by rw [e3], ⟨⟨fun k hk => by rw [up_c (by omega)]; exact hr1.1 k hk, fun c hc => ?_, fun d hd => ?_⟩, RC'.keep hw.kn (fun c hc => up_off (by omega)) hr2⟩, FrC.up (by omega)⟩
        · show (up σ 33 j (nI w)).1 33 c = nI (tset m 0 j w 0 c)
          unfold tset
          by_cases e : c = j
          · subst e; rw [up_s]; simp
          · rw [up_k e]; simp [e]; exact hr1.2.1 c hc
        · have hd2 : d < m 9 4 := hd
          have hn := hw.1.nd
          have e : (up σ 33 j (nI w)).1 (10 * 0 + d) = σ.1 (10 * 0 + d) := up_off (by omega)
          have := hr1.2.2 d hd2
          unfold RCd at this ⊢
          rw [e]
          exact this
      · rw [show icN m x v = m by unfold icN; rw [if_neg (fun z => h3 z.2.2)]]
        simp only [h1, h2, h3, if_true, if_false, Option.bind_some]
        exact ⟨σ, rfl, ⟨hr1, hr2⟩, FrC.rf⟩
    · rw [show icN m x v = m by unfold icN; rw [if_neg (fun z => h2 z.2.1)]]
      simp only [h1, h2, if_true, if_false]
      exact ⟨σ, rfl, ⟨hr1, hr2⟩, FrC.rf⟩
  · rw [show icN m x v = m by unfold icN; rw [if_neg (fun z => h1 z.1)]]
    simp only [h1, if_false]
    exact ⟨σ, rfl, ⟨hr1, hr2⟩, FrC.rf⟩
theorem r_ice (hw : WfG m kp pg pn ld) (hr : RM σ m kp pg pn ld lk) (x v : Int32) : ∃ τ, F_X7_ice x v σ = some (icA m x v, τ) ∧ RM τ (icN m x v) kp pg pn ld lk ∧ FrM σ τ := by
  have hs := hw.1.sq
  obtain ⟨hr1, hr2⟩ := hr
  unfold F_X7_ice icA
  rw [r_isSquare hw.1 hr1, lj0, lj99, r_in, r_thereIn hw.1 hr1]
  by_cases h1 : inb x (m 9 1) = true
  · by_cases h2 : wn v 0 99 = true
    · by_cases h3 : thI m x ≤ 0
      · obtain ⟨j, hj, rfl⟩ := inb_of (by omega) h1
        obtain ⟨w, -, hw2, rfl⟩ := wn_nI (a := 0) (b := 99) (by omega) (by omega) h2
        rw [show icN m (nI j) (nI w) = tset m 0 j w by unfold icN; rw [if_pos ⟨h1, h2, h3⟩, cl_nI (by omega), cl_nI (by omega)]]
        simp (disch := omega) only [h1, h2, h3, if_true, Option.bind_some, inb_t, cl_nI, lt]
        have e3 := hr1.2.2.2.2.1 j hj
        obtain ⟨b1, b2, b3, b4, b5, b6, b7⟩ := hr1
        refine ⟨_, by rw [e3], ⟨⟨?_, by rw [up_c (by omega)]; exact b2, by rw [up_c (by omega)]; exact b3, by rw [up_c (by omega)]; exact b4, fun c hc => ?_, fun c hc => by rw [up_c (by omega)]; exact b6 c hc, fun d hd => ?_⟩, RM'.keep (fun k hk => up_c (by omega)) (fun c hc => up_off (by omega)) hr2⟩, FrM.up (by omega)⟩
        · obtain ⟨r, c1, c2, c3⟩ := b1
          exact ⟨r, c1, by rw [up_c (by omega)]; exact c2, c3⟩
        · show (up σ 56 j (nI w)).1 56 c = nI (tset m 0 j w 0 c)
          unfold tset
          by_cases e : c = j
          · subst e; rw [up_s]; simp
          · rw [up_k e]; simp [e]; exact b5 c hc
        · have hd2 : d < m 9 4 := hd
          have e : (up σ 56 j (nI w)).1 58 = σ.1 58 := up_off (by omega)
          obtain ⟨g1, g2, g3⟩ := b7 d hd2
          unfold RMd
          rw [e]
          exact ⟨g1, g2, fun z => by rw [wo_s (m := m) z z rfl rfl rfl]; exact g3 z⟩
      · rw [show icN m x v = m by unfold icN; rw [if_neg (fun z => h3 z.2.2)]]
        simp only [h1, h2, h3, if_true, if_false, Option.bind_some]
        exact ⟨σ, rfl, ⟨hr1, hr2⟩, FrM.rf⟩
    · rw [show icN m x v = m by unfold icN; rw [if_neg (fun z => h2 z.2.1)]]
      simp only [h1, h2, if_true, if_false]
      exact ⟨σ, rfl, ⟨hr1, hr2⟩, FrM.rf⟩
  · rw [show icN m x v = m by unfold icN; rw [if_neg (fun z => h1 z.1)]]
    simp only [h1, if_false]
    exact ⟨σ, rfl, ⟨hr1, hr2⟩, FrM.rf⟩
theorem w_ice (hw : WfG m kp pg pn ld) (x v : Int32) : WfG (icN m x v) kp pg pn ld := by
  unfold icN
  by_cases h : inb x (m 9 1) = true ∧ wn v 0 99 = true ∧ thI m x ≤ 0
  · rw [if_pos h]
    obtain ⟨w, -, hw2, rfl⟩ := wn_nI (a := 0) (b := 99) (by omega) (by omega) h.2.1
    rw [cl_nI (by omega)]
    exact ⟨hw.1.ice hw2, hw.2⟩
  · rw [if_neg h]; exact hw
end CHG
