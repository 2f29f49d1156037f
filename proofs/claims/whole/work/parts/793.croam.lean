/-! the class's skater roams -/
section ROAM
variable {σ : Hp} {m : Tw} {kp : Option Tw} {pg : Nat → Nat} {pn ld lk : Nat}
theorem STq.rc {h : Hp} {a F i p0 : Nat} {E : Nat → Nat → Prop} (hS : STq σ m a F i p0 E h) (hw : Wf m) (hr : RCt σ 0 m) : RCt h 0 m := by
  obtain ⟨st, gn, q, qn, -, -, -, -, -, -, hfr⟩ := hS
  exact hr.keep hw.nd (fun c hc => hfr.1 c (by omega))
theorem STq.anti {h : Hp} {a F i p0 : Nat} {E E' : Nat → Nat → Prop} (hS : STq σ m a F i p0 E h) (h1 : ∀ p c, E' p c → E p c) (h2 : ∀ p c, c < m 9 1 → adB (m 9 0) p c = true → E p c → E' p c) : STq σ m a F i p0 E' h := by
  obtain ⟨st, gn, q, qn, hQ, hI, hF, hi, hqi, hEE, hfr⟩ := hS
  exact ⟨st, gn, q, qn, hQ, IB_anti hI h1, hF, hi, hqi, fun j hj c hc had => h2 _ _ hc had (hEE j hj c hc had), hfr⟩
theorem Wf.wd (hw : Wf m) : 2 ≤ m 9 0 ∧ m 9 0 ≤ 4 := by
  obtain ⟨⟨r, h1, h2, h3, h4, h5⟩, -⟩ := hw
  exact ⟨h3, h4⟩
theorem nI_subEq {p w c : Nat} (hp : p < 1000) (hw : w < 1000) (hc : c < 1000) (h : nI p - nI w = nI c) : c + w = p := by
  have := congrArg Int32.toInt h
  rw [pk_sub_toInt (by omega) (by omega), nI_toInt (by omega)] at this
  omega
theorem jrem_nI {p w : Nat} (hp : p < 1000) (hw : 0 < w) (hw2 : w < 1000) : jrem (nI p) (nI w) = nI (p % w) := by
  unfold jrem
  rw [pk_rem (by omega) hw (by omega)]
theorem c_leave {h : Hp} {a F i p0 : Nat} {E : Nat → Nat → Prop} (hw : Wf m) (hr : RCt σ 0 m) (hp : p0 < m 9 1) (hS : STq σ m a F i p0 E h) : ∃ τ, F_X4_leave (nI p0) h = some τ ∧ STq σ m a F i p0 (fun p c => E p c ∨ (p = p0 ∧ c < m 9 1 ∧ adB (m 9 0) p0 c = true)) τ := by
  have hs := hw.sq
  have hwd := hw.wd
  have w0 : ∀ {g : Hp} {E : Nat → Nat → Prop}, STq σ m a F i p0 E g → g.1 30 0 = nI (m 9 0) := fun hg => (hg.rc hw hr).1 0 (by omega)
  have nz : ¬ nI (m 9 0) ≤ 0 := le_no (b := 0) (by omega) (by omega) (by omega)
  have ne : ¬ nI (m 9 0) = 0 := fun z => by have := (nI_eq (b := 0) (by omega) (by omega)).mp z; omega
  -- the last two
  have last : ∀ (g : Hp) (E2 : Nat → Nat → Prop), STq σ m a F i p0 E2 g → ∃ τ, F_X4_leave_39 (nI p0) g = some τ ∧ STq σ m a F i p0 (fun p c => E2 p c ∨ (p = p0 ∧ c < m 9 1 ∧ (c = p0 + m 9 0 ∨ (c + 1 = p0 ∧ p0 % m 9 0 ≠ 0)))) τ := by
    intro g E2 hg
    unfold F_X4_leave_39
    rw [w0 hg, nI_add]
    obtain ⟨g3, t3, hg3⟩ := c_reach hw hr hp hg (nI (p0 + m 9 0)) (fun c hc he => by
      have := (nI_eq (by omega) (by omega)).mp he
      unfold adB; rw [decide_eq_true_eq]; exact Or.inr (Or.inr (Or.inl (by omega))))
    rw [t3, Option.bind_some, w0 hg3, if_neg nz, if_pos ne, jrem_nI (by omega) (by omega) (by omega)]
    have h3 : ∀ c, c < m 9 1 → (nI (p0 + m 9 0) = nI c ↔ c = p0 + m 9 0) := fun c hc => by rw [nI_eq (by omega) (by omega)]; omega
    by_cases hm : p0 % m 9 0 = 0
    · rw [if_pos (by rw [hm]; rfl)]
      refine ⟨g3, rfl, hg3.anti (fun p c hz => ?_) (fun p c hc had hz => ?_)⟩
      · rcases hz with hz | ⟨z1, z2, z3⟩
        · exact Or.inl hz
        · exact Or.inr ⟨z1, z2, (h3 c z2).mpr (by omega)⟩
      · rcases hz with hz | ⟨z1, z2, z3⟩
        · exact Or.inl hz
        · exact Or.inr ⟨z1, z2, Or.inl ((h3 c z2).mp z3)⟩
    · rw [if_neg (show ¬ nI (p0 % m 9 0) = 0 from fun z => hm ((nI_eq (b := 0) (by have := Nat.mod_le p0 (m 9 0); omega) (by omega)).mp z))]
      have h4 : ∀ c, c < m 9 1 → (nI p0 - 1 = nI c ↔ c + 1 = p0) := fun c hc => by
        constructor
        · intro he; exact nI_subEq (by omega) (by omega) (by omega) (by rw [li1] at he; exact he)
        · intro he; rw [li1, pk_sub (by omega)]; congr 1; omega
      obtain ⟨g4, t4, hg4⟩ := c_reach hw hr hp hg3 (nI p0 - 1) (fun c hc he => by
        have := (h4 c hc).mp he
        unfold adB; rw [decide_eq_true_eq]; exact Or.inr (Or.inr (Or.inr ⟨this, hm⟩)))
      rw [t4, Option.bind_some]
      refine ⟨g4, rfl, hg4.anti (fun p c hz => ?_) (fun p c hc had hz => ?_)⟩
      · rcases hz with hz | ⟨z1, z2, z3 | ⟨z3, -⟩⟩
        · exact Or.inl (Or.inl hz)
        · exact Or.inl (Or.inr ⟨z1, z2, (h3 c z2).mpr z3⟩)
        · exact Or.inr ⟨z1, z2, (h4 c z2).mpr z3⟩
      · rcases hz with (hz | ⟨z1, z2, z3⟩) | ⟨z1, z2, z3⟩
        · exact Or.inl hz
        · exact Or.inr ⟨z1, z2, Or.inl ((h3 c z2).mp z3)⟩
        · exact Or.inr ⟨z1, z2, Or.inr ⟨(h4 c z2).mp z3, hm⟩⟩
  unfold F_X4_leave
  rw [w0 hS]
  have h1 : ∀ c, c < m 9 1 → (nI p0 - nI (m 9 0) = nI c ↔ c + m 9 0 = p0) := fun c hc => by
    constructor
    · intro he; exact nI_subEq (by omega) (by omega) (by omega) he
    · intro he; rw [pk_sub (by omega)]; congr 1; omega
  obtain ⟨g1, t1, hg1⟩ := c_reach hw hr hp hS (nI p0 - nI (m 9 0)) (fun c hc he => by
    have := (h1 c hc).mp he
    unfold adB; rw [decide_eq_true_eq]; exact Or.inl this)
  rw [t1, Option.bind_some, w0 hg1, if_neg nz, if_pos ne, nI_1, jrem_nI (by omega) (by omega) (by omega)]
  have hadB : ∀ c, adB (m 9 0) p0 c = true ↔ (c + m 9 0 = p0 ∨ (c = p0 + 1 ∧ (p0 + 1) % m 9 0 ≠ 0) ∨ c = p0 + m 9 0 ∨ (c + 1 = p0 ∧ p0 % m 9 0 ≠ 0)) := fun c => by unfold adB; exact decide_eq_true_iff
  by_cases hm : (p0 + 1) % m 9 0 = 0
  · rw [if_pos (by rw [hm]; rfl)]
    obtain ⟨τ, t2, hτ⟩ := last g1 _ hg1
    rw [t2]
    refine ⟨τ, rfl, hτ.anti (fun p c hz => ?_) (fun p c hc had hz => ?_)⟩
    · rcases hz with hz | ⟨z1, z2, z3⟩
      · exact Or.inl (Or.inl hz)
      · rcases (hadB c).mp z3 with z | z | z | z
        · exact Or.inl (Or.inr ⟨z1, z2, (h1 c z2).mpr z⟩)
        · exact absurd hm z.2
        · exact Or.inr ⟨z1, z2, Or.inl z⟩
        · exact Or.inr ⟨z1, z2, Or.inr z⟩
    · rcases hz with (hz | ⟨z1, z2, z3⟩) | ⟨z1, z2, z3⟩
      · exact Or.inl hz
      · exact Or.inr ⟨z1, z2, by rw [z1] at had; exact had⟩
      · exact Or.inr ⟨z1, z2, by rw [z1] at had; exact had⟩
  · rw [if_neg (show ¬ nI ((p0 + 1) % m 9 0) = 0 from fun z => hm ((nI_eq (b := 0) (by have := Nat.mod_le (p0 + 1) (m 9 0); omega) (by omega)).mp z))]
    have h2 : ∀ c, c < m 9 1 → (nI (p0 + 1) = nI c ↔ c = p0 + 1) := fun c hc => by rw [nI_eq (by omega) (by omega)]; omega
    obtain ⟨g2, t2, hg2⟩ := c_reach hw hr hp hg1 (nI (p0 + 1)) (fun c hc he => (hadB c).mpr (Or.inr (Or.inl ⟨(h2 c hc).mp he, hm⟩)))
    rw [t2, Option.bind_some]
    obtain ⟨τ, t3, hτ⟩ := last g2 _ hg2
    rw [t3]
    refine ⟨τ, rfl, hτ.anti (fun p c hz => ?_) (fun p c hc had hz => ?_)⟩
    · rcases hz with hz | ⟨z1, z2, z3⟩
      · exact Or.inl (Or.inl (Or.inl hz))
      · rcases (hadB c).mp z3 with z | z | z | z
        · exact Or.inl (Or.inl (Or.inr ⟨z1, z2, (h1 c z2).mpr z⟩))
        · exact Or.inl (Or.inr ⟨z1, z2, (h2 c z2).mpr z.1⟩)
        · exact Or.inr ⟨z1, z2, Or.inl z⟩
        · exact Or.inr ⟨z1, z2, Or.inr z⟩
    · rcases hz with ((hz | ⟨z1, z2, z3⟩) | ⟨z1, z2, z3⟩) | ⟨z1, z2, z3⟩
      · exact Or.inl hz
      · exact Or.inr ⟨z1, z2, by rw [z1] at had; exact had⟩
      · exact Or.inr ⟨z1, z2, by rw [z1] at had; exact had⟩
      · exact Or.inr ⟨z1, z2, by rw [z1] at had; exact had⟩
/-- the end of a roaming -/
def Roamed (σ : Hp) (m : Tw) (a : Nat) (τ : Hp) : Prop := ∃ st gn, Sol (m 9 0) (m 9 1) a (brB m) (rdN m) st gn ∧ (∀ c, c < 16 → τ.1 42 c = (if st c = 99 then -1 else nI (st c))) ∧ (∀ c, c < 16 → st c ≠ 99 → τ.1 43 c = nI (gn c)) ∧ FrS σ τ
theorem c_roamLoop {a : Nat} (hw : Wf m) (hr : RCt σ 0 m) (ha : a < m 9 1) : ∀ r i n (h : Hp), i + r = 16 → r < n → (∃ E F st gn q qn, HQ m h st gn q qn ∧ IB (m 9 0) (m 9 1) a (brB m) (rdN m) E F st gn q qn ∧ i ≤ qn ∧ (i < qn → st (q i) = F) ∧ (∀ j, j < i → ∀ c, c < m 9 1 → adB (m 9 0) (q j) c = true → E (q j) c) ∧ FrS σ h) → ∃ τ, F_X4_roam_60 n (nI i) h = some τ ∧ Roamed σ m a τ := by
  have hs := hw.sq
  intro r
  induction r with
  | zero =>
    intro i n h hir hn ⟨E, F, st, gn, q, qn, hQ, hI, hiq, hF, hEE, hfr⟩
    obtain ⟨n, rfl⟩ : ∃ k, n = k + 1 := ⟨n - 1, by omega⟩
    have hqn : qn ≤ 16 := by have := sumN_ind st 16; have := hI.2.2.2.2.2; omega
    rw [F_X4_roam_60, hQ.1, if_pos (nle.mp (fun z => by have := (nI_ltI (by omega) (by omega)).mp z; omega))]
    refine ⟨h, rfl, st, gn, IB_sol hI (by omega) ha (fun p c hp hc h9 had => ?_) (Or.inr trivial) hqn, hQ.2.1, hQ.2.2.1, hfr⟩
    obtain ⟨-, -, -, -, ⟨j, j1, j2⟩, -⟩ := hI.2.1 p (by omega) h9
    rw [← j2]
    exact hEE j (by omega) c hc (by rw [j2]; exact had)
  | succ r ih =>
    intro i n h hir hn ⟨E, F, st, gn, q, qn, hQ, hI, hiq, hF, hEE, hfr⟩
    obtain ⟨n, rfl⟩ : ∃ k, n = k + 1 := ⟨n - 1, by omega⟩
    have hqn : qn ≤ 16 := by have := sumN_ind st 16; have := hI.2.2.2.2.2; omega
    rw [F_X4_roam_60, hQ.1]
    by_cases hlt : i < qn
    · have hp := (hI.1 i hlt).1
      rw [if_neg (le_no (by omega) (by omega) hlt), li16, if_neg (le_no (by omega) (by omega) (by omega)), inb_t (by omega) (by omega), if_pos rfl, cl_nI (by omega), hQ.2.2.2.2 i hlt]
      obtain ⟨τ, t1, st', gn', q', qn', t2, t3, t4, t5, t6, t7, t8⟩ := c_leave (h := h) (p0 := q i) (F := F) (i := i) (a := a) (E := E) hw hr hp ⟨st, gn, q, qn, hQ, hI, hF hlt, hlt, rfl, hEE, hfr⟩
      rw [t1, Option.bind_some, nI_1]
      have hEE' : ∀ j, j < i + 1 → ∀ c, c < m 9 1 → adB (m 9 0) (q' j) c = true → (E (q' j) c ∨ (q' j = q i ∧ c < m 9 1 ∧ adB (m 9 0) (q i) c = true)) := by
        intro j hj c hc had
        by_cases e : j = i
        · subst e
          rw [t6] at had ⊢
          exact Or.inr ⟨rfl, hc, had⟩
        · exact t7 j (by omega) c hc had
      by_cases hnx : i + 1 < qn'
      · exact ih (i + 1) n τ (by omega) (by omega) ⟨_, st' (q' (i + 1)), st', gn', q', qn', t2, IB_next t3 (by omega) hnx (by rw [t6]; exact t4), by omega, fun _ => rfl, hEE', t8⟩
      · exact ih (i + 1) n τ (by omega) (by omega) ⟨_, F, st', gn', q', qn', t2, t3, by omega, fun z => absurd z hnx, hEE', t8⟩
    · rw [if_pos (nle.mp (fun z => by have := (nI_ltI (by omega) (by omega)).mp z; omega))]
      refine ⟨h, rfl, st, gn, IB_sol hI (by omega) ha (fun p c hp hc h9 had => ?_) (Or.inr trivial) hqn, hQ.2.1, hQ.2.2.1, hfr⟩
      obtain ⟨-, -, -, -, ⟨j, j1, j2⟩, -⟩ := hI.2.1 p (by omega) h9
      rw [← j2]
      exact hEE j (by omega) c hc (by rw [j2]; exact had)
theorem c_roam {a : Nat} (hw : Wf m) (hr : RCt σ 0 m) (ha : a < m 9 1) : ∃ τ, F_X4_roam (nI a) σ = some τ ∧ Roamed σ m a τ := by
  have hs := hw.sq
  have hrd := rdN_le hw
  unfold F_X4_roam
  refine lpI (fun n (x : Int32 × Hp) => F_X4_roam_2 n (nI a) x.1 x.2) 16 (fun d x => x.1 = nI d ∧ (∀ c, c < d → x.2.1 42 c = -1 ∧ x.2.1 44 c = nI (rdN m c)) ∧ FrS σ x.2) (fun o => ∃ τ, o = some τ ∧ Roamed σ m a τ) ?_ ?_ fuel 0 (0, σ) (by omega) (by have := fuel_ge; omega) ⟨rfl, fun c hc => absurd hc (by omega), ⟨fun _ _ => rfl, rfl⟩⟩
  · rintro n ⟨x1, h⟩ ⟨i1, i2, i3⟩
    dsimp only at i1 i2 i3 ⊢
    subst i1
    have hfr2 : FrS σ (up h 41 4 0) := i3.tr (FrS.up (by omega))
    have hrh : RCt (up h 41 4 0) 0 m := hr.keep hw.nd (fun c hc => hfr2.1 c (by omega))
    rw [F_X4_roam_2, if_pos (by decide +kernel), lt_p, c_bearsS hw hrh, Option.bind_some, inb_t ha (by omega), if_pos rfl, cl_nI (by omega)]
    by_cases hb : brB m a = true
    · rw [if_pos hb, inb_t (by omega) (by omega), if_pos rfl, up_c (by omega), (i2 a (by omega)).2, show (0 : Int32) = nI 0 from rfl, c_enter (qn := 0) (by omega) (by omega) up_s, Option.bind_some]
      refine c_roamLoop hw hr ha 16 0 fuel _ (by omega) (by have := fuel_ge; omega) ⟨fun _ _ => False, 0, fset (fun _ => 99) a 0, fset (fun _ => 0) a (rdN m a), fset (fun _ => 0) 0 a, 1, ⟨up_s, fun c hc => ?_, fun c hc h9 => ?_, fun c hc => ?_, fun j hj => ?_⟩, IB_0 (by omega) ha hb hrd _ _, by omega, fun _ => by rw [fset_s, fset_s], fun j hj => absurd hj (by omega), hfr2.tr (FrS.tr (FrS.up (by omega)) (FrS.tr (FrS.up (by omega)) (FrS.tr (FrS.up (by omega)) (FrS.up (by omega)))))⟩
      · rw [up_c (by omega), up_c (by omega), up_c (by omega)]
        by_cases e : c = a
        · subst e; rw [up_s, fset_s, if_neg (by omega)]
        · rw [up_k e, up_c (by omega), fset_n e, if_pos rfl]; exact (i2 c hc).1
      · by_cases e : c = a
        · subst e; rw [up_c (by omega), up_c (by omega), up_s, fset_s]
        · rw [fset_n e] at h9; exact absurd rfl h9
      · rw [up_c (by omega), up_c (by omega), up_c (by omega), up_c (by omega), up_c (by omega)]; exact (i2 c hc).2
      · have : j = 0 := by omega
        subst this
        rw [up_c (by omega), up_s, fset_s]
    · rw [if_neg hb]
      refine ⟨_, rfl, fun _ => 99, fun _ => 0, ⟨fun c _ h9 => absurd rfl h9, fun p c _ _ h9 => absurd rfl h9, fun z => absurd z hb⟩, fun c hc => ?_, fun c hc h9 => absurd rfl h9, hfr2⟩
      rw [up_c (by omega), if_pos rfl]; exact (i2 c hc).1
  · rintro n d ⟨x1, h⟩ hd ⟨i1, i2, i3⟩
    dsimp only at i1 i2 i3 ⊢
    subst i1
    have hfr2 : FrS σ (up h 42 d (-1)) := i3.tr (FrS.up (by omega))
    have hrh : RCt (up h 42 d (-1)) 0 m := hr.keep hw.nd (fun c hc => hfr2.1 c (by omega))
    rw [F_X4_roam_2, li16, if_neg (le_no (by omega) (by omega) hd), inb_t hd (by omega), if_pos rfl, cl_nI (by omega), lt_p, c_readableIn hw hrh hd, Option.bind_some, if_pos rfl, lt_p, nI_1]
    refine ⟨(nI (d + 1), up (up h 42 d (-1)) 44 d (nI (rdN m d))), ⟨rfl, fun c hc => ?_, hfr2.tr (FrS.up (by omega))⟩, rfl⟩
    dsimp only
    by_cases e : c = d
    · subst e; rw [up_c (by omega), up_s, up_s]; exact ⟨rfl, rfl⟩
    · rw [up_c (by omega), up_k e, up_k e, up_c (by omega)]; exact i2 c (by omega)
def resI (st gn : Nat → Nat) (b : Nat) (w : Int32) : Int32 := if st b = 99 then -1 else if w = 0 then nI (st b) else nI (gn b)
noncomputable def skV (m : Tw) (a b : Nat) (w : Int32) : Int32 := Classical.epsilon (fun v => ∃ st gn, Sol (m 9 0) (m 9 1) a (brB m) (rdN m) st gn ∧ v = resI st gn b w)
theorem skV_eq {a b : Nat} {w : Int32} {st gn : Nat → Nat} (h : Sol (m 9 0) (m 9 1) a (brB m) (rdN m) st gn) (hb : b < m 9 1) : resI st gn b w = skV m a b w := by
  have hs := Classical.epsilon_spec (p := fun v => ∃ st gn, Sol (m 9 0) (m 9 1) a (brB m) (rdN m) st gn ∧ v = resI st gn b w) ⟨_, st, gn, h, rfl⟩
  obtain ⟨st', gn', h', e⟩ := hs
  show _ = Classical.epsilon _
  rw [e]
  have e1 := Sol_st h h' hb
  unfold resI
  rw [← e1]
  by_cases h9 : st b = 99
  · rw [if_pos h9, if_pos h9]
  · rw [if_neg h9, if_neg h9, Sol_gn h h' (st b) b hb rfl h9]
noncomputable def skA (m : Tw) (x y w : Int32) : Int32 := if inb x (m 9 1) = true ∧ inb y (m 9 1) = true then (if wn w 0 1 = true then skV m x.toNatClampNeg y.toNatClampNeg w else -102) else -101
theorem c_skate (hw : WfG m kp pg pn ld) (hr : RC σ m kp pg pn ld) (x y w : Int32) : ∃ τ, F_X6_skate x y w σ = some (skA m x y w, τ) ∧ RC τ m kp pg pn ld ∧ FrC σ τ := by
  have hs := hw.1.sq
  unfold F_X6_skate skA
  rw [c_hasSquare hw.1 hr.1, c_hasSquare hw.1 hr.1, c_within]
  by_cases h1 : inb x (m 9 1) = true
  · by_cases h2 : inb y (m 9 1) = true
    · rw [if_pos h1, if_pos h2, if_pos (show inb x (m 9 1) = true ∧ inb y (m 9 1) = true from ⟨h1, h2⟩)]
      by_cases h3 : wn w 0 1 = true
      · rw [if_pos h3, if_pos h3]
        obtain ⟨a, ha, rfl⟩ := inb_of (by omega) h1
        obtain ⟨b, hb, rfl⟩ := inb_of (by omega) h2
        obtain ⟨τ, t1, st, gn, t2, t3, t4, t5⟩ := c_roam hw.1 hr.1 ha
        rw [t1, Option.bind_some, inb_t (by omega) (by omega), if_pos rfl, if_pos rfl, if_pos rfl, cl_nI (by omega), cl_nI (by omega), t3 b (by omega), ← skV_eq t2 hb]
        refine ⟨τ, ?_, ⟨hr.1.keep hw.1.nd (fun c hc => t5.1 c (by omega)), RC'.keep hw.kn (fun c hc => t5.1 c (by omega)) hr.2⟩, ⟨fun c hc => t5.1 c (by omega), t5.2⟩⟩
        unfold resI
        by_cases h9 : st b = 99
        · rw [if_pos h9, if_pos h9, if_neg (by decide)]
        · have h15 := (t2.1 b hb h9).1
          rw [if_neg h9, if_neg h9, if_pos (show (0 : Int32) ≤ nI (st b) from (nI_leI (a := 0) (by omega) (by omega)).mpr (by omega)), t4 b (by omega) h9]
          split <;> rfl
      · rw [if_neg h3, if_neg h3]
        exact ⟨σ, rfl, hr, FrC.rf⟩
    · rw [if_pos h1, if_neg h2, if_neg (fun z => h2 z.2)]
      exact ⟨σ, rfl, hr, FrC.rf⟩
  · rw [if_neg h1, if_neg (fun z => h1 z.1)]
    exact ⟨σ, rfl, hr, FrC.rf⟩
end ROAM
