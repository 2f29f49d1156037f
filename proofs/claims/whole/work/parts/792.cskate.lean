/-! skate of the class -/
def rdN (m : Tw) (c : Nat) : Nat := sumN (fun d => if m 9 2 = 0 ∧ m 7 d = 1 ∧ m 2 d = c then wo m d else 0) (m 9 4)
def brB (m : Tw) (c : Nat) : Bool := decide (4 ≤ m 0 c)
def FrS (σ τ : Hp) : Prop := (∀ c, ¬ (41 ≤ c ∧ c ≤ 45) → τ.1 c = σ.1 c) ∧ τ.2 = σ.2
theorem FrS.tr {σ τ υ : Hp} (h : FrS σ τ) (g : FrS τ υ) : FrS σ υ := ⟨fun c a => (g.1 c a).trans (h.1 c a), g.2.trans h.2⟩
theorem FrS.up {σ : Hp} {c k : Nat} {v : Int32} (h : 41 ≤ c ∧ c ≤ 45) : FrS σ (up σ c k v) := ⟨fun c' hc => up_off (by omega), rfl⟩
def HQ (m : Tw) (h : Hp) (st gn q : Nat → Nat) (qn : Nat) : Prop := h.1 41 4 = nI qn ∧ (∀ c, c < 16 → h.1 42 c = (if st c = 99 then -1 else nI (st c))) ∧ (∀ c, c < 16 → st c ≠ 99 → h.1 43 c = nI (gn c)) ∧ (∀ c, c < 16 → h.1 44 c = nI (rdN m c)) ∧ (∀ j, j < qn → h.1 45 j = nI (q j))
section CSK
variable {σ : Hp} {m : Tw} {kp : Option Tw} {pg : Nat → Nat} {pn ld lk : Nat}
theorem rdN_le (hw : Wf m) (c : Nat) : rdN m c ≤ 1080 := by
  have hn := hw.nd
  have h1 : rdN m c ≤ m 9 4 * 108 := sumN_le (fun i hi => by
    have := wo_le hw hi
    split <;> omega)
  omega
theorem c_readableIn {h : Hp} (hw : Wf m) (hr : RCt h 0 m) {c : Nat} (hc : c < 16) : F_X5_readableIn 0 (nI c) h = some (nI (rdN m c)) := by
  have hn := hw.nd
  have hsn : m 9 2 ≤ 9 := hw.2.1
  have hs := hw.sq
  have e2 : h.1 (30 + 0) 2 = nI (m 9 2) := hr.1 2 (by omega)
  have e4 : h.1 (30 + 0) 4 = nI (m 9 4) := hr.1 4 (by omega)
  unfold F_X5_readableIn
  have hl := lp (fun n (x : Int32 × Int32) => F_X5_readableIn_4 0 h n (nI c) x.1 x.2) (m 9 4) (fun i => (nI (sumN (fun d => if m 9 2 = 0 ∧ m 7 d = 1 ∧ m 2 d = c then wo m d else 0) i), nI i)) (some (nI (rdN m c))) ?_ ?_ fuel 0 (by omega) (by have := fuel_ge; omega)
  · exact hl
  · intro n
    show F_X5_readableIn_4 0 h (n + 1) (nI c) (nI (rdN m c)) (nI (m 9 4)) = _
    rw [F_X5_readableIn_4, e4, if_pos (nle.mp (fun z => by have := (nI_ltI (by omega) (by omega)).mp z; omega))]
  · intro n i hi
    obtain ⟨⟨a0, a1, -⟩, -, -⟩ := hr.2.2 i hi
    obtain ⟨w1, w2, -⟩ := hw.d hi
    show F_X5_readableIn_4 0 h (n + 1) (nI c) (nI (sumN (fun d => if m 9 2 = 0 ∧ m 7 d = 1 ∧ m 2 d = c then wo m d else 0) i)) (nI i) = F_X5_readableIn_4 0 h n (nI c) (nI (sumN (fun d => if m 9 2 = 0 ∧ m 7 d = 1 ∧ m 2 d = c then wo m d else 0) i + (if m 9 2 = 0 ∧ m 7 i = 1 ∧ m 2 i = c then wo m i else 0))) (nI (i + 1))
    rw [F_X5_readableIn_4, e4, if_neg (le_no (by omega) (by omega) hi), e2, inb_t (by omega) (by omega), cl_nI (by omega), c_isThere hw hr hi, a1, c_worthOf hw hr hi]
    unfold F_X5_readableIn_52
    simp only [if_true, Option.bind_some, lt_p, nI_1, nI_add, decide_eq_true_eq]
    have z2 : nI (m 9 2) = 0 ↔ m 9 2 = 0 := nI_eq (b := 0) (by omega) (by omega)
    have zc : nI (m 2 i) = nI c ↔ m 2 i = c := nI_eq (by omega) (by omega)
    simp only [z2, zc]
    by_cases g1 : m 9 2 = 0
    · by_cases g2 : m 7 i = 1
      · by_cases g3 : m 2 i = c
        · simp [g1, g2, g3]
        · simp [g1, g2, g3]
      · simp [g1, g2]
    · simp [g1]
theorem c_bearsS {h : Hp} (hw : Wf m) (hr : RCt h 0 m) (x : Int32) : F_X5_bearsSkater 0 x h = some (if inb x (m 9 1) = true then brB m x.toNatClampNeg else false) := by
  have hs := hw.sq
  unfold F_X5_bearsSkater
  rw [c_hasSquare hw hr]
  by_cases h1 : inb x (m 9 1) = true
  · rw [if_pos h1, if_pos h1]
    obtain ⟨j, hj, rfl⟩ := inb_of (by omega) h1
    have hi := hw.ic hj
    have e : h.1 (33 + 0) j = nI (m 0 j) := hr.2.1 j hj
    rw [inb_t (by omega) (by omega), if_pos rfl, cl_nI (by omega), e, li4]
    unfold brB
    by_cases g : m 0 j < 4
    · rw [if_pos ((nI_ltI (by omega) (by omega)).mpr g), decide_eq_false (by omega)]
    · rw [if_neg (fun z => g ((nI_ltI (by omega) (by omega)).mp z)), decide_eq_true (by omega)]
  · rw [if_neg h1, if_neg h1]
theorem c_enter {h : Hp} {p qn : Nat} (hp : p < 16) (hq : qn < 16) (h41 : h.1 41 4 = nI qn) (v g : Int32) : F_X4_enter (nI p) v g h = some (up (up (up (up h 42 p v) 43 p g) 45 qn (nI p)) 41 4 (nI (qn + 1))) := by
  unfold F_X4_enter
  rw [inb_t hp (by omega), if_pos rfl, cl_nI (by omega), lt_p, if_pos rfl, lt_p, up_c (by omega), up_c (by omega), h41, li16, if_neg (le_no (by omega) (by omega) hq), inb_t hq (by omega), if_pos rfl, cl_nI (by omega), lt_p, lt_p, up_c (by omega), up_c (by omega), up_c (by omega), h41, nI_1]
theorem IB_anti {w n a : Nat} {br : Nat → Bool} {rd st gn q : Nat → Nat} {E E' : Nat → Nat → Prop} {F qn : Nat} (h : IB w n a br rd E F st gn q qn) (hE : ∀ p c, E' p c → E p c) : IB w n a br rd E' F st gn q qn := by
  obtain ⟨b1, b2, b3, b4, b5, b6⟩ := h
  exact ⟨b1, b2, b3, fun p c hp => b4 p c (hE p c hp), b5, b6⟩
/-- the skater at his i-th square p0 -/
def STq (σ : Hp) (m : Tw) (a F i p0 : Nat) (E : Nat → Nat → Prop) (h : Hp) : Prop := ∃ st gn q qn, HQ m h st gn q qn ∧ IB (m 9 0) (m 9 1) a (brB m) (rdN m) E F st gn q qn ∧ st p0 = F ∧ i < qn ∧ q i = p0 ∧ (∀ j, j < i → ∀ c, c < m 9 1 → adB (m 9 0) (q j) c = true → E (q j) c) ∧ FrS σ h
theorem c_reach {h : Hp} {a F i p0 : Nat} {E : Nat → Nat → Prop} (hw : Wf m) (hr : RCt σ 0 m) (hp : p0 < m 9 1) (hS : STq σ m a F i p0 E h) (to : Int32) (hto : ∀ c, c < m 9 1 → to = nI c → adB (m 9 0) p0 c = true) : ∃ τ, F_X4_reach (nI p0) to h = some τ ∧ STq σ m a F i p0 (fun p' c' => E p' c' ∨ (p' = p0 ∧ c' < m 9 1 ∧ to = nI c')) τ := by
  have hs := hw.sq
  have hrd := rdN_le hw
  obtain ⟨st, gn, q, qn, hQ, hI, hF, hi, hqi, hEE, hfr⟩ := hS
  have hrh : RCt h 0 m := hr.keep hw.nd (fun c hc => hfr.1 c (by omega))
  have hqn : qn ≤ 16 := by have := sumN_ind st 16; have := hI.2.2.2.2.2; omega
  have hF15 : F ≤ 15 := by have := (hI.1 i hi).2.2; rw [hqi] at this; omega
  obtain ⟨q1, q2, q3, q4, q5⟩ := hQ
  unfold F_X4_reach
  rw [c_bearsS hw hrh, Option.bind_some]
  by_cases h1 : inb to (m 9 1) = true
  · rw [if_pos h1]
    obtain ⟨c, hc, rfl⟩ := inb_of (by omega) h1
    have had := hto c hc rfl
    have hEc : ∀ p' c', (E p' c' ∨ (p' = p0 ∧ c' < m 9 1 ∧ nI c = nI c')) → (E p' c' ∨ (p' = p0 ∧ c' = c)) := by
      intro p' c' hz
      rcases hz with hz | ⟨z1, z2, z3⟩
      · exact Or.inl hz
      · exact Or.inr ⟨z1, ((nI_eq (by omega) (by omega)).mp z3).symm⟩
    rw [cl_nI (by omega)]
    by_cases hb : brB m c = true
    · have hgp := (hI.2.1 p0 (by omega) (by omega)).2.2.2.1
      have hrc := hrd c
      have hmul : (st p0 + 1) * 1080 ≤ 16 * 1080 := Nat.mul_le_mul_right 1080 (by omega)
      have e42p : h.1 42 p0 = nI F := by rw [q2 p0 (by omega), if_neg (by omega), hF]
      rw [if_pos hb, inb_t (by omega) (by omega), if_pos rfl, inb_t (by omega) (by omega), if_pos rfl, cl_nI (by omega), lt_p, if_pos rfl, if_pos rfl, if_pos rfl, if_pos rfl, if_pos rfl, if_pos rfl, q2 c (by omega), e42p, q3 p0 (by omega) (by omega), q4 c (by omega), nI_add, nI_1]
      by_cases h9 : st c = 99
      · have hroom := IB_room hI (c := c) (by omega) h9
        rw [if_pos h9, if_pos rfl, c_enter (by omega) hroom q1, Option.bind_some]
        have hpc : p0 ≠ c := fun z => by rw [z, h9] at hF; omega
        refine ⟨_, rfl, fset st c (F + 1), fset gn c (gn p0 + rdN m c), fset q qn c, qn + 1, ⟨up_s, fun c' hc' => ?_, fun c' hc' h9' => ?_, fun c' hc' => ?_, fun j hj => ?_⟩, IB_anti (IB_new (by omega) hrd hI hp hF (by omega) hi (by rw [hqi]; exact hF) hb hc had h9) hEc, by rw [fset_n hpc]; exact hF, by omega, by rw [fset_n (by omega)]; exact hqi, fun j hj c' hc' hz => ?_, hfr.tr (FrS.tr (FrS.up (by omega)) (FrS.tr (FrS.up (by omega)) (FrS.tr (FrS.up (by omega)) (FrS.up (by omega)))))⟩
        · rw [up_c (by omega), up_c (by omega), up_c (by omega)]
          by_cases e : c' = c
          · subst e; rw [up_s, fset_s, if_neg (by omega)]
          · rw [up_k e, fset_n e]; exact q2 c' hc'
        · rw [up_c (by omega), up_c (by omega)]
          by_cases e : c' = c
          · subst e; rw [up_s, fset_s]
          · rw [fset_n e] at h9'
            rw [up_k e, fset_n e, up_c (by omega)]; exact q3 c' hc' h9'
        · rw [up_c (by omega), up_c (by omega), up_c (by omega), up_c (by omega)]; exact q4 c' hc'
        · rw [up_c (by omega)]
          by_cases e : j = qn
          · subst e; rw [up_s, fset_s]
          · rw [up_k e, fset_n e, up_c (by omega), up_c (by omega)]; exact q5 j (by omega)
        · rw [fset_n (by omega)] at hz ⊢
          exact Or.inl (hEE j hj c' hc' hz)
      · have hst15 := (hI.2.1 c (by omega) h9).2.2.1
        have hgc := (hI.2.1 c (by omega) h9).2.2.2.1
        have hmulc : (st c + 1) * 1080 ≤ 18 * 1080 := Nat.mul_le_mul_right 1080 (by omega)
        rw [if_neg h9, if_neg (show ¬ nI (st c) = -1 from fun z => by
          have := congrArg Int32.toInt z
          rw [nI_toInt (by omega), show (-1 : Int32).toInt = -1 by decide] at this
          omega)]
        by_cases hs1 : st c = F + 1
        · rw [if_pos (by rw [hs1]), q3 c (by omega) h9, imax_nI (by omega) (by omega), lt_p]
          refine ⟨_, rfl, st, fset gn c (max (gn c) (gn p0 + rdN m c)), q, qn, ⟨by rw [up_c (by omega)]; exact q1, fun c' hc' => by rw [up_c (by omega)]; exact q2 c' hc', fun c' hc' h9' => ?_, fun c' hc' => by rw [up_c (by omega)]; exact q4 c' hc', fun j hj => by rw [up_c (by omega)]; exact q5 j hj⟩, IB_anti (IB_max (by omega) hrd hI hp hF (by omega) hc had h9 hs1) hEc, hF, hi, hqi, fun j hj c' hc' hz => Or.inl (hEE j hj c' hc' hz), hfr.tr (FrS.up (by omega))⟩
          by_cases e : c' = c
          · subst e; rw [up_s, fset_s]
          · rw [up_k e, fset_n e]; exact q3 c' hc' h9'
        · rw [if_neg (fun z => hs1 ((nI_eq (by omega) (by omega)).mp z))]
          exact ⟨h, rfl, st, gn, q, qn, ⟨q1, q2, q3, q4, q5⟩, IB_anti (IB_no (by omega) hI hp hF (by omega) (fun _ => ⟨h9, hs1⟩) hc) hEc, hF, hi, hqi, fun j hj c' hc' hz => Or.inl (hEE j hj c' hc' hz), hfr⟩
    · rw [if_neg hb]
      exact ⟨h, rfl, st, gn, q, qn, ⟨q1, q2, q3, q4, q5⟩, IB_anti (IB_no (by omega) hI hp hF (by omega) (fun z => absurd z hb) hc) hEc, hF, hi, hqi, fun j hj c' hc' hz => Or.inl (hEE j hj c' hc' hz), hfr⟩
  · rw [if_neg h1, if_neg (by decide)]
    refine ⟨h, rfl, st, gn, q, qn, ⟨q1, q2, q3, q4, q5⟩, IB_anti hI (fun p' c' hz => ?_), hF, hi, hqi, fun j hj c' hc' hz => Or.inl (hEE j hj c' hc' hz), hfr⟩
    rcases hz with hz | ⟨-, z2, z3⟩
    · exact hz
    · exact absurd (show inb to (m 9 1) = true by rw [z3]; exact inb_t z2 (by omega)) h1
end CSK
