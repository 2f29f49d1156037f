/-! digest -/
def mixI (a : Int64) (f : Nat → Int32) : Nat → Int64
  | 0 => a
  | n + 1 => 31 * mixI a f n + (f n).toInt64
def mixN (g : Int64 → Nat → Int64) (a : Int64) : Nat → Int64
  | 0 => a
  | n + 1 => g (mixN g a n) n
def dg1 (m : Tw) (a : Int64) (i : Nat) : Int64 := mixI a (fun w => sqA m (nI i) (nI w)) 4
def dg2 (m : Tw) (a : Int64) (i : Nat) : Int64 := mixI a (fun w => abA m (nI i) (nI w)) 8
noncomputable def dg3 (m : Tw) (a : Int64) : Int64 := 31 * (31 * (31 * (31 * a + (6 - nI (grN m)).toInt64) + (nI (grN m)).toInt64) + (skV m 0 (m 9 1 - 1) 0).toInt64) + (skV m 0 (m 9 1 - 1) 1).toInt64
noncomputable def dgV (m : Tw) (pg : Nat → Nat) (pn ld : Nat) : Int64 := mixI (mixI (dg3 m (mixI (mixN (dg2 m) (mixN (dg1 m) 617 (m 9 1)) (m 9 4)) (fun p => reI m (nI p)) 6)) (fun i => nI (pg i)) pn) (fun w => coA m pn ld (nI w)) 6
section DIG
variable {σ : Hp} {m : Tw} {kp : Option Tw} {pg : Nat → Nat} {pn ld lk : Nat}
theorem nlt_i {a b : Nat} (ha : a < 2 ^ 31) (hb : b < 2 ^ 31) (h : b ≤ a) : ¬ nI a < nI b := fun z => by
  have := (nI_ltI ha hb).mp z; omega
theorem le_yes {a b : Nat} (ha : a < 2 ^ 31) (hb : b < 2 ^ 31) (h : a ≤ b) : nI a ≤ nI b := (nI_leI ha hb).mpr h
theorem c_dg20 {h : Hp} (hw : Wf m) (hr : RCt h 0 m) (k6 : Int64 → Int32 → Hp → (Option (Int64 × Hp))) (a : Int64) (i : Nat) : F_X6_digest_20 k6 fuel a (nI i) 0 h = k6 (dg1 m a i) (nI (i + 1)) h := by
  have hf := fuel_ge
  have hl := lp (fun n (x : Int64 × Int32) => F_X6_digest_20 k6 n x.1 (nI i) x.2 h) 4 (fun w => (mixI a (fun w => sqA m (nI i) (nI w)) w, nI w)) (k6 (dg1 m a i) (nI (i + 1)) h) ?_ ?_ fuel 0 (by omega) (by omega)
  · exact hl
  · intro n
    show F_X6_digest_20 k6 (n + 1) (dg1 m a i) (nI i) (nI 4) h = _
    rw [F_X6_digest_20, if_pos (by decide +kernel), nI_1]
  · intro n w hw'
    show F_X6_digest_20 k6 (n + 1) (mixI a (fun w => sqA m (nI i) (nI w)) w) (nI i) (nI w) h = F_X6_digest_20 k6 n (31 * mixI a (fun w => sqA m (nI i) (nI w)) w + (sqA m (nI i) (nI w)).toInt64) (nI i) (nI (w + 1)) h
    rw [F_X6_digest_20, li3, if_neg (nlt_i (by omega) (by omega) (by omega)), c_square hw hr, Option.bind_some, lt_p, nI_1]
theorem c_dg69 {h : Hp} (hw : Wf m) (hr : RCt h 0 m) (k6 : Int64 → Int32 → Hp → (Option (Int64 × Hp))) (a : Int64) (i : Nat) : F_X6_digest_69 k6 fuel a (nI i) 0 h = k6 (dg2 m a i) (nI (i + 1)) h := by
  have hf := fuel_ge
  have hl := lp (fun n (x : Int64 × Int32) => F_X6_digest_69 k6 n x.1 (nI i) x.2 h) 8 (fun w => (mixI a (fun w => abA m (nI i) (nI w)) w, nI w)) (k6 (dg2 m a i) (nI (i + 1)) h) ?_ ?_ fuel 0 (by omega) (by omega)
  · exact hl
  · intro n
    show F_X6_digest_69 k6 (n + 1) (dg2 m a i) (nI i) (nI 8) h = _
    rw [F_X6_digest_69, if_pos (by decide +kernel), nI_1]
  · intro n w hw'
    show F_X6_digest_69 k6 (n + 1) (mixI a (fun w => abA m (nI i) (nI w)) w) (nI i) (nI w) h = F_X6_digest_69 k6 n (31 * mixI a (fun w => abA m (nI i) (nI w)) w + (abA m (nI i) (nI w)).toInt64) (nI i) (nI (w + 1)) h
    rw [F_X6_digest_69, li7, if_neg (nlt_i (by omega) (by omega) (by omega)), c_about hw hr, Option.bind_some, lt_p, nI_1]
theorem c_dg6 {h : Hp} (hw : Wf m) (hr : RCt h 0 m) (a : Int64) : F_X6_digest_6 fuel a 0 h = F_X6_digest_55 fuel (mixN (dg1 m) a (m 9 1)) 0 h := by
  have hf := fuel_ge
  have hs := hw.sq
  have e1 : h.1 30 1 = nI (m 9 1) := hr.1 1 (by omega)
  have hl := lp (fun n (x : Int64 × Int32) => F_X6_digest_6 n x.1 x.2 h) (m 9 1) (fun i => (mixN (dg1 m) a i, nI i)) (F_X6_digest_55 fuel (mixN (dg1 m) a (m 9 1)) 0 h) ?_ ?_ fuel 0 (by omega) (by omega)
  · exact hl
  · intro n
    show F_X6_digest_6 (n + 1) (mixN (dg1 m) a (m 9 1)) (nI (m 9 1)) h = _
    rw [F_X6_digest_6, e1, if_pos (le_yes (by omega) (by omega) (by omega))]
  · intro n i hi
    show F_X6_digest_6 (n + 1) (mixN (dg1 m) a i) (nI i) h = F_X6_digest_6 n (dg1 m (mixN (dg1 m) a i) i) (nI (i + 1)) h
    rw [F_X6_digest_6, e1, if_neg (le_no (by omega) (by omega) hi), c_dg20 hw hr]
theorem c_dg55 {h : Hp} (hw : Wf m) (hr : RCt h 0 m) (a : Int64) : F_X6_digest_55 fuel a 0 h = F_X6_digest_105 fuel (mixN (dg2 m) a (m 9 4)) 0 h := by
  have hf := fuel_ge
  have hs := hw.nd
  have e1 : h.1 30 4 = nI (m 9 4) := hr.1 4 (by omega)
  have hl := lp (fun n (x : Int64 × Int32) => F_X6_digest_55 n x.1 x.2 h) (m 9 4) (fun i => (mixN (dg2 m) a i, nI i)) (F_X6_digest_105 fuel (mixN (dg2 m) a (m 9 4)) 0 h) ?_ ?_ fuel 0 (by omega) (by omega)
  · exact hl
  · intro n
    show F_X6_digest_55 (n + 1) (mixN (dg2 m) a (m 9 4)) (nI (m 9 4)) h = _
    rw [F_X6_digest_55, e1, if_pos (le_yes (by omega) (by omega) (by omega))]
  · intro n i hi
    show F_X6_digest_55 (n + 1) (mixN (dg2 m) a i) (nI i) h = F_X6_digest_55 n (dg2 m (mixN (dg2 m) a i) i) (nI (i + 1)) h
    rw [F_X6_digest_55, e1, if_neg (le_no (by omega) (by omega) hi), c_dg69 hw hr]
theorem c_dg204 {h : Hp} (hw : WfG m kp pg pn ld) (hr : RC h m kp pg pn ld) (a : Int64) : F_X6_digest_204 fuel a 0 h = some (mixI (mixI a (fun i => nI (pg i)) pn) (fun w => coA m pn ld (nI w)) 6, h) := by
  have hf := fuel_ge
  have hpn := hw.2.2.1
  have e1 : h.1 39 1 = nI pn := hr.2.2.2.2.1
  have tail : ∀ a, F_X6_digest_240 fuel a 0 h = some (mixI a (fun w => coA m pn ld (nI w)) 6, h) := by
    intro a
    have hl := lp (fun n (x : Int64 × Int32) => F_X6_digest_240 n x.1 x.2 h) 6 (fun w => (mixI a (fun w => coA m pn ld (nI w)) w, nI w)) (some (mixI a (fun w => coA m pn ld (nI w)) 6, h)) ?_ ?_ fuel 0 (by omega) (by omega)
    · exact hl
    · intro n
      show F_X6_digest_240 (n + 1) (mixI a (fun w => coA m pn ld (nI w)) 6) (nI 6) h = _
      rw [F_X6_digest_240, if_pos (by decide +kernel)]
    · intro n w hw'
      show F_X6_digest_240 (n + 1) (mixI a (fun w => coA m pn ld (nI w)) w) (nI w) h = F_X6_digest_240 n (31 * mixI a (fun w => coA m pn ld (nI w)) w + (coA m pn ld (nI w)).toInt64) (nI (w + 1)) h
      rw [F_X6_digest_240, li5, if_neg (nlt_i (by omega) (by omega) (by omega)), c_count hw hr, Option.bind_some, lt_p, nI_1]
  have hl := lp (fun n (x : Int64 × Int32) => F_X6_digest_204 n x.1 x.2 h) pn (fun w => (mixI a (fun i => nI (pg i)) w, nI w)) (some (mixI (mixI a (fun i => nI (pg i)) pn) (fun w => coA m pn ld (nI w)) 6, h)) ?_ ?_ fuel 0 (by omega) (by omega)
  · exact hl
  · intro n
    show F_X6_digest_204 (n + 1) (mixI a (fun i => nI (pg i)) pn) (nI pn) h = _
    rw [F_X6_digest_204, e1, if_pos (le_yes (by omega) (by omega) (by omega)), tail]
  · intro n w hw'
    show F_X6_digest_204 (n + 1) (mixI a (fun i => nI (pg i)) w) (nI w) h = F_X6_digest_204 n (31 * mixI a (fun i => nI (pg i)) w + (nI (pg w)).toInt64) (nI (w + 1)) h
    rw [F_X6_digest_204, e1, if_neg (le_no (by omega) (by omega) hw'), inb_t (by omega) (by omega), if_pos rfl, cl_nI (by omega), lt_p, nI_1, hr.2.2.2.2.2.1 w hw']
theorem reA_p {p : Nat} (hp : p < 6) : reA m (nI p) = reI m (nI p) := by
  unfold reA
  rw [if_pos (show wn (nI p) 0 5 = true from wn_of (a := 0) (b := 5) (by omega) (by omega) (by omega) (by omega))]
theorem seA_0 : seA m 0 = 6 - nI (grN m) := by
  unfold seA
  rw [if_pos (by decide), if_pos rfl]
theorem seA_1 : seA m 1 = nI (grN m) := by
  unfold seA
  rw [if_pos (by decide), if_neg (by decide)]
theorem sq_last (hw : Wf m) : nI (m 9 1) - 1 = nI (m 9 1 - 1) := by
  have hs := hw.sq
  rw [li1, pk_sub (by omega)]
theorem skA_0 (hw : Wf m) {w : Int32} (h : wn w 0 1 = true) : skA m 0 (nI (m 9 1 - 1)) w = skV m 0 (m 9 1 - 1) w := by
  have hs := hw.sq
  unfold skA
  rw [if_pos (show inb 0 (m 9 1) = true ∧ inb (nI (m 9 1 - 1)) (m 9 1) = true from ⟨inb_t (i := 0) (by omega) (by omega), inb_t (by omega) (by omega)⟩), if_pos h, cl_nI (by omega)]
  rfl
theorem c_dg105 {h : Hp} (hw : WfG m kp pg pn ld) (hr : RC h m kp pg pn ld) (a : Int64) : ∃ τ, F_X6_digest_105 fuel a 0 h = F_X6_digest_204 fuel (dg3 m (mixI a (fun p => reI m (nI p)) 6)) 0 τ ∧ RC τ m kp pg pn ld ∧ FrC h τ := by
  have hf := fuel_ge
  have hs := hw.1.sq
  obtain ⟨t1, a1, b1, f1⟩ := c_settled hw hr 0
  obtain ⟨t2, a2, b2, f2⟩ := c_settled hw b1 1
  have s2 : t2.1 30 1 = nI (m 9 1) := b2.1.1 1 (by omega)
  obtain ⟨t3, a3, b3, f3⟩ := c_skate hw b2 0 (nI (m 9 1 - 1)) 0
  have s3 : t3.1 30 1 = nI (m 9 1) := b3.1.1 1 (by omega)
  obtain ⟨t4, a4, b4, f4⟩ := c_skate hw b3 0 (nI (m 9 1 - 1)) 1
  refine ⟨t4, ?_, b4, ((f1.tr f2).tr f3).tr f4⟩
  have hl := lp (fun n (x : Int64 × Int32) => F_X6_digest_105 n x.1 x.2 h) 6 (fun w => (mixI a (fun p => reI m (nI p)) w, nI w)) (F_X6_digest_204 fuel (dg3 m (mixI a (fun p => reI m (nI p)) 6)) 0 t4) ?_ ?_ fuel 0 (by omega) (by omega)
  · exact hl
  · intro n
    show F_X6_digest_105 (n + 1) (mixI a (fun p => reI m (nI p)) 6) (nI 6) h = _
    rw [F_X6_digest_105, if_pos (by decide +kernel), a1, Option.bind_some, lt_p, a2, Option.bind_some, lt_p, s2, sq_last hw.1, a3, Option.bind_some, lt_p, s3, sq_last hw.1, a4, Option.bind_some, lt_p, seA_0, seA_1, skA_0 hw.1 (by decide), skA_0 hw.1 (by decide)]
    rfl
  · intro n w hw'
    show F_X6_digest_105 (n + 1) (mixI a (fun p => reI m (nI p)) w) (nI w) h = F_X6_digest_105 n (31 * mixI a (fun p => reI m (nI p)) w + (reI m (nI w)).toInt64) (nI (w + 1)) h
    rw [F_X6_digest_105, li6, if_neg (le_no (by omega) (by omega) hw'), c_rest hw.1 hr.1, Option.bind_some, lt_p, nI_1, reA_p hw']
theorem c_digest (hw : WfG m kp pg pn ld) (hr : RC σ m kp pg pn ld) : ∃ τ, F_X6_digest σ = some (dgV m pg pn ld, τ) ∧ RC τ m kp pg pn ld ∧ FrC σ τ := by
  unfold F_X6_digest
  rw [c_dg6 hw.1 hr.1, c_dg55 hw.1 hr.1]
  obtain ⟨τ, t1, t2, t3⟩ := c_dg105 hw hr (mixN (dg2 m) (mixN (dg1 m) 617 (m 9 1)) (m 9 4))
  rw [t1, c_dg204 hw t2]
  exact ⟨τ, rfl, t2, t3⟩
/-- the reference -/
theorem sayE (h : Hp) (v a : Int64) : F_X7_say v (upl h a) = upl h (31 * a + v) := by
  unfold F_X7_say
  rw [lt_p]
  rfl
theorem RM.upl {h : Hp} (hr : RM h m kp pg pn ld lk) (a : Int64) : RM (upl h a) m kp pg pn ld lk := hr
theorem r_tellSq {h : Hp} (hw : Wf m) (hr : RMc h m) {i : Nat} (hi : i < m 9 1) (w : Int32) : F_X7_tellSquare (nI i) w h = some (sqA m (nI i) w) := by
  have hs := hw.sq
  have := r_square hw hr (nI i) w
  unfold F_X7_square at this
  rw [r_isSquare hw hr, inb_t hi (by omega), if_pos rfl] at this
  rw [← this]
  cases F_X7_tellSquare (nI i) w h <;> rfl
theorem r_tellDb {h : Hp} (hw : Wf m) (hr : RMc h m) {i : Nat} (hi : i < m 9 4) (w : Int32) : F_X7_tellDebt (nI i) w h = some (abA m (nI i) w) := by
  have hs := hw.nd
  have := r_about hw hr (nI i) w
  unfold F_X7_about at this
  rw [r_isDebt hw hr, inb_t hi (by omega), if_pos rfl] at this
  rw [← this]
  cases F_X7_tellDebt (nI i) w h <;> rfl
theorem r_dg19 {h : Hp} (hw : Wf m) (hr : RMc h m) (k9 : Int32 → Hp → (Option (Int64 × Hp))) (a : Int64) {i : Nat} (hi : i < m 9 1) : F_X7_digest_19 k9 fuel (nI i) 0 (upl h a) = k9 (nI (i + 1)) (upl h (dg1 m a i)) := by
  have hf := fuel_ge
  have hl := lp (fun n (x : Int64 × Int32) => F_X7_digest_19 k9 n (nI i) x.2 (upl h x.1)) 4 (fun w => (mixI a (fun w => sqA m (nI i) (nI w)) w, nI w)) (k9 (nI (i + 1)) (upl h (dg1 m a i))) ?_ ?_ fuel 0 (by omega) (by omega)
  · exact hl
  · intro n
    show F_X7_digest_19 k9 (n + 1) (nI i) (nI 4) (upl h (dg1 m a i)) = _
    rw [F_X7_digest_19, if_pos (by decide +kernel), nI_1]
  · intro n w hw'
    show F_X7_digest_19 k9 (n + 1) (nI i) (nI w) (upl h (mixI a (fun w => sqA m (nI i) (nI w)) w)) = F_X7_digest_19 k9 n (nI i) (nI (w + 1)) (upl h (31 * mixI a (fun w => sqA m (nI i) (nI w)) w + (sqA m (nI i) (nI w)).toInt64))
    have hru : ∀ a, RMc (upl h a) m := fun _ => hr
    rw [F_X7_digest_19, li4, if_neg (le_no (by omega) (by omega) (by omega)), r_tellSq hw (hru _) hi, Option.bind_some, lt_p, sayE, nI_1]
theorem r_dg59 {h : Hp} (hw : Wf m) (hr : RMc h m) (k9 : Int32 → Hp → (Option (Int64 × Hp))) (a : Int64) {i : Nat} (hi : i < m 9 4) : F_X7_digest_59 k9 fuel (nI i) 0 (upl h a) = k9 (nI (i + 1)) (upl h (dg2 m a i)) := by
  have hf := fuel_ge
  have hl := lp (fun n (x : Int64 × Int32) => F_X7_digest_59 k9 n (nI i) x.2 (upl h x.1)) 8 (fun w => (mixI a (fun w => abA m (nI i) (nI w)) w, nI w)) (k9 (nI (i + 1)) (upl h (dg2 m a i))) ?_ ?_ fuel 0 (by omega) (by omega)
  · exact hl
  · intro n
    show F_X7_digest_59 k9 (n + 1) (nI i) (nI 8) (upl h (dg2 m a i)) = _
    rw [F_X7_digest_59, if_pos (by decide +kernel), nI_1]
  · intro n w hw'
    show F_X7_digest_59 k9 (n + 1) (nI i) (nI w) (upl h (mixI a (fun w => abA m (nI i) (nI w)) w)) = F_X7_digest_59 k9 n (nI i) (nI (w + 1)) (upl h (31 * mixI a (fun w => abA m (nI i) (nI w)) w + (abA m (nI i) (nI w)).toInt64))
    have hru : ∀ a, RMc (upl h a) m := fun _ => hr
    rw [F_X7_digest_59, li8, if_neg (le_no (by omega) (by omega) (by omega)), r_tellDb hw (hru _) hi, Option.bind_some, lt_p, sayE, nI_1]
theorem r_dg9 {h : Hp} (hw : Wf m) (hr : RMc h m) (a : Int64) : F_X7_digest_9 fuel 0 (upl h a) = F_X7_digest_49 fuel 0 (upl h (mixN (dg1 m) a (m 9 1))) := by
  have hf := fuel_ge
  have hs := hw.sq
  have hru : ∀ a, RMc (upl h a) m := fun _ => hr
  have hl := lp (fun n (x : Int64 × Int32) => F_X7_digest_9 n x.2 (upl h x.1)) (m 9 1) (fun i => (mixN (dg1 m) a i, nI i)) (F_X7_digest_49 fuel 0 (upl h (mixN (dg1 m) a (m 9 1)))) ?_ ?_ fuel 0 (by omega) (by omega)
  · exact hl
  · intro n
    show F_X7_digest_9 (n + 1) (nI (m 9 1)) (upl h (mixN (dg1 m) a (m 9 1))) = _
    rw [F_X7_digest_9, r_squares (hru _), if_pos (le_yes (by omega) (by omega) (by omega))]
  · intro n i hi
    show F_X7_digest_9 (n + 1) (nI i) (upl h (mixN (dg1 m) a i)) = F_X7_digest_9 n (nI (i + 1)) (upl h (dg1 m (mixN (dg1 m) a i) i))
    rw [F_X7_digest_9, r_squares (hru _), if_neg (le_no (by omega) (by omega) hi), r_dg19 hw hr _ _ hi]
theorem r_dg49 {h : Hp} (hw : Wf m) (hr : RMc h m) (a : Int64) : F_X7_digest_49 fuel 0 (upl h a) = F_X7_digest_90 fuel 0 (upl h (mixN (dg2 m) a (m 9 4))) := by
  have hf := fuel_ge
  have hs := hw.nd
  have e1 : ∀ a, (upl h a).1 55 6 = nI (m 9 4) := fun _ => hr.2.2.2.1
  have hl := lp (fun n (x : Int64 × Int32) => F_X7_digest_49 n x.2 (upl h x.1)) (m 9 4) (fun i => (mixN (dg2 m) a i, nI i)) (F_X7_digest_90 fuel 0 (upl h (mixN (dg2 m) a (m 9 4)))) ?_ ?_ fuel 0 (by omega) (by omega)
  · exact hl
  · intro n
    show F_X7_digest_49 (n + 1) (nI (m 9 4)) (upl h (mixN (dg2 m) a (m 9 4))) = _
    rw [F_X7_digest_49, e1, if_pos (le_yes (by omega) (by omega) (by omega))]
  · intro n i hi
    show F_X7_digest_49 (n + 1) (nI i) (upl h (mixN (dg2 m) a i)) = F_X7_digest_49 n (nI (i + 1)) (upl h (dg2 m (mixN (dg2 m) a i) i))
    rw [F_X7_digest_49, e1, if_neg (le_no (by omega) (by omega) hi), r_dg59 hw hr _ _ hi]
theorem r_dg168 {h : Hp} (hw : WfG m kp pg pn ld) (hr : RM h m kp pg pn ld lk) (a : Int64) : F_X7_digest_168 fuel 0 (upl h a) = some (mixI (mixI a (fun i => nI (pg i)) pn) (fun w => coA m pn ld (nI w)) 6, upl h (mixI (mixI a (fun i => nI (pg i)) pn) (fun w => coA m pn ld (nI w)) 6)) := by
  have hf := fuel_ge
  have hpn := hw.2.2.1
  have e1 : ∀ a, (upl h a).1 55 9 = nI pn := fun _ => hr.2.2.2.2.1
  have tail : ∀ a, F_X7_digest_195 fuel 0 (upl h a) = some (mixI a (fun w => coA m pn ld (nI w)) 6, upl h (mixI a (fun w => coA m pn ld (nI w)) 6)) := by
    intro a
    have hl := lp (fun n (x : Int64 × Int32) => F_X7_digest_195 n x.2 (upl h x.1)) 6 (fun w => (mixI a (fun w => coA m pn ld (nI w)) w, nI w)) (some (mixI a (fun w => coA m pn ld (nI w)) 6, upl h (mixI a (fun w => coA m pn ld (nI w)) 6))) ?_ ?_ fuel 0 (by omega) (by omega)
    · exact hl
    · intro n
      show F_X7_digest_195 (n + 1) (nI 6) (upl h (mixI a (fun w => coA m pn ld (nI w)) 6)) = _
      rw [F_X7_digest_195, if_pos (by decide +kernel)]
      rfl
    · intro n w hw'
      show F_X7_digest_195 (n + 1) (nI w) (upl h (mixI a (fun w => coA m pn ld (nI w)) w)) = F_X7_digest_195 n (nI (w + 1)) (upl h (31 * mixI a (fun w => coA m pn ld (nI w)) w + (coA m pn ld (nI w)).toInt64))
      rw [F_X7_digest_195, li6, if_neg (le_no (by omega) (by omega) hw'), r_countOf hw (hr.upl _), Option.bind_some, lt_p, sayE, nI_1]
  have hl := lp (fun n (x : Int64 × Int32) => F_X7_digest_168 n x.2 (upl h x.1)) pn (fun w => (mixI a (fun i => nI (pg i)) w, nI w)) (some (mixI (mixI a (fun i => nI (pg i)) pn) (fun w => coA m pn ld (nI w)) 6, upl h (mixI (mixI a (fun i => nI (pg i)) pn) (fun w => coA m pn ld (nI w)) 6))) ?_ ?_ fuel 0 (by omega) (by omega)
  · exact hl
  · intro n
    show F_X7_digest_168 (n + 1) (nI pn) (upl h (mixI a (fun i => nI (pg i)) pn)) = _
    rw [F_X7_digest_168, e1, if_pos (le_yes (by omega) (by omega) (by omega)), tail]
  · intro n w hw'
    have e2 : ∀ a, (upl h a).1 59 w = nI (pg w) := fun _ => hr.2.2.2.2.2.1 w hw'
    show F_X7_digest_168 (n + 1) (nI w) (upl h (mixI a (fun i => nI (pg i)) w)) = F_X7_digest_168 n (nI (w + 1)) (upl h (31 * mixI a (fun i => nI (pg i)) w + (nI (pg w)).toInt64))
    rw [F_X7_digest_168, e1, if_neg (le_no (by omega) (by omega) hw'), inb_t (by omega) (by omega), if_pos rfl, cl_nI (by omega), e2, lt_p, sayE, nI_1]
theorem sayX {h : Hp} {a : Int64} (e : h.2 = a) (v : Int64) : F_X7_say v h = upl h (31 * a + v) := by
  subst e
  unfold F_X7_say
  rw [lt_p]
theorem r_dg90 {h : Hp} (hw : WfG m kp pg pn ld) (hr : RM h m kp pg pn ld lk) (a : Int64) : ∃ τ, F_X7_digest_90 fuel 0 (upl h a) = F_X7_digest_168 fuel 0 (upl τ (dg3 m (mixI a (fun p => reI m (nI p)) 6))) ∧ RM τ m kp pg pn ld lk ∧ FrM h τ := by
  have hf := fuel_ge
  have hs := hw.1.sq
  obtain ⟨A, hA⟩ : ∃ A, A = mixI a (fun p => reI m (nI p)) 6 := ⟨_, rfl⟩
  obtain ⟨B, hB⟩ : ∃ B, B = 31 * (31 * A + (6 - nI (grN m)).toInt64) + (nI (grN m)).toInt64 := ⟨_, rfl⟩
  obtain ⟨C, hC⟩ : ∃ C, C = 31 * B + (skV m 0 (m 9 1 - 1) 0).toInt64 := ⟨_, rfl⟩
  have hD : dg3 m A = 31 * C + (skV m 0 (m 9 1 - 1) 1).toInt64 := by rw [hC, hB]; rfl
  obtain ⟨t1, a1, b1, f1, g1⟩ := r_groups hw (hr.upl A)
  have g1' : t1.2 = A := g1
  have b2 := b1.upl B
  obtain ⟨t3, a3, f3⟩ := r_tellSkate (a := 0) (b := m 9 1 - 1) hw.1 b2.1 (by omega) (by omega) 0
  have b3 := f3.RM b2
  have g3' : t3.2 = B := f3.2
  have b4 := b3.upl C
  obtain ⟨t5, a5, f5⟩ := r_tellSkate (a := 0) (b := m 9 1 - 1) hw.1 b4.1 (by omega) (by omega) 1
  have b5 := f5.RM b4
  have g5' : t5.2 = C := f5.2
  have m1 : FrM h t1 := f1
  have m3 : FrM t1 t3 := fun c hc => f3.1 c (by omega) (by omega)
  have m5 : FrM t3 t5 := fun c hc => f5.1 c (by omega) (by omega)
  have a3' : F_X7_tellSkate 0 (nI (m 9 1 - 1)) 0 (upl t1 B) = some (skV m 0 (m 9 1 - 1) 0, t3) := a3
  have a5' : F_X7_tellSkate 0 (nI (m 9 1 - 1)) 1 (upl t3 C) = some (skV m 0 (m 9 1 - 1) 1, t5) := a5
  refine ⟨t5, ?_, b5, (m1.tr m3).tr m5⟩
  rw [← hA]
  have hl := lp (fun n (x : Int64 × Int32) => F_X7_digest_90 n x.2 (upl h x.1)) 6 (fun w => (mixI a (fun p => reI m (nI p)) w, nI w)) (F_X7_digest_168 fuel 0 (upl t5 (dg3 m A))) ?_ ?_ fuel 0 (by omega) (by omega)
  · exact hl
  · intro n
    show F_X7_digest_90 (n + 1) (nI 6) (upl h (mixI a (fun p => reI m (nI p)) 6)) = _
    rw [← hA, F_X7_digest_90, if_pos (by decide +kernel), a1, Option.bind_some, lt_p, lt_p, sayX g1', sayE, ← hB, r_squares b2.1, sq_last hw.1, a3', Option.bind_some, lt_p, sayX g3', ← hC, r_squares b4.1, sq_last hw.1, a5', Option.bind_some, lt_p, sayX g5', ← hD]
  · intro n w hw'
    have hru : ∀ a, RMc (upl h a) m := fun _ => hr.1
    show F_X7_digest_90 (n + 1) (nI w) (upl h (mixI a (fun p => reI m (nI p)) w)) = F_X7_digest_90 n (nI (w + 1)) (upl h (31 * mixI a (fun p => reI m (nI p)) w + (reI m (nI w)).toInt64))
    rw [F_X7_digest_90, li6, if_neg (le_no (by omega) (by omega) hw'), r_restOf hw.1 (hru _), Option.bind_some, lt_p, sayE, nI_1]
theorem r_digest (hw : WfG m kp pg pn ld) (hr : RM σ m kp pg pn ld lk) : ∃ τ, F_X7_digest σ = some (dgV m pg pn ld, τ) ∧ RM τ m kp pg pn ld lk ∧ FrM σ τ := by
  unfold F_X7_digest
  rw [lt_p, r_dg9 hw.1 hr.1, r_dg49 hw.1 hr.1]
  obtain ⟨τ, t1, t2, t3⟩ := r_dg90 hw hr (mixN (dg2 m) (mixN (dg1 m) 617 (m 9 1)) (m 9 4))
  rw [t1, r_dg168 hw t2]
  exact ⟨_, rfl, t2, t3⟩
end DIG
