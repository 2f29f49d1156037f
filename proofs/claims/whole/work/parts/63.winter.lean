/-! how many stand; winters -/
theorem lpI {X R : Type} (F : Nat → X → Option R) (N : Nat) (I : Nat → X → Prop) (P : Option R → Prop) (hexit : ∀ n x, I N x → P (F (n + 1) x)) (hstep : ∀ n d x, d < N → I d x → ∃ x', I (d + 1) x' ∧ F (n + 1) x = F n x') : ∀ n d x, d ≤ N → N < d + n → I d x → P (F n x) := by
  intro n
  induction n with
  | zero => intro d x h1 h2; omega
  | succ n ih =>
    intro d x h1 h2 hI
    by_cases hd : d < N
    · obtain ⟨x', h3, h4⟩ := hstep n d x hd hI
      rw [h4]
      exact ih (d + 1) x' (by omega) (by omega) h3
    · have : d = N := by omega
      subst this
      exact hexit n x hI
def stI (m : Tw) : Int32 := sumI (fun d => b2i (decide (m 7 d ≠ 0))) (m 9 4)
def icI (m : Tw) : Int32 := sumI (fun c => nI (m 0 c)) (m 9 1)
section WINTER
variable {σ : Hp} {m : Tw} {kp : Option Tw} {pg : Nat → Nat} {pn ld lk : Nat}
theorem c_standing {t : Nat} (hw : Wf m) (hr : RCt σ t m) : F_X5_debtsStanding t σ = some (stI m) := by
  have hn := hw.nd
  have h4 := hr.1 4 (by omega)
  unfold F_X5_debtsStanding
  refine sum_loop (fun n s d => F_X5_debtsStanding_4 t σ n s d) (m 9 4) _ ?_ ?_ fuel 0 0 (by omega) (by have := fuel_ge; omega) rfl
  · intro n s
    show F_X5_debtsStanding_4 t σ (n + 1) s (nI (m 9 4)) = _
    rw [F_X5_debtsStanding_4, h4, if_pos (nle.mp (fun z => by have := (nI_ltI (by omega) (by omega)).mp z; omega))]
  · intro n d s hd
    obtain ⟨⟨a0, a1, a2, a3, a4, a5⟩, -, -⟩ := hr.2.2 d hd
    obtain ⟨-, -, -, -, -, -, -, w8, w9, w10, -⟩ := hw.d hd
    show F_X5_debtsStanding_4 t σ (n + 1) s (nI d) = _
    rw [F_X5_debtsStanding_4, h4, if_neg (le_no (by omega) (by omega) hd), inb_t (by omega) (by omega), cl_nI (by omega), a5, li0]
    simp (disch := omega) only [if_true, F_X5_debtsStanding_27, nI_1, nI_leI]
    by_cases h0 : m 7 d = 0
    · have := w10.mp h0
      simp [h0, this, b2i]
    · have : ¬ m 6 d = 0 := fun z => h0 (w10.mpr z)
      simp [h0, this, b2i]
theorem r_thereMany (hw : Wf m) (hr : RMc σ m) : F_X7_thereMany σ = some (stI m) := by
  have hn := hw.nd
  have h4 := hr.2.2.2.1
  unfold F_X7_thereMany
  refine sum_loop (fun n s d => F_X7_thereMany_4 σ n s d) (m 9 4) _ ?_ ?_ fuel 0 0 (by omega) (by have := fuel_ge; omega) rfl
  · intro n s
    show F_X7_thereMany_4 σ (n + 1) s (nI (m 9 4)) = _
    rw [F_X7_thereMany_4, h4, if_pos (nle.mp (fun z => by have := (nI_ltI (by omega) (by omega)).mp z; omega))]
  · intro n d s hd
    obtain ⟨-, a6, -⟩ := hr.2.2.2.2.2.2 d hd
    obtain ⟨-, -, -, -, -, -, -, w8, w9, w10, -⟩ := hw.d hd
    show F_X7_thereMany_4 σ (n + 1) s (nI d) = _
    rw [F_X7_thereMany_4, h4, if_neg (le_no (by omega) (by omega) hd)]
    simp (disch := omega) only [li0, li6, ix8, inb_t, cl_nI, if_true, F_X7_thereMany_33, a6, nI_leI, lt_p, nI_1]
    by_cases h0 : m 7 d = 0
    · simp [h0]
    · simp [h0]
theorem c_iceTog {t : Nat} (hw : Wf m) (hr : RCt σ t m) : F_X5_iceTogether t σ = some (icI m) := by
  have hs := hw.sq
  have h4 := hr.1 1 (by omega)
  unfold F_X5_iceTogether
  refine sum_loop (fun n s d => F_X5_iceTogether_4 t σ n s d) (m 9 1) _ ?_ ?_ fuel 0 0 (by omega) (by have := fuel_ge; omega) rfl
  · intro n s
    show F_X5_iceTogether_4 t σ (n + 1) s (nI (m 9 1)) = _
    rw [F_X5_iceTogether_4, h4, if_pos (nle.mp (fun z => by have := (nI_ltI (by omega) (by omega)).mp z; omega))]
  · intro n d s hd
    show F_X5_iceTogether_4 t σ (n + 1) s (nI d) = _
    rw [F_X5_iceTogether_4, h4, if_neg (le_no (by omega) (by omega) hd), inb_t (by omega) (by omega), cl_nI (by omega), hr.2.1 d hd, if_pos rfl, lt_p, nI_1]
/-- the next seed; a draw -/
def nx (s : Int32) : Int32 := Int64.toInt32 ((((1103515245 : Int64) * (Int32.toInt64 s)) + (12345 : Int64)) &&& (2147483647 : Int64))
theorem nx_nI (s : Int32) : ∃ j, j < 2 ^ 31 ∧ nx s = nI j := by
  unfold nx
  generalize (1103515245 : Int64) * (Int32.toInt64 s) + 12345 = x
  refine ⟨(x &&& 2147483647).toBitVec.toNat, ?_, ?_⟩
  · have h : (x &&& 2147483647).toBitVec = x.toBitVec &&& 2147483647#64 := rfl
    rw [h, BitVec.toNat_and]
    exact Nat.lt_of_le_of_lt (Nat.and_le_right) (by decide)
  · apply Int32.toBitVec_inj.mp
    show (x &&& 2147483647).toBitVec.signExtend 32 = _
    apply BitVec.eq_of_toNat_eq
    rw [BitVec.toNat_signExtend]
    simp [nI]
def dr (s : Int32) (n : Nat) : Nat := s.toNatClampNeg / 65536 % n
theorem c_draw {j n : Nat} (hj : j < 2 ^ 31) (hn : 0 < n) (hn2 : n < 100) (σ : Hp) : F_X6_drawFrom (nI j) (nI n) σ = some (nI (dr (nI j) n)) := by
  unfold F_X6_drawFrom dr
  rw [cl_nI hj, li0, if_neg (le_no (by omega) (by omega) hn), if_pos (show ¬ nI n = nI 0 from fun z => by have := (nI_eq (by omega) (by omega)).mp z; omega), pk_shrN hj _ 16 (by decide)]
  unfold jrem
  rw [pk_rem (by omega) hn (by omega)]
theorem r_draw {n : Nat} (hn : 0 < n) (hn2 : n < 100) : F_X7_draw (nI n) σ = some (nI (dr (nx (σ.1 55 23)) n), up σ 55 23 (nx (σ.1 55 23))) := by
  unfold F_X7_draw
  rw [lt_p, up_s, if_pos (show ¬ nI n = 0 from fun z => by have := (nI_eq (b := 0) (by omega) (by omega)).mp z; omega)]
  show some (jrem (nx (σ.1 55 23) / 65536) (nI n), _) = _
  obtain ⟨j, hj, e⟩ := nx_nI (σ.1 55 23)
  have l65 : (65536 : Int32) = nI 65536 := by decide +kernel
  rw [show (Int64.toInt32 ((((1103515245 : Int64) * (Int32.toInt64 (σ.1 55 23))) + (12345 : Int64)) &&& (2147483647 : Int64))) = nx (σ.1 55 23) from rfl, e, l65, pk_div hj (by omega) (by omega)]
  unfold jrem dr
  rw [pk_rem (by omega) hn (by omega), cl_nI hj]
/-- winters: after d days the town and the seed -/
def ws1 (q : Tw × Int32) : Tw × Int32 := if dr (nx q.2) 4 < 2 then (dyM q.1 (dr (nx q.2) 4) (dr (nx (nx q.2)) 9 + 1), nx (nx q.2)) else (dyM q.1 (dr (nx q.2) 4) 0, nx q.2)
def wsd (m : Tw) (s : Int32) : Nat → Tw × Int32
  | 0 => (m, s)
  | d + 1 => ws1 (wsd m s d)
theorem dr_lt (s : Int32) {n : Nat} (hn : 0 < n) : dr s n < n := Nat.mod_lt _ hn
theorem w_ws1 {q : Tw × Int32} (hw : Wf q.1) : Wf (ws1 q).1 := by
  unfold ws1
  split
  · exact w_day hw _ _
  · exact w_day hw _ _
theorem w_wsd {m : Tw} (hw : Wf m) (s : Int32) : ∀ d, Wf (wsd m s d).1
  | 0 => hw
  | d + 1 => w_ws1 (w_wsd hw s d)
def wiA (m : Tw) (d s w : Int32) : Int32 := if wn d 1 60 = true ∧ ¬ s < 0 ∧ wn w 0 2 = true then (if w = 0 then stI (wsd m s d.toNatClampNeg).1 else if w = 1 then icI (wsd m s d.toNatClampNeg).1 else (wsd m s d.toNatClampNeg).2) else -102
theorem c_winter (hw : WfG m kp pg pn ld) (hr : RC σ m kp pg pn ld) (d s w : Int32) : ∃ τ, F_X6_winter d s w σ = some (wiA m d s w, τ) ∧ RC τ m kp pg pn ld ∧ FrC σ τ := by
  unfold F_X6_winter wiA
  rw [c_within, c_within]
  by_cases h1 : wn d 1 60 = true
  · by_cases h2 : s < 0
    · rw [if_pos h1, if_pos h2, if_neg (fun z => z.2.1 h2)]
      exact ⟨σ, rfl, hr, FrC.rf⟩
    · by_cases h3 : wn w 0 2 = true
      · rw [if_pos h1, if_neg h2, if_pos h3, if_pos ⟨h1, h2, h3⟩]
        obtain ⟨D, hD1, hD2, rfl⟩ := wn_nI (a := 1) (b := 60) (by omega) (by omega) h1
        obtain ⟨w', -, hw2, rfl⟩ := wn_nI (a := 0) (b := 2) (by omega) (by omega) h3
        rw [cl_nI (by omega)]
        obtain ⟨τ0, g1, g2, g3, g4⟩ := c_copyFrom (t := 2) (u := 0) (by omega) (by omega) (by omega) hw.1 hr.1
        rw [g1, Option.bind_some]
        have := lpI (fun n (x : Int32 × Int32 × Hp) => F_X6_winter_43 n (nI D) (nI w') x.1 x.2.1 x.2.2) D (fun e x => x.1 = (wsd m s e).2 ∧ x.2.1 = nI e ∧ RCt x.2.2 2 (wsd m s e).1 ∧ (∀ c, ¬ (c = 32 ∨ c = 35 ∨ (20 ≤ c ∧ c < 30)) → x.2.2.1 c = σ.1 c) ∧ x.2.2.2 = σ.2) (fun o => ∃ τ, o = some ((if nI w' = 0 then stI (wsd m s D).1 else if nI w' = 1 then icI (wsd m s D).1 else (wsd m s D).2), τ) ∧ (∀ c, ¬ (c = 32 ∨ c = 35 ∨ (20 ≤ c ∧ c < 30)) → τ.1 c = σ.1 c) ∧ τ.2 = σ.2) ?_ ?_ fuel 0 (s, nI 0, τ0) (by omega) (by have := fuel_ge; omega) ⟨rfl, rfl, g2, fun c hc => g3 c (by omega), g4⟩
        · obtain ⟨τ, e1, e2, e3⟩ := this
          refine ⟨τ, e1, ⟨hr.1.keep hw.1.nd (fun c hc => e2 c (by omega)), RC'.keep hw.kn (fun c hc => e2 c (by omega)) hr.2⟩, ⟨fun c hc => e2 c (by omega), e3⟩⟩
        · rintro n ⟨x1, x2, h⟩ ⟨i1, i2, i3, i4, i5⟩
          dsimp only at i1 i2 i3 i4 i5 ⊢
          subst i1; subst i2
          rw [F_X6_winter_43, if_pos (nle.mp (fun z => by have := (nI_ltI (by omega) (by omega)).mp z; omega)), c_standing (w_wsd hw.1 s D) i3, c_iceTog (w_wsd hw.1 s D) i3, Option.bind_some, Option.bind_some]
          refine ⟨h, ?_, i4, i5⟩
          rw [li0, li1, li2]
          simp (disch := omega) only [nI_eq]
          have : w' = 0 ∨ w' = 1 ∨ w' = 2 := by omega
          rcases this with rfl | rfl | rfl <;> rfl
        · rintro n e ⟨x1, x2, h⟩ he ⟨i1, i2, i3, i4, i5⟩
          dsimp only at i1 i2 i3 i4 i5 ⊢
          subst i1; subst i2
          have hwe := w_wsd hw.1 s e
          generalize hq : wsd m s e = q at i3 hwe ⊢
          have hq1 : wsd m s (e + 1) = ws1 q := by rw [← hq]; rfl
          rw [hq1]
          rw [F_X6_winter_43, if_neg (le_no (by omega) (by omega) he), lt_p]
          rw [show F_X6_nextSeed q.2 h = nx q.2 from rfl]
          obtain ⟨j, hj, ej⟩ := nx_nI q.2
          obtain ⟨j2, hj2, ej2⟩ := nx_nI (nx q.2)
          have hk4 := dr_lt (nx q.2) (n := 4) (by omega)
          have hk9 := dr_lt (nx (nx q.2)) (n := 9) (by omega)
          rw [show F_X6_drawFrom (nx q.2) 4 h = some (nI (dr (nx q.2) 4)) by rw [ej, li4]; exact c_draw hj (by omega) (by omega) h, Option.bind_some]
          have hpass : ∀ k i : Nat, k ≤ 3 → i ≤ 9 → ∀ sd : Int32, ∃ x' : Int32 × Int32 × Hp, (x'.1 = sd ∧ x'.2.1 = nI (e + 1) ∧ RCt x'.2.2 2 (dyM q.1 k i) ∧ (∀ c, ¬ (c = 32 ∨ c = 35 ∨ (20 ≤ c ∧ c < 30)) → x'.2.2.1 c = σ.1 c) ∧ x'.2.2.2 = σ.2) ∧ F_X6_winter_96 (F_X6_winter_43 n) (nI D) (nI w') sd (nI e) (nI k) (nI i) h = F_X6_winter_43 n (nI D) (nI w') x'.1 x'.2.1 x'.2.2 := by
            intro k i hk hi sd
            obtain ⟨τ, t1, t2, t3, t4⟩ := c_passDay (t := 2) (by omega) hk hi hwe i3
            refine ⟨(sd, nI (e + 1), τ), ⟨rfl, rfl, t2, fun c hc => by rw [t3 c (by omega)]; exact i4 c hc, t4.trans i5⟩, ?_⟩
            unfold F_X6_winter_96
            rw [t1, Option.bind_some, nI_1]
          unfold ws1
          by_cases hk2 : dr (nx q.2) 4 < 2
          · rw [if_pos hk2]
            obtain ⟨x', y1, y2⟩ := hpass (dr (nx q.2) 4) (dr (nx (nx q.2)) 9 + 1) (by omega) (by omega) (nx (nx q.2))
            refine ⟨x', y1, ?_⟩
            have hcall : F_X6_winter_78 (F_X6_winter_43 n) (nI D) (nI w') (nx q.2) (nI e) (nI (dr (nx q.2) 4)) h = F_X6_winter_43 n (nI D) (nI w') x'.1 x'.2.1 x'.2.2 := by
              unfold F_X6_winter_78
              rw [lt_p, show F_X6_nextSeed (nx q.2) h = nx (nx q.2) from rfl, show F_X6_drawFrom (nx (nx q.2)) 9 h = some (nI (dr (nx (nx q.2)) 9)) by rw [ej2, li9]; exact c_draw hj2 (by omega) (by omega) h, Option.bind_some, lt_p, nI_1]
              exact y2
            rw [li0, li1]
            simp (disch := omega) only [nI_eq]
            by_cases k0 : dr (nx q.2) 4 = 0
            · rw [if_pos k0]; exact hcall
            · rw [if_neg k0, if_pos (by omega)]; exact hcall
          · rw [if_neg hk2]
            obtain ⟨x', y1, y2⟩ := hpass (dr (nx q.2) 4) 0 (by omega) (by omega) (nx q.2)
            refine ⟨x', y1, ?_⟩
            rw [if_neg (show ¬ nI (dr (nx q.2) 4) = 0 from fun z => by have := (nI_eq (b := 0) (by omega) (by omega)).mp z; omega), if_neg (show ¬ nI (dr (nx q.2) 4) = 1 from fun z => by have := (nI_eq (b := 1) (by omega) (by omega)).mp z; omega)]
            exact y2
      · rw [if_pos h1, if_neg h2, if_neg h3, if_neg (fun z => h3 z.2.2)]
        exact ⟨σ, rfl, hr, FrC.rf⟩
  · rw [if_neg h1, if_neg (fun z => h1 z.1)]
    exact ⟨σ, rfl, hr, FrC.rf⟩
end WINTER
