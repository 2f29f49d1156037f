/-! sledges of the class -/
theorem sh_q : ∀ p, p < 11 → (((nI p &&& 31) : Int32).toBitVec.smod 32).toNat = p := by decide +kernel
theorem shl_j {p : Nat} (hp : p < 11) : ((1 : Int32) <<< (nI p &&& 31)) = nI (2 ^ p) := by
  have h2 : 2 ^ p ≤ 2 ^ 10 := Nat.pow_le_pow_right (by omega) (by omega)
  rw [li1, pk_shlN _ p (sh_q p hp) (by omega), Nat.one_mul]
theorem nv_i : (1048576 : Int32) = nI 1048576 := by decide +kernel
def popN (S : Nat) : Nat := sumN (fun k => if S.testBit k = true then 1 else 0) 10
theorem bc_c : ∀ S, S < 1024 → F_J6_bitCount_0f7a4 (nI S) ((fun _ _ => 0), 0) = nI (popN S) := by decide +kernel
theorem bc_i (σ : Hp) {S : Nat} (h : S < 1024) : F_J6_bitCount_0f7a4 (nI S) σ = nI (popN S) := bc_c S h
theorem popN_le (S : Nat) : popN S ≤ 10 := by
  unfold popN
  have : ∀ n, sumN (fun k => if S.testBit k = true then 1 else 0) n ≤ n := by
    intro n
    induction n with
    | zero => exact Nat.le_refl 0
    | succ n ih =>
      show sumN _ n + (if S.testBit n = true then 1 else 0) ≤ n + 1
      split <;> omega
  exact this 10
def wc (m : Tw) (i : Nat) : Nat := if m 7 i = 1 then m 0 (m 2 i) else 201
def woS (m : Tw) (S : Nat) : Int32 := sumI (fun i => if S.testBit i = true then nI (wo m i) else 0) (m 9 4)
/-- the best after the sets 1 .. d -/
def bsS (m : Tw) (ok : Nat → Bool) (q : Int32 × Nat) (S : Nat) : Int32 × Nat := if ok S = true ∧ (q.1 < woS m S ∨ (woS m S = q.1 ∧ popN S < popN q.2)) then (woS m S, S) else q
def bsF (m : Tw) (ok : Nat → Bool) : Nat → Int32 × Nat
  | 0 => (0, 0)
  | d + 1 => bsS m ok (bsF m ok d) (d + 1)
theorem bsF_le (m : Tw) (ok : Nat → Bool) : ∀ d, (bsF m ok d).2 ≤ d
  | 0 => Nat.le_refl 0
  | d + 1 => by
    show (bsS m ok (bsF m ok d) (d + 1)).2 ≤ d + 1
    unfold bsS
    split
    · exact Nat.le_refl _
    · have := bsF_le m ok d; omega
section SLC
variable {σ : Hp} {m : Tw} {kp : Option Tw} {pg : Nat → Nat} {pn ld lk : Nat}
theorem wc_le (hw : Wf m) {i : Nat} (hi : i < m 9 4) : wc m i ≤ 201 := by
  obtain ⟨w1, w2, -⟩ := hw.d hi
  have := hw.ic w2
  unfold wc
  split <;> omega
theorem c_weigh (hw : Wf m) (hr : RCt σ 0 m) : ∃ τ, F_X1_weigh σ = some τ ∧ τ.1 46 2 = nI (m 9 4) ∧ (∀ i, i < m 9 4 → τ.1 47 i = nI (wc m i) ∧ τ.1 48 i = nI (wo m i)) ∧ (∀ c, c ≠ 46 → c ≠ 47 → c ≠ 48 → τ.1 c = σ.1 c) ∧ τ.2 = σ.2 := by
  have hn := hw.nd
  have e4 : σ.1 30 4 = nI (m 9 4) := hr.1 4 (by omega)
  unfold F_X1_weigh
  rw [lt_p, e4, li10, imin_nI (by omega) (by omega), Nat.min_eq_left hn]
  refine lpI (fun n (x : Int32 × Hp) => F_X1_weigh_15 n x.1 x.2) (m 9 4) (fun d x => x.1 = nI d ∧ x.2.1 46 2 = nI (m 9 4) ∧ (∀ i, i < d → x.2.1 47 i = nI (wc m i) ∧ x.2.1 48 i = nI (wo m i)) ∧ (∀ c, c ≠ 46 → c ≠ 47 → c ≠ 48 → x.2.1 c = σ.1 c) ∧ x.2.2 = σ.2) (fun o => ∃ τ, o = some τ ∧ τ.1 46 2 = nI (m 9 4) ∧ (∀ i, i < m 9 4 → τ.1 47 i = nI (wc m i) ∧ τ.1 48 i = nI (wo m i)) ∧ (∀ c, c ≠ 46 → c ≠ 47 → c ≠ 48 → τ.1 c = σ.1 c) ∧ τ.2 = σ.2) ?_ ?_ fuel 0 (0, up σ 46 2 (nI (m 9 4))) (by omega) (by have := fuel_ge; omega) ⟨rfl, up_s, fun i hi => absurd hi (by omega), fun c a _ _ => up_off a, rfl⟩
  · rintro n ⟨x1, h⟩ ⟨i1, i2, i3, i4, i5⟩
    dsimp only at i1 i2 i3 i4 i5 ⊢
    subst i1
    rw [F_X1_weigh_15, i2, if_pos (nle.mp (fun z => by have := (nI_ltI (by omega) (by omega)).mp z; omega))]
    exact ⟨h, rfl, i2, i3, i4, i5⟩
  · rintro n d ⟨x1, h⟩ hd ⟨i1, i2, i3, i4, i5⟩
    dsimp only at i1 i2 i3 i4 i5 ⊢
    subst i1
    have hrh : RCt h 0 m := hr.keep hn (fun c hc => i4 c (by omega) (by omega) (by omega))
    have fin : ∀ v, v = nI (wc m d) → ∃ x' : Int32 × Hp, (x'.1 = nI (d + 1) ∧ x'.2.1 46 2 = nI (m 9 4) ∧ (∀ i, i < d + 1 → x'.2.1 47 i = nI (wc m i) ∧ x'.2.1 48 i = nI (wo m i)) ∧ (∀ c, c ≠ 46 → c ≠ 47 → c ≠ 48 → x'.2.1 c = σ.1 c) ∧ x'.2.2 = σ.2) ∧ F_X1_weigh_51 (F_X1_weigh_15 n) (nI d) v (nI d) h = F_X1_weigh_15 n x'.1 x'.2 := by
      intro v hv
      unfold F_X1_weigh_51
      rw [inb_t (by omega) (by omega), if_pos rfl, cl_nI (by omega), lt_p, c_worthOf (t := 0) hw (hrh.keep hn (fun c hc => up_off (by omega))) hd, Option.bind_some, if_pos rfl, lt_p, nI_1]
      refine ⟨(nI (d + 1), up (up h 47 d v) 48 d (nI (wo m d))), ⟨rfl, by rw [up_c (by omega), up_c (by omega)]; exact i2, fun i hi => ?_, fun c a b d => by rw [up_off d, up_off b]; exact i4 c a b d, i5⟩, rfl⟩
      dsimp only
      by_cases e : i = d
      · subst e; rw [up_c (by omega), up_s, up_s]; exact ⟨hv, rfl⟩
      · rw [up_c (by omega), up_k e, up_k e, up_c (by omega)]; exact i3 i (by omega)
    rw [F_X1_weigh_15, i2, if_neg (le_no (by omega) (by omega) hd), inb_t (by omega) (by omega), if_pos rfl, cl_nI (by omega), c_isThere hw hrh hd, c_iceUnder hw hrh hd, Option.bind_some]
    by_cases h7 : m 7 d = 1
    · rw [if_pos (decide_eq_true h7)]
      exact fin _ (by unfold wc; rw [if_pos h7])
    · rw [if_neg (by rw [decide_eq_true_eq]; exact h7)]
      exact fin _ (by unfold wc; rw [if_neg h7]; decide +kernel)
theorem c_layOn {v x b : Nat} (hv : v ≤ 1048576) (hx : x ≤ 201) (hb : b ≤ 200) : F_X1_layOn (nI v) (nI x) (nI b) σ = nI (lay b v x) := by
  unfold F_X1_layOn lay
  rw [nv_i, pk_andN (by omega) 8 (by decide), pk_shrN (by omega) _ 8 (by decide), nI_1, pk_shlN _ 8 (by decide) (by omega), nI_add, nI_add, nI_add]
  simp (disch := omega) only [nI_eq, nI_leI, nI_ltI]
  by_cases h1 : v = 1048576
  · rw [if_pos h1, if_pos h1]
  · rw [if_neg h1, if_neg h1]
    by_cases h2 : x ≤ b
    · rw [if_pos h2, if_pos h2]
      by_cases h3 : b < v % 256 + x
      · rw [if_pos h3, if_pos h3]
      · rw [if_neg h3, if_neg h3]
    · rw [if_neg h2, if_neg h2]
theorem c_pack {h : Hp} {S b : Nat} (hw : Wf m) (hb : b ≤ 200) (hS : S < 2 ^ m 9 4) (hS0 : S ≠ 0) (h46 : h.1 46 2 = nI (m 9 4)) (h47 : ∀ i, i < m 9 4 → h.1 47 i = nI (wc m i)) (h49 : ∀ T, T < S → h.1 49 T = nI (PK (wc m) (m 9 4) b T)) : F_X1_pack (nI S) (nI b) h = some (nI (PK (wc m) (m 9 4) b S)) := by
  have hn := hw.nd
  have hN : 2 ^ m 9 4 ≤ 2 ^ 10 := Nat.pow_le_pow_right (by omega) hn
  have hS2 : S < 1024 := by omega
  unfold F_X1_pack
  have hl := lp (fun n (x : Int32 × Int32) => F_X1_pack_6 h n (nI S) (nI b) x.1 x.2) (m 9 4) (fun i => (nI (mn (fun i => if S.testBit i = true then lay b (PK (wc m) (m 9 4) b (S - 2 ^ i)) (wc m i) else 1048576) i), nI i)) (some (nI (PK (wc m) (m 9 4) b S))) ?_ ?_ fuel 0 (by omega) (by have := fuel_ge; omega)
  · rw [nv_i]; exact hl
  · intro n
    show F_X1_pack_6 h (n + 1) (nI S) (nI b) _ (nI (m 9 4)) = _
    rw [F_X1_pack_6, h46, if_pos (nle.mp (fun z => by have := (nI_ltI (by omega) (by omega)).mp z; omega)), PK_e hS0]
  · intro n i hi
    have hmn := mn_nv (fun i => if S.testBit i = true then lay b (PK (wc m) (m 9 4) b (S - 2 ^ i)) (wc m i) else 1048576) i
    show F_X1_pack_6 h (n + 1) (nI S) (nI b) (nI (mn _ i)) (nI i) = F_X1_pack_6 h n (nI S) (nI b) (nI (min (mn _ i) (if S.testBit i = true then lay b (PK (wc m) (m 9 4) b (S - 2 ^ i)) (wc m i) else 1048576))) (nI (i + 1))
    rw [F_X1_pack_6, h46, if_neg (le_no (by omega) (by omega) hi), bit_i (by omega) (by omega)]
    unfold F_X1_pack_51
    cases hbt : S.testBit i with
    | false =>
      rw [if_pos (show (if false = true then (1 : Int32) else 0) = 0 by decide), if_neg (show ¬ (false = true) by decide), Nat.min_eq_left hmn, nI_1]
    | true =>
      have hps := pw_sub hbt
      have hle := sub_le hps
      have hpos := Nat.two_pow_pos i
      have hPK := PK_nv (w := wc m) (n := m 9 4) (b := b) (S - 2 ^ i)
      have hlay : lay b (PK (wc m) (m 9 4) b (S - 2 ^ i)) (wc m i) < 2 ^ 30 := by
        have := wc_le hw hi
        unfold lay
        repeat' split
        all_goals omega
      rw [if_neg (show ¬ (if true = true then (1 : Int32) else 0) = 0 by decide), if_pos rfl, xor_i hS2 (by omega) hbt, inb_t (by omega) (by omega), if_pos rfl, inb_t (by omega) (by omega), if_pos rfl, cl_nI (by omega), cl_nI (by omega), h47 i hi, h49 _ (by omega), c_layOn hPK (wc_le hw hi) hb, lt_p, imin_nI (by omega) (by omega), nI_1]
theorem c_keepBetter {h : Hp} {S B : Nat} {W : Int32} (hw : Wf m) (hS : S < 1024) (hB : B < 1024) (h46 : h.1 46 2 = nI (m 9 4)) (h0 : h.1 46 0 = W) (h1 : h.1 46 1 = nI B) (h48 : ∀ i, i < m 9 4 → h.1 48 i = nI (wo m i)) : F_X1_keepBetter (nI S) h = some (if W < woS m S ∨ (woS m S = W ∧ popN S < popN B) then up (up h 46 0 (woS m S)) 46 1 (nI S) else h) := by
  have hn := hw.nd
  unfold F_X1_keepBetter
  have hl := lp (fun n (x : Int32 × Int32) => F_X1_keepBetter_4 n (nI S) x.1 x.2 h) (m 9 4) (fun i => (sumI (fun i => if S.testBit i = true then nI (wo m i) else 0) i, nI i)) (some (if W < woS m S ∨ (woS m S = W ∧ popN S < popN B) then up (up h 46 0 (woS m S)) 46 1 (nI S) else h)) ?_ ?_ fuel 0 (by omega) (by have := fuel_ge; omega)
  · exact hl
  · intro n
    have hp1 := popN_le S
    have hp2 := popN_le B
    show F_X1_keepBetter_4 (n + 1) (nI S) (woS m S) (nI (m 9 4)) h = _
    rw [F_X1_keepBetter_4, h46, if_pos (nle.mp (fun z => by have := (nI_ltI (by omega) (by omega)).mp z; omega)), h1, bc_i h hB, bc_i h hS]
    unfold F_X1_keepBetter_54 F_X1_keepBetter_75
    rw [h0, lt_p, lt_p]
    simp (disch := omega) only [nI_leI]
    by_cases g1 : W < woS m S
    · rw [if_pos (Or.inl g1)]
      simp [g1]
    · by_cases g2 : woS m S = W
      · by_cases g3 : popN B ≤ popN S
        · rw [if_pos g3, if_neg g1, if_pos g2, if_neg (by decide), if_neg (fun z => z.elim g1 (fun z => by have := z.2; omega))]
        · rw [if_neg g3, if_neg g1, if_pos g2, if_pos trivial, if_pos (Or.inr ⟨g2, by omega⟩)]
      · have e : ¬ (W < woS m S ∨ (woS m S = W ∧ popN S < popN B)) := fun z => z.elim g1 (fun z => g2 z.1)
        rw [if_neg e]
        simp [g1, g2]
  · intro n i hi
    show F_X1_keepBetter_4 (n + 1) (nI S) (sumI (fun i => if S.testBit i = true then nI (wo m i) else 0) i) (nI i) h = F_X1_keepBetter_4 n (nI S) (sumI (fun i => if S.testBit i = true then nI (wo m i) else 0) i + (if S.testBit i = true then nI (wo m i) else 0)) (nI (i + 1)) h
    rw [F_X1_keepBetter_4, h46, if_neg (le_no (by omega) (by omega) hi), bit_i (by omega) (by omega)]
    unfold F_X1_keepBetter_29
    cases hbt : S.testBit i with
    | false =>
      rw [if_pos (show (if false = true then (1 : Int32) else 0) = 0 by decide), if_neg (show ¬ (false = true) by decide), nI_1, Int32.add_zero]
    | true =>
      rw [if_neg (show ¬ (if true = true then (1 : Int32) else 0) = 0 by decide), inb_t (by omega) (by omega), if_pos rfl, cl_nI (by omega), h48 i hi, lt_p, nI_1, if_pos rfl]
def okC (m : Tw) (b k S : Nat) : Bool := decide (PK (wc m) (m 9 4) b S / 256 ≤ k)
theorem c_choosing (hw : Wf m) (hr : RCt σ 0 m) {b k : Nat} (hb : b ≤ 200) (hk : k ≤ 3) : ∃ τ, F_X1_choose (nI k) (nI b) σ = some τ ∧ τ.1 46 0 = (bsF m (okC m b k) (2 ^ m 9 4 - 1)).1 ∧ τ.1 46 1 = nI (bsF m (okC m b k) (2 ^ m 9 4 - 1)).2 ∧ (∀ c, ¬ (46 ≤ c ∧ c ≤ 49) → τ.1 c = σ.1 c) ∧ τ.2 = σ.2 := by
  have hn := hw.nd
  have hN : 2 ^ m 9 4 ≤ 2 ^ 10 := Nat.pow_le_pow_right (by omega) hn
  have hN0 := Nat.two_pow_pos (m 9 4)
  unfold F_X1_choose
  obtain ⟨υ, u1, u2, u3, u4, u5⟩ := c_weigh hw hr
  rw [u1, Option.bind_some, lt_p, lt_p, lt_p, show Int32.toNatClampNeg (0 : Int32) = 0 by decide +kernel]
  refine lpI (fun n (x : Int32 × Hp) => F_X1_choose_27 n (nI k) (nI b) x.1 x.2) (2 ^ m 9 4 - 1) (fun d x => x.1 = nI (d + 1) ∧ x.2.1 46 2 = nI (m 9 4) ∧ (∀ i, i < m 9 4 → x.2.1 47 i = nI (wc m i) ∧ x.2.1 48 i = nI (wo m i)) ∧ (∀ T, T < d + 1 → x.2.1 49 T = nI (PK (wc m) (m 9 4) b T)) ∧ x.2.1 46 0 = (bsF m (okC m b k) d).1 ∧ x.2.1 46 1 = nI (bsF m (okC m b k) d).2 ∧ (∀ c, ¬ (46 ≤ c ∧ c ≤ 49) → x.2.1 c = σ.1 c) ∧ x.2.2 = σ.2) (fun o => ∃ τ, o = some τ ∧ τ.1 46 0 = (bsF m (okC m b k) (2 ^ m 9 4 - 1)).1 ∧ τ.1 46 1 = nI (bsF m (okC m b k) (2 ^ m 9 4 - 1)).2 ∧ (∀ c, ¬ (46 ≤ c ∧ c ≤ 49) → τ.1 c = σ.1 c) ∧ τ.2 = σ.2) ?_ ?_ fuel 0 (1, up (up (up υ 46 0 0) 46 1 0) 49 0 256) (by omega) (by have := fuel_ge; omega) ⟨rfl, ?_, ?_, ?_, ?_, ?_, ?_, u5⟩
  · rintro n ⟨x1, h⟩ ⟨i1, i2, i3, i4, i5, i6, i7, i8⟩
    dsimp only at i1 i2 i3 i4 i5 i6 i7 i8 ⊢
    subst i1
    rw [F_X1_choose_27, i2, shl_j (by omega), show 2 ^ m 9 4 - 1 + 1 = 2 ^ m 9 4 by omega, if_pos (nle.mp (fun z => by have := (nI_ltI (by omega) (by omega)).mp z; omega))]
    exact ⟨h, rfl, i5, i6, i7, i8⟩
  · rintro n d ⟨x1, h⟩ hd ⟨i1, i2, i3, i4, i5, i6, i7, i8⟩
    dsimp only at i1 i2 i3 i4 i5 i6 i7 i8 ⊢
    subst i1
    have hPK := PK_nv (w := wc m) (n := m 9 4) (b := b) (d + 1)
    have hbl := bsF_le m (okC m b k) d
    rw [F_X1_choose_27, i2, shl_j (by omega), if_neg (le_no (by omega) (by omega) (by omega)), c_pack hw hb (by omega) (by omega) i2 (fun i hi => (i3 i hi).1) i4, Option.bind_some, inb_t (by omega) (by omega), if_pos rfl, lt_p, if_pos rfl, cl_nI (by omega), up_s, pk_shrN (by omega) _ 8 (by decide)]
    unfold F_X1_choose_72
    rw [c_keepBetter (W := (bsF m (okC m b k) d).1) (B := (bsF m (okC m b k) d).2) hw (by omega) (by omega) (by rw [up_c (by omega)]; exact i2) (by rw [up_c (by omega)]; exact i5) (by rw [up_c (by omega)]; exact i6) (fun i hi => by rw [up_c (by omega)]; exact (i3 i hi).2), Option.bind_some, nI_1]
    have hbs : bsF m (okC m b k) (d + 1) = bsS m (okC m b k) (bsF m (okC m b k) d) (d + 1) := rfl
    have g49 : ∀ T, T < d + 1 + 1 → (up h 49 (d + 1) (nI (PK (wc m) (m 9 4) b (d + 1)))).1 49 T = nI (PK (wc m) (m 9 4) b T) := fun T hT => by
      by_cases e : T = d + 1
      · subst e; rw [up_s]
      · rw [up_k e]; exact i4 T (by omega)
    have keep : okC m b k (d + 1) = false ∨ ¬ ((bsF m (okC m b k) d).1 < woS m (d + 1) ∨ (woS m (d + 1) = (bsF m (okC m b k) d).1 ∧ popN (d + 1) < popN (bsF m (okC m b k) d).2)) → ∃ x' : Int32 × Hp, (x'.1 = nI (d + 1 + 1) ∧ x'.2.1 46 2 = nI (m 9 4) ∧ (∀ i, i < m 9 4 → x'.2.1 47 i = nI (wc m i) ∧ x'.2.1 48 i = nI (wo m i)) ∧ (∀ T, T < d + 1 + 1 → x'.2.1 49 T = nI (PK (wc m) (m 9 4) b T)) ∧ x'.2.1 46 0 = (bsF m (okC m b k) (d + 1)).1 ∧ x'.2.1 46 1 = nI (bsF m (okC m b k) (d + 1)).2 ∧ (∀ c, ¬ (46 ≤ c ∧ c ≤ 49) → x'.2.1 c = σ.1 c) ∧ x'.2.2 = σ.2) ∧ F_X1_choose_27 n (nI k) (nI b) (nI (d + 1 + 1)) (up h 49 (d + 1) (nI (PK (wc m) (m 9 4) b (d + 1)))) = F_X1_choose_27 n (nI k) (nI b) x'.1 x'.2 := by
      intro hno
      have e : bsF m (okC m b k) (d + 1) = bsF m (okC m b k) d := by
        rw [hbs]; unfold bsS
        rw [if_neg (fun z => hno.elim (fun g => by rw [g] at z; cases z.1) (fun g => g z.2))]
      rw [e]
      exact ⟨(_, up h 49 (d + 1) (nI (PK (wc m) (m 9 4) b (d + 1)))), ⟨rfl, by rw [up_c (by omega)]; exact i2, fun i hi => by rw [up_c (by omega), up_c (by omega)]; exact i3 i hi, g49, by rw [up_c (by omega)]; exact i5, by rw [up_c (by omega)]; exact i6, fun c hc => by rw [up_off (by omega)]; exact i7 c hc, i8⟩, rfl⟩
    by_cases hok : PK (wc m) (m 9 4) b (d + 1) / 256 ≤ k
    · rw [if_neg (fun z => by have := (nI_ltI (by omega) (by omega)).mp z; omega)]
      have hokb : okC m b k (d + 1) = true := decide_eq_true hok
      by_cases hbt : (bsF m (okC m b k) d).1 < woS m (d + 1) ∨ (woS m (d + 1) = (bsF m (okC m b k) d).1 ∧ popN (d + 1) < popN (bsF m (okC m b k) d).2)
      · rw [if_pos hbt]
        have e : bsF m (okC m b k) (d + 1) = (woS m (d + 1), d + 1) := by
          rw [hbs]; unfold bsS
          rw [if_pos ⟨hokb, hbt⟩]
        rw [e]
        refine ⟨(nI (d + 1 + 1), up (up (up h 49 (d + 1) (nI (PK (wc m) (m 9 4) b (d + 1)))) 46 0 (woS m (d + 1))) 46 1 (nI (d + 1))), ⟨rfl, ?_, fun i hi => ?_, fun T hT => ?_, ?_, up_s, fun c hc => ?_, i8⟩, rfl⟩
        · dsimp only; rw [up_k (by omega), up_k (by omega), up_c (by omega)]; exact i2
        · dsimp only; rw [up_c (by omega), up_c (by omega), up_c (by omega), up_c (by omega), up_c (by omega), up_c (by omega)]; exact i3 i hi
        · dsimp only; rw [up_c (by omega), up_c (by omega)]; exact g49 T hT
        · dsimp only; rw [up_k (by omega), up_s]
        · dsimp only; rw [up_off (by omega), up_off (by omega), up_off (by omega)]; exact i7 c hc
      · rw [if_neg hbt]
        exact keep (Or.inr hbt)
    · rw [if_pos ((nI_ltI (by omega) (by omega)).mpr (by omega))]
      exact keep (Or.inl (decide_eq_false hok))
  · dsimp only; rw [up_c (by omega), up_k (by omega), up_k (by omega)]; exact u2
  · intro i hi
    dsimp only; rw [up_c (by omega), up_c (by omega), up_c (by omega), up_c (by omega), up_c (by omega), up_c (by omega)]; exact u3 i hi
  · intro T hT
    have : T = 0 := by omega
    subst this
    dsimp only; rw [up_s, PK_0]; decide +kernel
  · dsimp only; rw [up_c (by omega), up_k (by omega), up_s]; rfl
  · dsimp only; rw [up_c (by omega), up_s]; rfl
  · intro c hc
    dsimp only; rw [up_off (by omega), up_off (by omega), up_off (by omega)]; exact u4 c (by omega) (by omega) (by omega)
def slOk (ld : Nat) (k b w : Int32) : Prop := (wn k 1 3 = true ∧ wn b 1 200 = true ∧ wn w 0 1 = true) ∧ ld < 20
def slA (m : Tw) (ld : Nat) (k b w : Int32) : Int32 := if wn k 1 3 = true ∧ wn b 1 200 = true ∧ wn w 0 1 = true then (if ld < 20 then (if w = 0 then (bsF m (okC m b.toNatClampNeg k.toNatClampNeg) (2 ^ m 9 4 - 1)).1 else nI (bsF m (okC m b.toNatClampNeg k.toNatClampNeg) (2 ^ m 9 4 - 1)).2) else -103) else -102
theorem c_sledges (hw : WfG m kp pg pn ld) (hr : RC σ m kp pg pn ld) (k b w : Int32) : ∃ τ, F_X6_sledges k b w σ = some (slA m ld k b w, τ) ∧ (slOk ld k b w → RC τ m kp pg pn (ld + 1)) ∧ (¬ slOk ld k b w → τ = σ) ∧ FrC σ τ := by
  have hld : ld ≤ 20 := hw.2.2.2.2
  unfold F_X6_sledges slA
  rw [c_within, c_within, c_within]
  by_cases h1 : wn k 1 3 = true
  · by_cases h2 : wn b 1 200 = true
    · by_cases h3 : wn w 0 1 = true
      · rw [if_pos h1, if_pos h2, if_pos h3, if_pos (show wn k 1 3 = true ∧ wn b 1 200 = true ∧ wn w 0 1 = true from ⟨h1, h2, h3⟩), hr.2.2.2.1, li20]
        by_cases h4 : ld < 20
        · rw [if_pos ((nI_ltI (by omega) (by omega)).mpr h4), if_pos h4, lt_p, nI_1]
          obtain ⟨k, hk1, hk2, rfl⟩ := wn_nI (a := 1) (b := 3) (by omega) (by omega) h1
          obtain ⟨b, hb1, hb2, rfl⟩ := wn_nI (a := 1) (b := 200) (by omega) (by omega) h2
          rw [cl_nI (by omega), cl_nI (by omega)]
          obtain ⟨τ, t1, t2, t3, t4, t5⟩ := c_choosing (σ := up σ 54 8 (nI (ld + 1))) (b := b) (k := k) hw.1 (hr.1.keep hw.1.nd (fun c hc => up_off (by omega))) hb2 hk2
          rw [t1, Option.bind_some, t2, t3]
          have fr : ∀ c, c ≠ 54 → ¬ (46 ≤ c ∧ c ≤ 49) → τ.1 c = σ.1 c := fun c a b => by rw [t4 c b, up_off a]
          refine ⟨τ, ?_, fun _ => ⟨hr.1.keep hw.1.nd (fun c hc => fr c (by omega) (by omega)), ?_, fun k hk => (hr.2.2.1 k hk).keep (hw.kn k hk) (fun c hc => fr c (by omega) (by omega)), ?_, ?_, fun i hi => ?_, ?_, ?_⟩, fun z => absurd ⟨⟨h1, h2, h3⟩, h4⟩ z, ⟨fun c hc => fr c (by omega) (by omega), t5⟩⟩
          · split <;> rfl
          · rw [t4 54 (by omega), up_k (by omega)]; exact hr.2.1
          · rw [t4 54 (by omega), up_s]
          · rw [fr 39 (by omega) (by omega)]; exact hr.2.2.2.2.1
          · rw [fr 40 (by omega) (by omega)]; exact hr.2.2.2.2.2.1 i hi
          · rw [fr 52 (by omega) (by omega)]; exact hr.2.2.2.2.2.2.1
          · rw [fr 53 (by omega) (by omega)]; exact hr.2.2.2.2.2.2.2
        · rw [if_neg (fun z => h4 ((nI_ltI (by omega) (by omega)).mp z)), if_neg h4]
          exact ⟨σ, rfl, fun z => absurd z.2 h4, fun _ => rfl, FrC.rf⟩
      · rw [if_pos h1, if_pos h2, if_neg h3, if_neg (fun z => h3 z.2.2)]
        exact ⟨σ, rfl, fun z => absurd z.1.2.2 h3, fun _ => rfl, FrC.rf⟩
    · rw [if_pos h1, if_neg h2, if_neg (fun z => h2 z.2.1)]
      exact ⟨σ, rfl, fun z => absurd z.1.2.1 h2, fun _ => rfl, FrC.rf⟩
  · rw [if_neg h1, if_neg (fun z => h1 z.1)]
    exact ⟨σ, rfl, fun z => absurd z.1.1 h1, fun _ => rfl, FrC.rf⟩
theorem w_sledges (hw : WfG m kp pg pn ld) {k b w : Int32} (h : slOk ld k b w) : WfG m kp pg pn (ld + 1) := ⟨hw.1, hw.2.1, hw.2.2.1, hw.2.2.2.1, by have := h.2; omega⟩
end SLC
