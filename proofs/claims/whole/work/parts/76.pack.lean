/-! blocks on sledges: parts of a set -/
theorem sub_iff {A S : Nat} : A &&& S = A ↔ ∀ j, A.testBit j = true → S.testBit j = true := by
  constructor
  · intro h j hj
    rw [← h, Nat.testBit_and, Bool.and_eq_true] at hj
    exact hj.2
  · intro h
    apply Nat.eq_of_testBit_eq
    intro j
    rw [Nat.testBit_and]
    cases ha : A.testBit j with
    | false => rfl
    | true => rw [h j ha]; rfl
theorem sub_xor : ∀ S A : Nat, A &&& S = A → S - A = S ^^^ A := by
  intro S
  induction S using Nat.strongRecOn with
  | _ S ih =>
    intro A h
    rcases Nat.eq_zero_or_pos S with h0 | h0
    · subst h0
      rw [Nat.and_zero] at h
      subst h
      rfl
    · have h2 : (A / 2) &&& (S / 2) = A / 2 := by rw [← Nat.and_div_two, h]
      have hi := ih (S / 2) (by omega) (A / 2) h2
      have e1 : (S ^^^ A) / 2 = S / 2 ^^^ A / 2 := Nat.xor_div_two
      have e2 : (S ^^^ A) % 2 = (S + A) % 2 := by
        have hb0 : (S ^^^ A).testBit 0 = Bool.xor (S.testBit 0) (A.testBit 0) := Nat.testBit_xor ..
        rw [Nat.testBit_zero, Nat.testBit_zero, Nat.testBit_zero] at hb0
        by_cases s1 : S % 2 = 1
        · by_cases a1 : A % 2 = 1
          · rw [decide_eq_true s1, decide_eq_true a1] at hb0
            have := of_decide_eq_false hb0; omega
          · rw [decide_eq_true s1, decide_eq_false a1] at hb0
            have := of_decide_eq_true hb0; omega
        · by_cases a1 : A % 2 = 1
          · rw [decide_eq_false s1, decide_eq_true a1] at hb0
            have := of_decide_eq_true hb0; omega
          · rw [decide_eq_false s1, decide_eq_false a1] at hb0
            have := of_decide_eq_false hb0; omega
      have hle := sub_le h2
      have h3 : A % 2 ≤ S % 2 := by
        have hb := sub_iff.mp h 0
        rw [Nat.testBit_zero, Nat.testBit_zero, decide_eq_true_eq, decide_eq_true_eq] at hb
        omega
      omega
theorem tb_sub {A S : Nat} (h : A &&& S = A) (j : Nat) : (S - A).testBit j = (S.testBit j && !A.testBit j) := by
  rw [sub_xor S A h, Nat.testBit_xor]
  have := sub_iff.mp h j
  cases hA : A.testBit j with
  | false => simp
  | true => rw [this hA]; rfl
theorem sub_co {A S : Nat} (h : A &&& S = A) : (S - A) &&& S = S - A := sub_iff.mpr (fun j hj => by
  rw [tb_sub h, Bool.and_eq_true] at hj
  exact hj.1)
theorem pw_sub {i S : Nat} (h : S.testBit i = true) : 2 ^ i &&& S = 2 ^ i := sub_iff.mpr (fun j hj => by
  rw [Nat.testBit_two_pow, decide_eq_true_eq] at hj
  rw [← hj]; exact h)
theorem sumN_congr {f g : Nat → Nat} : ∀ {n : Nat}, (∀ i, i < n → f i = g i) → sumN f n = sumN g n
  | 0, _ => rfl
  | n + 1, h => by
    show sumN f n + f n = sumN g n + g n
    rw [sumN_congr (fun i hi => h i (by omega)), h n (by omega)]
theorem sumN_add (f g : Nat → Nat) : ∀ n : Nat, sumN (fun i => f i + g i) n = sumN f n + sumN g n
  | 0 => rfl
  | n + 1 => by
    show sumN _ n + (f n + g n) = (sumN f n + f n) + (sumN g n + g n)
    rw [sumN_add f g n]; omega
theorem sumN_one (w p : Nat) : ∀ n, sumN (fun q => if q = p then w else 0) n = if p < n then w else 0
  | 0 => by simp [sumN]
  | n + 1 => by
    show sumN _ n + _ = _
    rw [sumN_one w p n]
    by_cases h : n = p
    · subst h; simp
    · by_cases h2 : p < n
      · have : p < n + 1 := by omega
        simp [h, h2, this]
      · have : ¬ p < n + 1 := by omega
        simp [h, h2, this]
theorem sumN_z : ∀ n : Nat, sumN (fun _ => 0) n = 0
  | 0 => rfl
  | n + 1 => by show sumN _ n + 0 = 0; rw [sumN_z n]
/-- the weight of a set -/
def wt (w : Nat → Nat) (n S : Nat) : Nat := sumN (fun i => if S.testBit i = true then w i else 0) n
theorem wt_0 (w : Nat → Nat) (n : Nat) : wt w n 0 = 0 := by
  unfold wt
  rw [sumN_congr (g := fun _ => 0) (fun i _ => by simp), sumN_z]
theorem wt_add (w : Nat → Nat) (n : Nat) {A S : Nat} (h : A &&& S = A) : wt w n S = wt w n A + wt w n (S - A) := by
  unfold wt
  rw [← sumN_add]
  apply sumN_congr
  intro i _
  rw [tb_sub h]
  have := sub_iff.mp h i
  cases hA : A.testBit i with
  | false => simp
  | true => rw [this hA]; simp
theorem wt_pw (w : Nat → Nat) {n i : Nat} (hi : i < n) : wt w n (2 ^ i) = w i := by
  unfold wt
  rw [sumN_congr (g := fun q => if q = i then w i else 0), sumN_one, if_pos hi]
  intro j _
  rw [Nat.testBit_two_pow]
  by_cases e : j = i
  · subst e; simp
  · have : ¬ i = j := fun z => e z.symm
    simp [e, this]
theorem wt_ge (w : Nat → Nat) {n i S : Nat} (hi : i < n) (h : S.testBit i = true) : w i ≤ wt w n S := by
  rw [wt_add w n (pw_sub h), wt_pw w hi]; omega
/-- a set goes on k sledges -/
def Pt (w : Nat → Nat) (n b : Nat) : Nat → Nat → Prop
  | 0, S => S = 0
  | k + 1, S => ∃ A, A &&& S = A ∧ wt w n A ≤ b ∧ Pt w n b k (S - A)
section PK
variable {w : Nat → Nat} {n b : Nat}
theorem Pt_s {k S : Nat} (h : Pt w n b k S) : Pt w n b (k + 1) S := ⟨0, Nat.zero_and S, by rw [wt_0]; omega, h⟩
theorem Pt_m {k l S : Nat} (h : Pt w n b k S) (hkl : k ≤ l) : Pt w n b l S := by
  induction l with
  | zero => have : k = 0 := by omega
            subst this; exact h
  | succ l ih =>
    by_cases e : k = l + 1
    · subst e; exact h
    · exact Pt_s (ih (by omega))
theorem Pt_1 {S : Nat} : Pt w n b 1 S ↔ wt w n S ≤ b := by
  constructor
  · rintro ⟨A, h1, h2, h3⟩
    have h3' : S - A = 0 := h3
    have := sub_le h1
    rw [show S = A by omega]; exact h2
  · intro h
    exact ⟨S, Nat.and_self S, h, by show S - S = 0; omega⟩
/-- the least of a row -/
def mn (f : Nat → Nat) : Nat → Nat
  | 0 => 1048576
  | n + 1 => min (mn f n) (f n)
theorem mn_le {f : Nat → Nat} {p : Nat} : ∀ {n}, p < n → mn f n ≤ f p
  | 0, h => absurd h (by omega)
  | n + 1, h => by
    show min (mn f n) (f n) ≤ f p
    by_cases e : p = n
    · subst e; exact Nat.min_le_right _ _
    · exact Nat.le_trans (Nat.min_le_left _ _) (mn_le (n := n) (by omega))
theorem mn_nv (f : Nat → Nat) : ∀ n, mn f n ≤ 1048576
  | 0 => Nat.le_refl _
  | n + 1 => Nat.le_trans (Nat.min_le_left _ _) (mn_nv f n)
theorem mn_at (f : Nat → Nat) : ∀ n, mn f n = 1048576 ∨ ∃ p, p < n ∧ mn f n = f p
  | 0 => Or.inl rfl
  | n + 1 => by
    show min (mn f n) (f n) = 1048576 ∨ ∃ p, p < n + 1 ∧ min (mn f n) (f n) = f p
    by_cases h : mn f n ≤ f n
    · rw [Nat.min_eq_left h]
      rcases mn_at f n with h1 | ⟨p, h1, h2⟩
      · exact Or.inl h1
      · exact Or.inr ⟨p, by omega, h2⟩
    · rw [Nat.min_eq_right (by omega)]; exact Or.inr ⟨n, by omega, rfl⟩
def lay (b v x : Nat) : Nat := if v = 1048576 then 1048576 else if x ≤ b then (if b < v % 256 + x then (v / 256 + 1) * 256 + x else v + x) else 1048576
def PK (w : Nat → Nat) (n b S : Nat) : Nat := if h : S = 0 then 256 else mn (fun i => if S.testBit i = true then lay b (PK w n b (S - 2 ^ i)) (w i) else 1048576) n
termination_by S
decreasing_by exact Nat.sub_lt (Nat.pos_of_ne_zero h) (Nat.two_pow_pos i)
theorem PK_0 : PK w n b 0 = 256 := by rw [PK]; simp
theorem PK_e {S : Nat} (h : S ≠ 0) : PK w n b S = mn (fun i => if S.testBit i = true then lay b (PK w n b (S - 2 ^ i)) (w i) else 1048576) n := by
  rw [PK, dif_neg h]
theorem PK_nv (S : Nat) : PK w n b S ≤ 1048576 := by
  by_cases h : S = 0
  · rw [h, PK_0]; omega
  · rw [PK_e h]; exact mn_nv _ _
theorem PK_sound (hb : b ≤ 200) : ∀ S, PK w n b S ≠ 1048576 → ∃ A, A &&& S = A ∧ wt w n A = PK w n b S % 256 ∧ wt w n A ≤ b ∧ 1 ≤ PK w n b S / 256 ∧ Pt w n b (PK w n b S / 256 - 1) (S - A) := by
  intro S
  induction S using Nat.strongRecOn with
  | _ S ih =>
    intro hS
    by_cases h0 : S = 0
    · subst h0
      refine ⟨0, rfl, ?_, ?_, ?_, ?_⟩
      · rw [PK_0, wt_0]
      · rw [wt_0]; omega
      · rw [PK_0]; omega
      · rw [PK_0]; rfl
    · rcases mn_at (fun i => if S.testBit i = true then lay b (PK w n b (S - 2 ^ i)) (w i) else 1048576) n with e | ⟨i, hi, e⟩
      · rw [← PK_e h0] at e; exact absurd e hS
      · rw [← PK_e h0] at e
        by_cases hbit : S.testBit i = true
        · rw [if_pos hbit] at e
          have hpos := Nat.two_pow_pos i
          have hps := pw_sub hbit
          have hle := sub_le hps
          have hnv : PK w n b (S - 2 ^ i) ≠ 1048576 := by
            intro z
            rw [z] at e
            exact hS (by rw [e]; unfold lay; rw [if_pos rfl])
          obtain ⟨A, a1, a2, a3, a4, a5⟩ := ih (S - 2 ^ i) (by omega) hnv
          have hwb : w i ≤ b := by
            by_cases g : w i ≤ b
            · exact g
            · exact absurd (show PK w n b S = 1048576 by rw [e]; unfold lay; rw [if_neg hnv, if_neg g]) hS
          unfold lay at e
          rw [if_neg hnv, if_pos hwb] at e
          by_cases g : b < PK w n b (S - 2 ^ i) % 256 + w i
          · rw [if_pos g] at e
            rw [e]
            have d1 : ((PK w n b (S - 2 ^ i) / 256 + 1) * 256 + w i) % 256 = w i := by omega
            have d2 : ((PK w n b (S - 2 ^ i) / 256 + 1) * 256 + w i) / 256 = PK w n b (S - 2 ^ i) / 256 + 1 := by omega
            rw [d1, d2]
            refine ⟨2 ^ i, hps, wt_pw w hi, by rw [wt_pw w hi]; exact hwb, by omega, ?_⟩
            rw [Nat.add_sub_cancel]
            have : Pt w n b (PK w n b (S - 2 ^ i) / 256 - 1 + 1) (S - 2 ^ i) := ⟨A, a1, a3, a5⟩
            rw [show PK w n b (S - 2 ^ i) / 256 - 1 + 1 = PK w n b (S - 2 ^ i) / 256 by omega] at this
            exact this
          · rw [if_neg g] at e
            rw [e]
            have d1 : (PK w n b (S - 2 ^ i) + w i) % 256 = PK w n b (S - 2 ^ i) % 256 + w i := by omega
            have d2 : (PK w n b (S - 2 ^ i) + w i) / 256 = PK w n b (S - 2 ^ i) / 256 := by omega
            rw [d1, d2]
            -- the part with the block
            have hAi : A.testBit i = false := by
              cases hA : A.testBit i with
              | false => rfl
              | true =>
                have := sub_iff.mp a1 i hA
                rw [tb_sub hps, Nat.testBit_two_pow_self] at this
                simp at this
            have x1 : 2 ^ i &&& (A ||| 2 ^ i) = 2 ^ i := pw_sub (by rw [Nat.testBit_or, Nat.testBit_two_pow_self]; simp)
            have x2 : (A ||| 2 ^ i) - 2 ^ i = A := by
              apply Nat.eq_of_testBit_eq
              intro j
              rw [tb_sub x1, Nat.testBit_or, Nat.testBit_two_pow]
              by_cases ej : i = j
              · subst ej; rw [hAi]; simp
              · simp [ej]
            have x3 := sub_le x1
            have x4 : (A ||| 2 ^ i) &&& S = A ||| 2 ^ i := sub_iff.mpr (fun j hj => by
              rw [Nat.testBit_or, Bool.or_eq_true] at hj
              rcases hj with hj | hj
              · have := sub_iff.mp a1 j hj
                rw [tb_sub hps, Bool.and_eq_true] at this
                exact this.1
              · exact sub_iff.mp hps j hj)
            have x5 : wt w n (A ||| 2 ^ i) = w i + wt w n A := by rw [wt_add w n x1, wt_pw w hi, x2]
            refine ⟨A ||| 2 ^ i, x4, by rw [x5, a2]; omega, by rw [x5]; omega, a4, ?_⟩
            rw [show S - (A ||| 2 ^ i) = S - 2 ^ i - A by omega]
            exact a5
        · rw [if_neg hbit] at e; exact absurd e hS
theorem bit_lt {S i : Nat} (hS : S < 2 ^ n) (h : S.testBit i = true) : i < n := by
  by_cases e : i < n
  · exact e
  · have h1 := Nat.testBit_lt_two_pow (Nat.lt_of_lt_of_le hS (Nat.pow_le_pow_right (by omega) (Nat.not_lt.mp e)))
    rw [h1] at h; cases h
theorem PK_compl (hb : b ≤ 200) : ∀ c, c ≤ 3 → ∀ S, S < 2 ^ n → ∀ A, A &&& S = A → wt w n A ≤ b → Pt w n b c (S - A) → PK w n b S ≤ 256 * (c + 1) + wt w n A := by
  intro c
  induction c with
  | zero =>
    intro _
    -- all lies on one sledge
    have key : ∀ S, S < 2 ^ n → wt w n S ≤ b → PK w n b S ≤ 256 + wt w n S := by
      intro S
      induction S using Nat.strongRecOn with
      | _ S ih =>
        intro hS hw
        by_cases h0 : S = 0
        · subst h0; rw [PK_0]; omega
        · obtain ⟨i, hi⟩ : ∃ i, S.testBit i = true := Nat.exists_testBit_of_ne_zero h0
          have hin := bit_lt hS hi
          have hps := pw_sub hi
          have hle := sub_le hps
          have hpos := Nat.two_pow_pos i
          have hwa := wt_add w n hps
          rw [wt_pw w hin] at hwa
          have h1 := ih (S - 2 ^ i) (by omega) (by omega) (by omega)
          rw [PK_e h0]
          refine Nat.le_trans (mn_le hin) ?_
          rw [if_pos hi]
          unfold lay
          generalize PK w n b (S - 2 ^ i) = v at h1 ⊢
          rw [if_neg (by omega), if_pos (by omega)]
          split <;> omega
    intro S hS A hA hw hP
    have hP' : S - A = 0 := hP
    have := sub_le hA
    have e : S = A := by omega
    subst e
    have := key S hS hw
    omega
  | succ c ihc =>
    intro hc S
    induction S using Nat.strongRecOn with
    | _ S ih =>
      intro hS A hA hw hP
      by_cases hA0 : A = 0
      · subst hA0
        obtain ⟨A1, p1, p2, p3⟩ := hP
        rw [Nat.sub_zero] at p1 p3
        have := ihc (by omega) S hS A1 p1 p2 p3
        omega
      · obtain ⟨i, hi⟩ : ∃ i, A.testBit i = true := Nat.exists_testBit_of_ne_zero hA0
        have hiS := sub_iff.mp hA i hi
        have hin := bit_lt hS hiS
        have hps := pw_sub hiS
        have hpa := pw_sub hi
        have hle := sub_le hps
        have hle2 := sub_le hpa
        have hAS := sub_le hA
        have hpos := Nat.two_pow_pos i
        have hwa := wt_add w n hpa
        rw [wt_pw w hin] at hwa
        have hsub : (A - 2 ^ i) &&& (S - 2 ^ i) = A - 2 ^ i := sub_iff.mpr (fun j hj => by
          rw [tb_sub hpa, Bool.and_eq_true] at hj
          rw [tb_sub hps, sub_iff.mp hA j hj.1, hj.2]; rfl)
        have h1 := ih (S - 2 ^ i) (by omega) (by omega) (A - 2 ^ i) hsub (by omega) (by rw [show S - 2 ^ i - (A - 2 ^ i) = S - A by omega]; exact hP)
        rw [PK_e (by omega)]
        refine Nat.le_trans (mn_le hin) ?_
        rw [if_pos hiS]
        unfold lay
        generalize PK w n b (S - 2 ^ i) = v at h1 ⊢
        generalize wt w n (A - 2 ^ i) = l at h1 hwa
        rw [if_neg (by omega), if_pos (by omega)]
        split <;> omega
theorem PK_iff (hb : b ≤ 200) {k S : Nat} (hk : 1 ≤ k) (hk3 : k ≤ 3) (hS : S < 2 ^ n) : PK w n b S / 256 ≤ k ↔ Pt w n b k S := by
  constructor
  · intro h
    have hnv : PK w n b S ≠ 1048576 := by intro z; rw [z] at h; omega
    obtain ⟨A, a1, a2, a3, a4, a5⟩ := PK_sound hb S hnv
    have : Pt w n b (PK w n b S / 256 - 1 + 1) S := ⟨A, a1, a3, a5⟩
    exact Pt_m this (by omega)
  · intro h
    obtain ⟨c, rfl⟩ : ∃ c, k = c + 1 := ⟨k - 1, by omega⟩
    obtain ⟨A, a1, a2, a3⟩ := h
    have := PK_compl hb c (by omega) S hS A a1 a2 a3
    omega
/-- blocks that aren't there lie on no sledge -/
theorem Pt_there {w' : Nat → Nat} {th : Nat → Bool} (hw : ∀ i, i < n → w' i = if th i = true then w i else 201) (hb : b ≤ 200) : ∀ k S, S < 2 ^ n → (Pt w' n b k S ↔ ((∀ i, i < n → S.testBit i = true → th i = true) ∧ Pt w n b k S)) := by
  intro k
  induction k with
  | zero =>
    intro S hS
    constructor
    · intro h
      have h' : S = 0 := h
      subst h'
      exact ⟨fun i _ hi => by simp at hi, rfl⟩
    · exact fun h => h.2
  | succ k ih =>
    intro S hS
    have weq : ∀ A, (∀ i, i < n → A.testBit i = true → th i = true) → wt w' n A = wt w n A := by
      intro A hA
      unfold wt
      apply sumN_congr
      intro i hi
      cases hb : A.testBit i with
      | false => simp
      | true => rw [if_pos rfl, if_pos rfl, hw i hi, if_pos (hA i hi hb)]
    constructor
    · rintro ⟨A, a1, a2, a3⟩
      have hAS := sub_le a1
      obtain ⟨b1, b2⟩ := (ih (S - A) (by omega)).mp a3
      have hA : ∀ i, i < n → A.testBit i = true → th i = true := by
        intro i hi hbit
        cases ht : th i with
        | true => rfl
        | false =>
          have h1 := wt_ge w' hi hbit
          rw [hw i hi, ht, if_neg (by decide)] at h1
          omega
      refine ⟨fun i hi hbit => ?_, A, a1, by rw [← weq A hA]; exact a2, b2⟩
      cases hAi : A.testBit i with
      | true => exact hA i hi hAi
      | false => exact b1 i hi (by rw [tb_sub a1, hbit, hAi]; rfl)
    · rintro ⟨h1, A, a1, a2, a3⟩
      have hAS := sub_le a1
      have hA : ∀ i, i < n → A.testBit i = true → th i = true := fun i hi hbit => h1 i hi (sub_iff.mp a1 i hbit)
      refine ⟨A, a1, by rw [weq A hA]; exact a2, (ih (S - A) (by omega)).mpr ⟨fun i hi hbit => h1 i hi (sub_iff.mp (sub_co a1) i hbit), a3⟩⟩
end PK
