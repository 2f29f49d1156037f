/-! sledges of the reference -/
theorem sumI_nI (f : Nat → Nat) : ∀ n, sumI (fun i => nI (f i)) n = nI (sumN f n)
  | 0 => rfl
  | n + 1 => by
    show sumI _ n + nI (f n) = nI (sumN f n + f n)
    rw [sumI_nI f n, nI_add]
theorem sumN_le {f : Nat → Nat} {M : Nat} : ∀ {n}, (∀ i, i < n → f i ≤ M) → sumN f n ≤ n * M
  | 0, _ => by show 0 ≤ 0 * M; omega
  | n + 1, h => by
    have h1 := sumN_le (n := n) (fun i hi => h i (by omega))
    have h2 := h n (by omega)
    have h3 : (n + 1) * M = n * M + M := Nat.succ_mul n M
    show sumN f n + f n ≤ (n + 1) * M
    omega
theorem up_same (h : Hp) (c k : Nat) : up h c k (h.1 c k) = h := by
  unfold up
  refine Prod.ext ?_ rfl
  funext c' k'
  by_cases e : c' = c ∧ k' = k
  · rw [e.1, e.2]; simp
  · simp only [e, if_false]
def wr (m : Tw) (i : Nat) : Nat := m 0 (m 2 i)
/-- what a row of fits tells after pass s -/
def FitV (w : Nat → Nat) (n b s : Nat) (x : Int32) (S : Nat) : Prop := (x = 1 ∧ Pt w n b 1 S) ∨ (x = 2 ∧ 2 ≤ s ∧ ¬ Pt w n b 1 S ∧ Pt w n b 2 S) ∨ (x = 3 ∧ 3 ≤ s ∧ ¬ Pt w n b 2 S ∧ Pt w n b 3 S) ∨ (x = 9 ∧ ¬ Pt w n b s S)
section FV
variable {w : Nat → Nat} {n b s : Nat} {x : Int32} {S : Nat}
theorem FitV_1 (hs : 1 ≤ s) (h : FitV w n b s x S) : x = 1 ↔ Pt w n b 1 S := by
  rcases h with ⟨rfl, h⟩ | ⟨rfl, h1, h2, h3⟩ | ⟨rfl, h1, h2, h3⟩ | ⟨rfl, h1⟩
  · exact ⟨fun _ => h, fun _ => rfl⟩
  · exact ⟨fun z => absurd z (by decide), fun z => absurd z h2⟩
  · exact ⟨fun z => absurd z (by decide), fun z => absurd (Pt_s z) h2⟩
  · exact ⟨fun z => absurd z (by decide), fun z => absurd (Pt_m z hs) h1⟩
theorem FitV_2 (h : FitV w n b 3 x S) : x = 2 ↔ (Pt w n b 2 S ∧ ¬ Pt w n b 1 S) := by
  rcases h with ⟨rfl, h⟩ | ⟨rfl, h1, h2, h3⟩ | ⟨rfl, h1, h2, h3⟩ | ⟨rfl, h1⟩
  · exact ⟨fun z => absurd z (by decide), fun z => absurd h z.2⟩
  · exact ⟨fun _ => ⟨h3, h2⟩, fun _ => rfl⟩
  · exact ⟨fun z => absurd z (by decide), fun z => absurd z.1 h2⟩
  · exact ⟨fun z => absurd z (by decide), fun z => absurd (Pt_s z.1) h1⟩
theorem FitV_9 (hs : 1 ≤ s) (h : FitV w n b s x S) (h9 : x = 9) : ¬ Pt w n b s S := by
  rcases h with ⟨rfl, h⟩ | ⟨rfl, h1, h2, h3⟩ | ⟨rfl, h1, h2, h3⟩ | ⟨rfl, h1⟩
  · exact absurd h9 (by decide)
  · exact absurd h9 (by decide)
  · exact absurd h9 (by decide)
  · exact h1
theorem FitV_up (h : FitV w n b s x S) (h9 : ¬ x = 9) : FitV w n b (s + 1) x S := by
  rcases h with h | ⟨h0, h1, h2, h3⟩ | ⟨h0, h1, h2, h3⟩ | ⟨h0, h1⟩
  · exact Or.inl h
  · exact Or.inr (Or.inl ⟨h0, by omega, h2, h3⟩)
  · exact Or.inr (Or.inr (Or.inl ⟨h0, by omega, h2, h3⟩))
  · exact absurd h0 h9
theorem FitV_k {k : Nat} (hk : 1 ≤ k) (hk3 : k ≤ 3) (h : FitV w n b 3 x S) : x ≤ nI k ↔ Pt w n b k S := by
  have hk' : k = 1 ∨ k = 2 ∨ k = 3 := by omega
  rcases h with ⟨rfl, h⟩ | ⟨rfl, h1, h2, h3⟩ | ⟨rfl, h1, h2, h3⟩ | ⟨rfl, h1⟩
  · exact ⟨fun _ => Pt_m h hk, fun _ => by rcases hk' with rfl | rfl | rfl <;> decide +kernel⟩
  · rcases hk' with rfl | rfl | rfl
    · exact ⟨fun z => absurd z (by decide +kernel), fun z => absurd z h2⟩
    · exact ⟨fun _ => h3, fun _ => by decide +kernel⟩
    · exact ⟨fun _ => Pt_s h3, fun _ => by decide +kernel⟩
  · rcases hk' with rfl | rfl | rfl
    · exact ⟨fun z => absurd z (by decide +kernel), fun z => absurd (Pt_s z) h2⟩
    · exact ⟨fun z => absurd z (by decide +kernel), fun z => absurd z h2⟩
    · exact ⟨fun _ => h3, fun _ => by decide +kernel⟩
  · rcases hk' with rfl | rfl | rfl
    · exact ⟨fun z => absurd z (by decide +kernel), fun z => absurd (Pt_m z (by omega)) h1⟩
    · exact ⟨fun z => absurd z (by decide +kernel), fun z => absurd (Pt_m z (by omega)) h1⟩
    · exact ⟨fun z => absurd z (by decide +kernel), fun z => absurd z h1⟩
end FV
section SLR
variable {σ : Hp} {m : Tw} {kp : Option Tw} {pg : Nat → Nat} {pn ld lk : Nat}
theorem r_weightOf {h : Hp} {S : Nat} (hw : Wf m) (hr : RMc h m) (hS : S < 1024) : F_X7_weightOf (nI S) h = some (nI (wt (wr m) (m 9 4) S)) := by
  have hn := hw.nd
  have hs := hw.sq
  unfold F_X7_weightOf
  have hl := lp (fun n (x : Int32 × Int32) => F_X7_weightOf_4 h n (nI S) x.1 x.2) (m 9 4) (fun i => (nI (sumN (fun i => if S.testBit i = true then wr m i else 0) i), nI i)) (some (nI (wt (wr m) (m 9 4) S))) ?_ ?_ fuel 0 (by omega) (by have := fuel_ge; omega)
  · exact hl
  · intro n
    show F_X7_weightOf_4 h (n + 1) (nI S) (nI (wt (wr m) (m 9 4) S)) (nI (m 9 4)) = _
    rw [F_X7_weightOf_4, hr.2.2.2.1, if_pos (nle.mp (fun z => by have := (nI_ltI (by omega) (by omega)).mp z; omega))]
  · intro n i hi
    obtain ⟨⟨a0, a1, -⟩, -, -⟩ := hr.2.2.2.2.2.2 i hi
    obtain ⟨w1, w2, -⟩ := hw.d hi
    have hic := hr.2.2.2.2.1 _ w2
    show F_X7_weightOf_4 h (n + 1) (nI S) (nI (sumN (fun i => if S.testBit i = true then wr m i else 0) i)) (nI i) = F_X7_weightOf_4 h n (nI S) (nI (sumN (fun i => if S.testBit i = true then wr m i else 0) i + (if S.testBit i = true then wr m i else 0))) (nI (i + 1))
    rw [F_X7_weightOf_4, hr.2.2.2.1, if_neg (le_no (by omega) (by omega) hi), bit_i (by omega) (by omega)]
    unfold F_X7_weightOf_42
    cases hbt : S.testBit i with
    | true =>
      rw [if_pos (show (if true = true then (1 : Int32) else 0) = 1 by decide), if_pos rfl, li1, ix8 (by omega) (by omega), inb_t (by omega) (by omega), if_pos rfl, cl_nI (by omega), a1, inb_t (by omega) (by omega), if_pos rfl, cl_nI (by omega), hic, lt_p, nI_add, nI_add]
      rfl
    | false =>
      rw [if_neg (show ¬ (if false = true then (1 : Int32) else 0) = 1 by decide), if_neg (show ¬ (false = true) by decide), lt_p, nI_1, Int32.add_zero]
      rfl
theorem wr_le (hw : Wf m) (S : Nat) : wt (wr m) (m 9 4) S ≤ 990 := by
  have hn := hw.nd
  have h1 : wt (wr m) (m 9 4) S ≤ m 9 4 * 99 := sumN_le (fun i hi => by
    obtain ⟨w1, w2, -⟩ := hw.d hi
    have := hw.ic w2
    unfold wr
    split <;> omega)
  omega
/-- what a laying may change -/
def FrF (σ τ : Hp) : Prop := ∀ c, c ≠ 62 → τ.1 c = σ.1 c
theorem FrF.RMc {τ : Hp} (h : FrF σ τ) (hr : RMc σ m) : RMc τ m := hr.congr (by rw [h 55 (by omega)]) (by rw [h 55 (by omega)]) (by rw [h 55 (by omega)]) (by rw [h 55 (by omega)]) (h 56 (by omega)) (h 57 (by omega)) (h 58 (by omega))
theorem r_pass1 (hw : Wf m) (hr : RMc σ m) {b : Nat} (hb : b ≤ 200) : ∃ h1, F_X7_layFits (nI b) σ = F_X7_layFits_43 fuel (nI (2 ^ m 9 4)) 2 h1 ∧ (∀ T, T < 2 ^ m 9 4 → FitV (wr m) (m 9 4) b 1 (h1.1 62 T) T) ∧ FrF σ h1 := by
  have hn := hw.nd
  have hN : 2 ^ m 9 4 ≤ 2 ^ 10 := Nat.pow_le_pow_right (by omega) hn
  have hN0 := Nat.two_pow_pos (m 9 4)
  unfold F_X7_layFits
  rw [hr.2.2.2.1, shl_j (by omega), lt_p]
  refine lpI (fun n (x : Int32 × Hp) => F_X7_layFits_9 n (nI b) (nI (2 ^ m 9 4)) x.1 x.2) (2 ^ m 9 4) (fun d x => x.1 = nI d ∧ (∀ T, T < d → FitV (wr m) (m 9 4) b 1 (x.2.1 62 T) T) ∧ FrF σ x.2) (fun o => ∃ h1, o = F_X7_layFits_43 fuel (nI (2 ^ m 9 4)) 2 h1 ∧ (∀ T, T < 2 ^ m 9 4 → FitV (wr m) (m 9 4) b 1 (h1.1 62 T) T) ∧ FrF σ h1) ?_ ?_ fuel 0 (0, σ) (by omega) (by have := fuel_ge; omega) ⟨rfl, fun T hT => absurd hT (by omega), fun _ _ => rfl⟩
  · rintro n ⟨x1, h⟩ ⟨i1, i2, i3⟩
    dsimp only at i1 i2 i3 ⊢
    subst i1
    rw [F_X7_layFits_9, if_pos (nle.mp (fun z => by have := (nI_ltI (by omega) (by omega)).mp z; omega))]
    exact ⟨h, rfl, i2, i3⟩
  · rintro n d ⟨x1, h⟩ hd ⟨i1, i2, i3⟩
    dsimp only at i1 i2 i3 ⊢
    subst i1
    have hwl := wr_le hw d
    rw [F_X7_layFits_9, if_neg (le_no (by omega) (by omega) hd), r_weightOf hw (i3.RMc hr) (by omega), Option.bind_some]
    unfold F_X7_layFits_34
    rw [inb_t (by omega) (by omega), if_pos rfl, cl_nI (by omega), lt_p, nI_1, if_pos rfl, lt_p]
    have fin : ∀ v, FitV (wr m) (m 9 4) b 1 v d → ∃ x' : Int32 × Hp, (x'.1 = nI (d + 1) ∧ (∀ T, T < d + 1 → FitV (wr m) (m 9 4) b 1 (x'.2.1 62 T) T) ∧ FrF σ x'.2) ∧ F_X7_layFits_9 n (nI b) (nI (2 ^ m 9 4)) (nI (d + 1)) (up h 62 d v) = F_X7_layFits_9 n (nI b) (nI (2 ^ m 9 4)) x'.1 x'.2 := by
      intro v hv
      refine ⟨(nI (d + 1), up h 62 d v), ⟨rfl, fun T hT => ?_, fun c hc => by rw [up_off hc]; exact i3 c hc⟩, rfl⟩
      by_cases e : T = d
      · subst e; rw [up_s]; exact hv
      · rw [up_k e]; exact i2 T (by omega)
    by_cases g : b < wt (wr m) (m 9 4) d
    · rw [if_pos ((nI_ltI (by omega) (by omega)).mpr g)]
      exact fin _ (Or.inr (Or.inr (Or.inr ⟨rfl, fun z => by have := Pt_1.mp z; omega⟩)))
    · rw [if_neg (fun z => g ((nI_ltI (by omega) (by omega)).mp z))]
      exact fin _ (Or.inl ⟨rfl, Pt_1.mpr (by omega)⟩)
theorem r_fit {w : Nat → Nat} {nn b s : Nat} {h : Hp} {S : Nat} (K : Int32 → Int32 → Int32 → Hp → Option Hp) (N : Int32) (hs : s = 2 ∨ s = 3) (hS : S < 1024) (h1 : ∀ T, T < S → FitV w nn b s (h.1 62 T) T) (h2 : FitV w nn b (s - 1) (h.1 62 S) S) : ∃ x', FitV w nn b s x' S ∧ F_X7_layFits_61 K fuel N (nI s) (nI S) (nI S) h = K N (nI s) (nI (S + 1)) (up h 62 S x') := by
  have hf := fuel_ge
  by_cases h9 : h.1 62 S = 9
  · have hnP := FitV_9 (by omega) h2 h9
    have key : ∀ A n, A &&& S = A → A < n → (∀ B, B &&& S = B → 0 < B → A < B → ¬ (h.1 62 B = 1 ∧ h.1 62 (S - B) = nI (s - 1))) → ∃ x', FitV w nn b s x' S ∧ F_X7_layFits_61 K n N (nI s) (nI S) (nI A) h = K N (nI s) (nI (S + 1)) (up h 62 S x') := by
      intro A
      induction A using Nat.strongRecOn with
      | _ A ih =>
        intro n hA hn hB
        obtain ⟨n, rfl⟩ : ∃ k, n = k + 1 := ⟨n - 1, by omega⟩
        have hAS := sub_le hA
        rw [F_X7_layFits_61]
        unfold F_X7_layFits_147
        by_cases h0 : A = 0
        · subst h0
          rw [if_pos (by decide +kernel), nI_1]
          refine ⟨9, Or.inr (Or.inr (Or.inr ⟨rfl, fun hP => ?_⟩)), by rw [← h9, up_same]⟩
          obtain ⟨t, rfl⟩ : ∃ t, s = t + 1 := ⟨s - 1, by omega⟩
          rw [Nat.add_sub_cancel] at hnP hB
          obtain ⟨A, a1, a2, a3⟩ := hP
          have hle := sub_le a1
          have hA0 : A ≠ 0 := by
            intro z; subst z
            exact hnP (by rw [Nat.sub_zero] at a3; exact a3)
          have hAS : A ≠ S := by
            intro z; subst z
            exact hnP (Pt_m (Pt_1.mpr a2) (by omega))
          refine hB A a1 (by omega) (by omega) ⟨(FitV_1 (by omega) (h1 A (by omega))).mpr (Pt_1.mpr a2), ?_⟩
          rcases hs with e | e
          · have : t = 1 := by omega
            subst this
            exact (FitV_1 (by omega) (h1 (S - A) (by omega))).mpr a3
          · have : t = 2 := by omega
            subst this
            exact (FitV_2 (h1 (S - A) (by omega))).mpr ⟨a3, fun z => hnP ⟨A, a1, a2, z⟩⟩
        · rw [if_neg (show ¬ nI A ≤ 0 from le_no (b := 0) (by omega) (by omega) (by omega)), inb_t hS (by omega), if_pos rfl, cl_nI (by omega), h9, if_pos rfl, inb_t (by omega) (by omega), if_pos rfl, cl_nI (by omega), pk_sub hAS, inb_t (by omega) (by omega), if_pos rfl, cl_nI (by omega)]
          rw [show nI s - 1 = nI (s - 1) by rw [li1, pk_sub (by omega)]]
          have hnx : (A - 1) &&& S < A := next_lt (by omega)
          have hno : ¬ (h.1 62 A = 1 ∧ h.1 62 (S - A) = nI (s - 1)) → ∃ x', FitV w nn b s x' S ∧ F_X7_layFits_110 (F_X7_layFits_61 K n) N (nI s) (nI S) (nI A) false h = K N (nI s) (nI (S + 1)) (up h 62 S x') := by
            intro hne
            unfold F_X7_layFits_110 F_X7_layFits_134
            rw [if_neg (show ¬ (false = true) by decide), inb_t hS (by omega), if_pos rfl, if_pos rfl, cl_nI (by omega), up_same, lt_p, lt_p, li1, pk_sub (by omega), nI_and (by omega) (by omega)]
            refine ih ((A - 1) &&& S) hnx n (sub_and _ _) (by omega) (fun B b1 b2 b3 => ?_)
            by_cases hBA : B < A
            · have := sub_next S A B hA b1 hBA; omega
            · by_cases hBe : B = A
              · subst hBe; exact hne
              · exact hB B b1 b2 (by omega)
          by_cases g1 : h.1 62 A = 1
          · rw [if_pos g1]
            have hAne : A ≠ S := by
              intro z; subst z; rw [h9] at g1; exact absurd g1 (by decide)
            by_cases g2 : h.1 62 (S - A) = nI (s - 1)
            · rw [if_pos g2]
              unfold F_X7_layFits_110 F_X7_layFits_134
              rw [if_pos rfl, inb_t hS (by omega), if_pos rfl, cl_nI (by omega), lt_p, lt_p, li1, pk_sub (by omega), nI_and (by omega) (by omega)]
              obtain ⟨n, rfl⟩ : ∃ k, n = k + 1 := ⟨n - 1, by omega⟩
              rw [F_X7_layFits_61]
              unfold F_X7_layFits_147
              rw [inb_t hS (by omega), if_pos rfl, cl_nI (by omega), up_s, if_neg (show ¬ nI s = 9 by rcases hs with e | e <;> rw [e] <;> decide +kernel), nI_1]
              refine ⟨nI s, ?_, by split <;> rfl⟩
              have p1 := (FitV_1 (by omega) (h1 A (by omega))).mp g1
              rcases hs with e | e
              · subst e
                have p2 := (FitV_1 (by omega) (h1 (S - A) (by omega))).mp g2
                exact Or.inr (Or.inl ⟨rfl, by omega, hnP, A, hA, Pt_1.mp p1, p2⟩)
              · subst e
                have p2 := (FitV_2 (h1 (S - A) (by omega))).mp g2
                exact Or.inr (Or.inr (Or.inl ⟨rfl, by omega, hnP, A, hA, Pt_1.mp p1, p2.1⟩))
            · rw [if_neg g2]
              exact hno (fun z => g2 z.2)
          · rw [if_neg g1]
            exact hno (fun z => g1 z.1)
    exact key S fuel (Nat.and_self S) (by omega) (fun B b1 b2 b3 => by have := sub_le b1; omega)
  · obtain ⟨n, hn⟩ : ∃ k, fuel = k + 1 := ⟨fuel - 1, by omega⟩
    refine ⟨h.1 62 S, ?_, ?_⟩
    · have := FitV_up h2 h9
      rw [show s - 1 + 1 = s by omega] at this
      exact this
    · rw [hn, F_X7_layFits_61, up_same]
      unfold F_X7_layFits_147
      rw [inb_t hS (by omega), if_pos rfl, cl_nI (by omega), if_neg h9, nI_1]
      split <;> rfl
theorem r_pass {w : Nat → Nat} {nn b s N : Nat} {h : Hp} (K : Int32 → Int32 → Hp → Option Hp) (hs : s = 2 ∨ s = 3) (hN : N ≤ 1024) (h1 : ∀ T, T < N → FitV w nn b (s - 1) (h.1 62 T) T) : ∃ h', F_X7_layFits_51 K fuel (nI N) (nI s) 0 h = K (nI N) (nI (s + 1)) h' ∧ (∀ T, T < N → FitV w nn b s (h'.1 62 T) T) ∧ FrF h h' := by
  refine lpI (fun n (x : Int32 × Hp) => F_X7_layFits_51 K n (nI N) (nI s) x.1 x.2) N (fun d x => x.1 = nI d ∧ (∀ T, T < d → FitV w nn b s (x.2.1 62 T) T) ∧ (∀ T, d ≤ T → T < N → FitV w nn b (s - 1) (x.2.1 62 T) T) ∧ FrF h x.2) (fun o => ∃ h', o = K (nI N) (nI (s + 1)) h' ∧ (∀ T, T < N → FitV w nn b s (h'.1 62 T) T) ∧ FrF h h') ?_ ?_ fuel 0 (0, h) (by omega) (by have := fuel_ge; omega) ⟨rfl, fun T hT => absurd hT (by omega), fun T _ hT => h1 T hT, fun _ _ => rfl⟩
  · rintro n ⟨x1, g⟩ ⟨i1, i2, i3, i4⟩
    dsimp only at i1 i2 i3 i4 ⊢
    subst i1
    rw [F_X7_layFits_51, if_pos (nle.mp (fun z => by have := (nI_ltI (by omega) (by omega)).mp z; omega)), nI_1]
    exact ⟨g, rfl, i2, i4⟩
  · rintro n d ⟨x1, g⟩ hd ⟨i1, i2, i3, i4⟩
    dsimp only at i1 i2 i3 i4 ⊢
    subst i1
    obtain ⟨x', y1, y2⟩ := r_fit (w := w) (nn := nn) (b := b) (h := g) (S := d) (F_X7_layFits_51 K n) (nI N) hs (by omega) i2 (i3 d (Nat.le_refl d) hd)
    rw [F_X7_layFits_51, if_neg (le_no (by omega) (by omega) hd), y2]
    refine ⟨(nI (d + 1), up g 62 d x'), ⟨rfl, fun T hT => ?_, fun T t1 t2 => ?_, fun c hc => by rw [up_off hc]; exact i4 c hc⟩, rfl⟩
    · dsimp only
      by_cases e : T = d
      · subst e; rw [up_s]; exact y1
      · rw [up_k e]; exact i2 T (by omega)
    · dsimp only
      rw [up_k (by omega)]; exact i3 T (by omega) t2
theorem r_layFits (hw : Wf m) (hr : RMc σ m) {b : Nat} (hb : b ≤ 200) : ∃ τ, F_X7_layFits (nI b) σ = some τ ∧ (∀ T, T < 2 ^ m 9 4 → FitV (wr m) (m 9 4) b 3 (τ.1 62 T) T) ∧ FrF σ τ := by
  have hN : 2 ^ m 9 4 ≤ 2 ^ 10 := Nat.pow_le_pow_right (by omega) hw.nd
  have hf := fuel_ge
  obtain ⟨n, hn⟩ : ∃ k, fuel = k + 3 := ⟨fuel - 3, by omega⟩
  obtain ⟨h1, a1, a2, a3⟩ := r_pass1 hw hr hb
  rw [a1, hn, F_X7_layFits_43, if_neg (by decide), li2]
  obtain ⟨h2, b1, b2, b3⟩ := r_pass (w := wr m) (nn := m 9 4) (b := b) (s := 2) (N := 2 ^ m 9 4) (h := h1) (F_X7_layFits_43 (n + 2)) (Or.inl rfl) (by omega) a2
  rw [b1, F_X7_layFits_43, if_neg (by decide +kernel)]
  obtain ⟨h3, c1, c2, c3⟩ := r_pass (w := wr m) (nn := m 9 4) (b := b) (s := 3) (N := 2 ^ m 9 4) (h := h2) (F_X7_layFits_43 (n + 1)) (Or.inr rfl) (by omega) b2
  rw [c1, F_X7_layFits_43, if_pos (by decide +kernel)]
  exact ⟨h3, rfl, c2, fun c hc => by rw [c3 c hc, b3 c hc, a3 c hc]⟩
theorem r_ones {S : Nat} (hS : S < 1024) (h : Hp) : F_X7_ones (nI S) h = some (nI (popN S)) := by
  unfold F_X7_ones
  have hl := lp (fun n (x : Int32 × Int32) => F_X7_ones_4 h n (nI S) x.1 x.2) 10 (fun i => (nI (sumN (fun k => if S.testBit k = true then 1 else 0) i), nI i)) (some (nI (popN S))) ?_ ?_ fuel 0 (by omega) (by have := fuel_ge; omega)
  · exact hl
  · intro n
    show F_X7_ones_4 h (n + 1) (nI S) (nI (popN S)) (nI 10) = _
    rw [F_X7_ones_4, if_pos (by decide +kernel)]
  · intro n i hi
    show F_X7_ones_4 h (n + 1) (nI S) (nI (sumN (fun k => if S.testBit k = true then 1 else 0) i)) (nI i) = F_X7_ones_4 h n (nI S) (nI (sumN (fun k => if S.testBit k = true then 1 else 0) i + (if S.testBit i = true then 1 else 0))) (nI (i + 1))
    rw [F_X7_ones_4, li10, if_neg (le_no (by omega) (by omega) hi), bit_i (by omega) hi, lt_p, nI_1]
    cases S.testBit i with
    | false => rw [if_neg (show ¬ (false = true) by decide), if_neg (show ¬ (false = true) by decide), Int32.add_zero]; rfl
    | true => rw [if_pos rfl, if_pos rfl, nI_1]
def thA (m : Tw) (S : Nat) : Nat → Bool
  | 0 => true
  | i + 1 => thA m S i && (!(S.testBit i) || decide (m 7 i = 1))
theorem thA_iff (m : Tw) (S : Nat) : ∀ n, thA m S n = true ↔ ∀ i, i < n → S.testBit i = true → decide (m 7 i = 1) = true
  | 0 => ⟨fun _ i hi => absurd hi (by omega), fun _ => rfl⟩
  | n + 1 => by
    show (thA m S n && (!(S.testBit n) || decide (m 7 n = 1))) = true ↔ _
    rw [Bool.and_eq_true, thA_iff m S n]
    constructor
    · rintro ⟨h1, h2⟩ i hi hb
      by_cases e : i = n
      · subst e; rw [hb] at h2; exact h2
      · exact h1 i (by omega) hb
    · intro h
      refine ⟨fun i hi hb => h i (by omega) hb, ?_⟩
      cases hb : S.testBit n with
      | false => rfl
      | true => rw [h n (by omega) hb]; rfl
theorem r_set {h : Hp} {S B k : Nat} {W w3 : Int32} (hw : Wf m) (hr : RMc h m) (hS : S < 1024) (hB : B < 1024) (is : Bool) (K : Int32 → Int32 → Int32 → Int32 → Int32 → Hp → Option (Int32 × Hp)) : F_X7_sledges_103 K (nI k) w3 (nI B) W (nI S) false is h = if (is && thA m S (m 9 4)) = true ∧ (W < woS m S ∨ (woS m S = W ∧ popN S < popN B)) then K (nI k) w3 (nI S) (woS m S) (nI (S + 1)) h else K (nI k) w3 (nI B) W (nI (S + 1)) h := by
  have hn := hw.nd
  unfold F_X7_sledges_103
  have hl := lp (fun n (x : Int32 × Bool × Int32) => F_X7_sledges_108 K n (nI k) w3 (nI B) W (nI S) x.1 x.2.1 x.2.2 h) (m 9 4) (fun i => (sumI (fun i => if S.testBit i = true then nI (wo m i) else 0) i, is && thA m S i, nI i)) (if (is && thA m S (m 9 4)) = true ∧ (W < woS m S ∨ (woS m S = W ∧ popN S < popN B)) then K (nI k) w3 (nI S) (woS m S) (nI (S + 1)) h else K (nI k) w3 (nI B) W (nI (S + 1)) h) ?_ ?_ fuel 0 (by omega) (by have := fuel_ge; omega)
  · have hl' : F_X7_sledges_108 K fuel (nI k) w3 (nI B) W (nI S) 0 (is && true) 0 h = _ := hl
    rw [Bool.and_true] at hl'
    exact hl'
  · intro n
    have hp1 := popN_le S
    have hp2 := popN_le B
    show F_X7_sledges_108 K (n + 1) (nI k) w3 (nI B) W (nI S) (woS m S) (is && thA m S (m 9 4)) (nI (m 9 4)) h = _
    rw [F_X7_sledges_108, hr.2.2.2.1, if_pos (nle.mp (fun z => by have := (nI_ltI (by omega) (by omega)).mp z; omega)), r_ones hS, r_ones hB, Option.bind_some, Option.bind_some]
    unfold F_X7_sledges_219 F_X7_sledges_227
    rw [nI_1]
    by_cases g0 : (is && thA m S (m 9 4)) = true
    · rw [if_pos g0]
      by_cases g1 : W < woS m S
      · rw [if_pos g1, if_pos ⟨g0, Or.inl g1⟩]
      · rw [if_neg g1]
        by_cases g2 : woS m S = W
        · rw [if_pos g2]
          by_cases g3 : popN B ≤ popN S
          · rw [if_pos ((nI_leI (by omega) (by omega)).mpr g3), if_neg (fun z => z.2.elim g1 (fun z => by have := z.2; omega))]
          · rw [if_neg (le_no (by omega) (by omega) (by omega)), if_pos ⟨g0, Or.inr ⟨g2, by omega⟩⟩]
        · rw [if_neg g2, if_neg (fun z => z.2.elim g1 (fun z => g2 z.1))]
    · rw [if_neg g0, if_neg (fun z => g0 z.1)]
  · intro n i hi
    show F_X7_sledges_108 K (n + 1) (nI k) w3 (nI B) W (nI S) (sumI (fun i => if S.testBit i = true then nI (wo m i) else 0) i) (is && thA m S i) (nI i) h = F_X7_sledges_108 K n (nI k) w3 (nI B) W (nI S) (sumI (fun i => if S.testBit i = true then nI (wo m i) else 0) i + (if S.testBit i = true then nI (wo m i) else 0)) (is && (thA m S i && (!(S.testBit i) || decide (m 7 i = 1)))) (nI (i + 1)) h
    rw [F_X7_sledges_108, hr.2.2.2.1, if_neg (le_no (by omega) (by omega) hi), bit_i (by omega) (by omega)]
    unfold F_X7_sledges_133 F_X7_sledges_159 F_X7_sledges_178
    rw [r_isThere hw hr hi, r_worthOf hw hr hi]
    simp only [Option.bind_some, lt_p, nI_1]
    cases is <;> cases thA m S i <;> cases S.testBit i <;> by_cases h7 : m 7 i = 1 <;> simp [h7]
theorem ok_eq (hw : Wf m) {h : Hp} {S b k : Nat} (hb : b ≤ 200) (hk1 : 1 ≤ k) (hk : k ≤ 3) (hS : S < 2 ^ m 9 4) (hF : FitV (wr m) (m 9 4) b 3 (h.1 62 S) S) : (decide (h.1 62 S ≤ nI k) && thA m S (m 9 4)) = okC m b k S := by
  unfold okC
  have e1 := PK_iff (w := wc m) (n := m 9 4) hb hk1 hk hS
  have e2 := Pt_there (w := wr m) (w' := wc m) (n := m 9 4) (b := b) (th := fun i => decide (m 7 i = 1)) (fun i _ => by
    unfold wc wr
    by_cases e : m 7 i = 1
    · rw [if_pos e, if_pos (decide_eq_true e)]
    · rw [if_neg e, if_neg (by rw [decide_eq_true_eq]; exact e)]) hb k S hS
  have e3 := FitV_k hk1 hk hF
  have e4 := thA_iff m S (m 9 4)
  have key : (h.1 62 S ≤ nI k ∧ thA m S (m 9 4) = true) ↔ PK (wc m) (m 9 4) b S / 256 ≤ k := by
    rw [e1, e2, e3, e4]
    exact ⟨fun z => ⟨z.2, z.1⟩, fun z => ⟨z.2, z.1⟩⟩
  by_cases g : PK (wc m) (m 9 4) b S / 256 ≤ k
  · obtain ⟨k1, k2⟩ := key.mpr g
    rw [decide_eq_true g, decide_eq_true k1, k2]; rfl
  · rw [decide_eq_false g]
    by_cases k1 : h.1 62 S ≤ nI k
    · rw [decide_eq_true k1, Bool.true_and]
      cases ht : thA m S (m 9 4) with
      | false => rfl
      | true => exact absurd (key.mp ⟨k1, ht⟩) g
    · rw [decide_eq_false k1]; rfl
theorem r_sledges (hw : WfG m kp pg pn ld) (hr : RM σ m kp pg pn ld lk) (k b w : Int32) : ∃ τ, F_X7_sledges k b w σ = some (slA m ld k b w, τ) ∧ (slOk ld k b w → RM τ m kp pg pn (ld + 1) lk) ∧ (¬ slOk ld k b w → τ = σ) ∧ FrM σ τ := by
  have hld : ld ≤ 20 := hw.2.2.2.2
  have hn := hw.1.nd
  have hN : 2 ^ m 9 4 ≤ 2 ^ 10 := Nat.pow_le_pow_right (by omega) hn
  have hN0 := Nat.two_pow_pos (m 9 4)
  unfold F_X7_sledges slA
  rw [lj0, lj1, lj3, lj200, r_in, r_in, r_in]
  by_cases h1 : wn k 1 3 = true
  · by_cases h2 : wn b 1 200 = true
    · by_cases h3 : wn w 0 1 = true
      · rw [if_pos h1, if_pos h2, if_pos h3, if_pos (show wn k 1 3 = true ∧ wn b 1 200 = true ∧ wn w 0 1 = true from ⟨h1, h2, h3⟩), hr.2.2.2.2.2.2, li20]
        by_cases h4 : ld < 20
        · rw [if_neg (fun z => by have := (nI_eq (by omega) (by omega)).mp z; omega), if_pos h4, lt_p, nI_1]
          obtain ⟨k, hk1, hk2, rfl⟩ := wn_nI (a := 1) (b := 3) (by omega) (by omega) h1
          obtain ⟨b, hb1, hb2, rfl⟩ := wn_nI (a := 1) (b := 200) (by omega) (by omega) h2
          rw [cl_nI (by omega), cl_nI (by omega)]
          have hr1 : RMc (up σ 55 14 (nI (ld + 1))) m := hr.1.congr (up_k (by omega)) (up_k (by omega)) (up_k (by omega)) (up_k (by omega)) (up_off (by omega)) (up_off (by omega)) (up_off (by omega))
          obtain ⟨τ, t1, t2, t3⟩ := r_layFits (b := b) hw.1 hr1 hb2
          have hrt : RMc τ m := t3.RMc hr1
          rw [t1, Option.bind_some]
          have hl := lp (fun n (x : Int32 × Int32 × Int32) => F_X7_sledges_73 n (nI k) w x.1 x.2.1 x.2.2 τ) (2 ^ m 9 4 - 1) (fun d => (nI (bsF m (okC m b k) d).2, (bsF m (okC m b k) d).1, nI (d + 1))) (some (if w = 0 then (bsF m (okC m b k) (2 ^ m 9 4 - 1)).1 else nI (bsF m (okC m b k) (2 ^ m 9 4 - 1)).2, τ)) ?_ ?_ fuel 0 (by omega) (by have := fuel_ge; omega)
          · have hl' : F_X7_sledges_73 fuel (nI k) w 0 0 1 τ = _ := hl
            rw [hl']
            refine ⟨τ, rfl, fun _ => ⟨hrt, ?_, fun z => ?_, fun k hk => ?_, ?_, fun i hi => ?_, ?_⟩, fun z => absurd ⟨⟨h1, h2, h3⟩, h4⟩ z, fun c hc => by rw [t3 c (by omega), up_off (by omega)]⟩
            · rw [t3 55 (by omega), up_k (by omega)]; exact hr.2.1
            · rw [t3 55 (by omega), up_k (by omega)]; exact hr.2.2.1 z
            · obtain ⟨a, b, c, d⟩ := hr.2.2.2.1 k hk
              exact ⟨by rw [t3 55 (by omega), up_k (by omega)]; exact a, by rw [t3 55 (by omega), up_k (by omega)]; exact b, by rw [t3 55 (by omega), up_k (by omega)]; exact c, d.congr (by rw [t3 70 (by omega), up_off (by omega)]) (by rw [t3 71 (by omega), up_off (by omega)]) (by rw [t3 72 (by omega), up_off (by omega)])⟩
            · rw [t3 55 (by omega), up_k (by omega)]; exact hr.2.2.2.2.1
            · rw [t3 59 (by omega), up_off (by omega)]; exact hr.2.2.2.2.2.1 i hi
            · rw [t3 55 (by omega), up_s]
          · intro n
            show F_X7_sledges_73 (n + 1) (nI k) w _ _ (nI (2 ^ m 9 4 - 1 + 1)) τ = _
            rw [F_X7_sledges_73, hrt.2.2.2.1, shl_j (by omega), show 2 ^ m 9 4 - 1 + 1 = 2 ^ m 9 4 by omega, if_pos (nle.mp (fun z => by have := (nI_ltI (by omega) (by omega)).mp z; omega))]
            split <;> rfl
          · intro n d hd
            have hbl := bsF_le m (okC m b k) d
            show F_X7_sledges_73 (n + 1) (nI k) w (nI (bsF m (okC m b k) d).2) (bsF m (okC m b k) d).1 (nI (d + 1)) τ = F_X7_sledges_73 n (nI k) w (nI (bsS m (okC m b k) (bsF m (okC m b k) d) (d + 1)).2) (bsS m (okC m b k) (bsF m (okC m b k) d) (d + 1)).1 (nI (d + 1 + 1)) τ
            rw [F_X7_sledges_73, hrt.2.2.2.1, shl_j (by omega), if_neg (le_no (by omega) (by omega) (by omega)), inb_t (by omega) (by omega), if_pos rfl, cl_nI (by omega), r_set hw.1 hrt (by omega) (by omega), r_set hw.1 hrt (by omega) (by omega), Bool.false_and, Bool.true_and]
            have hok := ok_eq hw.1 (h := τ) (S := d + 1) hb2 hk1 hk2 (by omega) (t2 (d + 1) (by omega))
            unfold bsS
            by_cases g : τ.1 62 (d + 1) ≤ nI k
            · rw [decide_eq_true g, Bool.true_and] at hok
              rw [if_neg (show ¬ nI k < τ.1 62 (d + 1) from nle.mpr g), hok]
              split <;> rfl
            · rw [decide_eq_false g, Bool.false_and] at hok
              rw [if_pos (show nI k < τ.1 62 (d + 1) from Classical.byContradiction (fun z => g (nle.mp z))), ← hok, if_neg (fun z => (by cases z.1)), if_neg (fun z => (by cases z.1))]
        · rw [if_pos (by rw [show ld = 20 by omega]), if_neg h4]
          exact ⟨σ, rfl, fun z => absurd z.2 h4, fun _ => rfl, FrM.rf⟩
      · rw [if_pos h1, if_pos h2, if_neg h3, if_neg (fun z => h3 z.2.2)]
        exact ⟨σ, rfl, fun z => absurd z.1.2.2 h3, fun _ => rfl, FrM.rf⟩
    · rw [if_pos h1, if_neg h2, if_neg (fun z => h2 z.2.1)]
      exact ⟨σ, rfl, fun z => absurd z.1.2.1 h2, fun _ => rfl, FrM.rf⟩
  · rw [if_neg h1, if_neg (fun z => h1 z.1)]
    exact ⟨σ, rfl, fun z => absurd z.1.1 h1, fun _ => rfl, FrM.rf⟩
end SLR
