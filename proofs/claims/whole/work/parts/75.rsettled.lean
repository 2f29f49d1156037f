/-! settled by the reference -/
def nR (z : Nat → Bool) (T : Nat) : Int32 := if z T = true then nI (G z T) else -1
section RSETT
variable {σ : Hp} {m : Tw} {kp : Option Tw} {pg : Nat → Nat} {pn ld lk : Nat} {z : Nat → Bool}
theorem G_pos {T : Nat} (h0 : T ≠ 0) (h : z T = true) : 1 ≤ G z T := by
  rw [G_s z h0, if_pos h]; omega
theorem nR_le {T : Nat} (hT : T < 64) (h0 : T ≠ 0) : nR z T ≤ 0 ↔ ¬ z T = true := by
  have := G_le z T
  unfold nR
  by_cases h : z T = true
  · have hp := G_pos h0 h
    rw [if_pos h]
    exact ⟨fun g => absurd g (le_no (b := 0) (by omega) (by omega) (by omega)), fun g => absurd h g⟩
  · rw [if_neg h]
    exact ⟨fun _ => h, fun _ => by decide⟩
theorem m1_le {M : Nat} (h : M < 2 ^ 31) : (-1 : Int32) ≤ nI M := by
  rw [Int32.le_iff_toInt_le, nI_toInt h, show (-1 : Int32).toInt = -1 by decide]; omega
theorem r_part {h : Hp} {S : Nat} (K : Int32 → Hp → Option (Int32 × Hp)) (hz : ∀ A B, A < 64 → B < 64 → A &&& B = 0 → z A = true → z (A + B) = z B) (hS : S < 64) (hS0 : S ≠ 0) (hh : ∀ T, 0 < T → T < S → h.1 63 T = nR z T) : ∀ A n M, A &&& S = A → A < S → A < n → (z S = true → 1 ≤ M ∧ M ≤ G z S ∧ ∀ B, 0 < B → B < S → B &&& S = B → A < B → z B = true → z (S - B) = true → G z B + G z (S - B) ≤ M) → F_X7_groupsOf_88 K n (nI S) (if z S = true then nI M else -1) (nI A) h = K (nI (S + 1)) (up h 63 S (nR z S)) := by
  intro A
  induction A using Nat.strongRecOn with
  | _ A ih =>
    intro n M hA hAS hn hM
    obtain ⟨n, rfl⟩ : ∃ k, n = k + 1 := ⟨n - 1, by omega⟩
    rw [F_X7_groupsOf_88]
    by_cases h0 : A = 0
    · subst h0
      rw [if_pos (by decide +kernel), inb_t hS (by omega), if_pos rfl, cl_nI (by omega), lt_p, nI_1]
      congr 2
      unfold nR
      by_cases hzS : z S = true
      · rw [if_pos hzS, if_pos hzS]
        obtain ⟨m1, m2, m3⟩ := hM hzS
        congr 1
        have hG := G_s z hS0
        rw [if_pos hzS] at hG
        rcases GH_T (z := z) S hS with e | ⟨T, t1, t2, t3, t4, t5⟩
        · omega
        · obtain ⟨q1, q2⟩ := mk_3 S hS T (by omega) t3
          have hzz := hz T (S - T) (by omega) (by omega) q1 t4
          rw [show T + (S - T) = S by omega, hzS] at hzz
          have := m3 T t1 t2 t3 t1 t4 hzz.symm
          have := G_pos (z := z) (T := S - T) (by omega) hzz.symm
          omega
      · rw [if_neg hzS, if_neg hzS]
    · obtain ⟨q1, q2⟩ := mk_3 S hS A (by omega) hA
      have hGA := G_le z A
      have hGB := G_le z (S - A)
      have hnx : (A - 1) &&& S < A := next_lt (by omega)
      rw [if_neg (show ¬ nI A ≤ 0 from le_no (b := 0) (by omega) (by omega) (by omega)), inb_t (by omega) (by omega), if_pos rfl, cl_nI (by omega), pk_sub (by omega), inb_t (by omega) (by omega), if_pos rfl, cl_nI (by omega), hh A (by omega) hAS, hh (S - A) (by omega) (by omega)]
      have e162 : ∀ s0 : Int32, F_X7_groupsOf_162 (F_X7_groupsOf_88 K n) (nI S) (nI A) s0 h = F_X7_groupsOf_88 K n (nI S) s0 (nI ((A - 1) &&& S)) h := by
        intro s0
        unfold F_X7_groupsOf_162
        rw [lt_p, li1, pk_sub (by omega), nI_and (by omega) (by omega)]
      have efalse : (¬ (z A = true ∧ z (S - A) = true)) → F_X7_groupsOf_120 (F_X7_groupsOf_88 K n) (nI S) (if z S = true then nI M else -1) (nI A) false h = K (nI (S + 1)) (up h 63 S (nR z S)) := by
        intro hno
        unfold F_X7_groupsOf_120 F_X7_groupsOf_148
        rw [if_neg (by decide), e162, e162]
        have hle : (-1 : Int32) ≤ (if z S = true then nI M else -1) := by
          by_cases hzS : z S = true
          · rw [if_pos hzS]
            obtain ⟨m1, m2, -⟩ := hM hzS
            have := G_le z S
            exact m1_le (by omega)
          · rw [if_neg hzS]; decide
        rw [if_pos hle]
        refine ih ((A - 1) &&& S) hnx n M (sub_and _ _) (by omega) (by omega) (fun hzS => ?_)
        obtain ⟨m1, m2, m3⟩ := hM hzS
        refine ⟨m1, m2, fun B b1 b2 b3 b4 b5 b6 => ?_⟩
        by_cases hBA : B < A
        · have := sub_next S A B hA b3 hBA; omega
        · by_cases hBe : B = A
          · subst hBe; exact absurd ⟨b5, b6⟩ hno
          · exact m3 B b1 b2 b3 (by omega) b5 b6
      have n1 := nR_le (z := z) (T := A) (by omega) h0
      have n2 := nR_le (z := z) (T := S - A) (by omega) (by omega)
      by_cases hzA : z A = true
      · rw [if_neg (fun g => n1.mp g hzA)]
        by_cases hzB : z (S - A) = true
        · rw [if_neg (fun g => n2.mp g hzB)]
          have hzz := hz A (S - A) (by omega) (by omega) q1 hzA
          rw [show A + (S - A) = S by omega, hzB] at hzz
          obtain ⟨m1, m2, m3⟩ := hM hzz
          have hGS := G_le z S
          have hadd := G_add hz (S - A) (by omega) A (by omega) q1 hzA
          rw [show A + (S - A) = S by omega] at hadd
          unfold F_X7_groupsOf_120 F_X7_groupsOf_148
          rw [if_pos rfl, inb_t (by omega) (by omega), if_pos rfl, pk_sub (by omega), inb_t (by omega) (by omega), if_pos rfl, cl_nI (by omega), cl_nI (by omega), hh A (by omega) hAS, hh (S - A) (by omega) (by omega)]
          have eA : nR z A + nR z (S - A) = nI (G z A + G z (S - A)) := by
            unfold nR
            rw [if_pos hzA, if_pos hzB, nI_add]
          rw [eA, e162, e162, if_pos hzz]
          have hcond : ∀ M', M ≤ M' → G z A + G z (S - A) ≤ M' → M' ≤ G z S → F_X7_groupsOf_88 K n (nI S) (nI M') (nI ((A - 1) &&& S)) h = K (nI (S + 1)) (up h 63 S (nR z S)) := by
            intro M' c1 c2 c3
            have := ih ((A - 1) &&& S) hnx n M' (sub_and _ _) (by omega) (by omega) (fun _ => ⟨by omega, c3, fun B b1 b2 b3 b4 b5 b6 => by
              by_cases hBA : B < A
              · have := sub_next S A B hA b3 hBA; omega
              · by_cases hBe : B = A
                · subst hBe; exact c2
                · have := m3 B b1 b2 b3 (by omega) b5 b6; omega⟩)
            rw [if_pos hzz] at this
            exact this
          by_cases hle : G z A + G z (S - A) ≤ M
          · rw [if_pos ((nI_leI (by omega) (by omega)).mpr hle)]
            exact hcond M (by omega) hle m2
          · rw [if_neg (le_no (by omega) (by omega) (by omega))]
            exact hcond _ (by omega) (Nat.le_refl _) hadd
        · rw [if_pos (n2.mpr hzB)]
          exact efalse (fun g => hzB g.2)
      · rw [if_pos (n1.mpr hzA)]
        exact efalse (fun g => hzA g.1)
theorem r_addSet {h : Hp} {S : Nat} {r : Nat → Int32} (K : Int32 → Hp → Option (Int32 × Hp)) (hS : S < 64) (hS0 : S ≠ 0) (h1 : ∀ p, p < 6 → h.1 64 p = r p) (hh : ∀ T, 0 < T → T < S → h.1 63 T = nR (zs r) T) : F_X7_groupsOf_37 K fuel (nI S) 0 0 h = K (nI (S + 1)) (up h 63 S (nR (zs r) S)) := by
  have hh2 := lp (fun n (x : Int32 × Int32) => F_X7_groupsOf_37 K n (nI S) x.1 x.2 h) 6 (fun p => (sumI (fun p => if S.testBit p = true then r p else 0) p, nI p)) (K (nI (S + 1)) (up h 63 S (nR (zs r) S))) ?_ ?_ fuel 0 (by omega) (by have := fuel_ge; omega)
  · exact hh2
  · intro n
    show F_X7_groupsOf_37 K (n + 1) (nI S) (sm r S) (nI 6) h = _
    rw [F_X7_groupsOf_37, if_pos (by decide +kernel)]
    unfold F_X7_groupsOf_80
    rw [lt_p, li1, pk_sub (by omega), nI_and (by omega) (by omega)]
    have hlt : (S - 1) &&& S < S := next_lt (by omega)
    have key := r_part (z := zs r) K (zs_hz r) hS hS0 hh ((S - 1) &&& S) fuel 1 (sub_and _ _) hlt (by have := fuel_ge; omega) (fun hzS => ⟨Nat.le_refl 1, G_pos hS0 hzS, fun B b1 b2 b3 b4 _ _ => by
      have := sub_next S S B (Nat.and_self S) b3 b2
      omega⟩)
    rw [← key]
    unfold zs
    by_cases e : sm r S = 0
    · rw [if_pos e, if_pos (decide_eq_true e)]
    · rw [if_neg e, if_neg (by rw [decide_eq_true_eq]; exact e), lt_p, show - nI 1 = (-1 : Int32) by decide +kernel]
  · intro n p hp
    show F_X7_groupsOf_37 K (n + 1) (nI S) (sumI (fun p => if S.testBit p = true then r p else 0) p) (nI p) h = F_X7_groupsOf_37 K n (nI S) (sumI (fun p => if S.testBit p = true then r p else 0) p + (if S.testBit p = true then r p else 0)) (nI (p + 1)) h
    rw [F_X7_groupsOf_37, li6, if_neg (le_no (by omega) (by omega) hp), bit_i (by omega) (by omega), inb_t (by omega) (by omega), cl_nI (by omega), h1 p hp]
    unfold F_X7_groupsOf_63
    cases hb : S.testBit p with
    | true => rw [if_pos (show (if true = true then (1 : Int32) else 0) = 1 by decide), if_pos rfl, lt_p, nI_1, if_pos rfl]
    | false => rw [if_neg (show ¬ (if false = true then (1 : Int32) else 0) = 1 by decide), lt_p, nI_1, if_neg (show ¬ (false = true) by decide)]
theorem r_groups (hw : WfG m kp pg pn ld) (hr : RM σ m kp pg pn ld lk) : ∃ τ, F_X7_groupsOf σ = some (nI (grN m), τ) ∧ RM τ m kp pg pn ld lk ∧ FrM σ τ ∧ τ.2 = σ.2 := by
  unfold F_X7_groupsOf
  generalize hu : rowf σ 64 (rsF m) 6 = υ
  have u1 : ∀ c, c ≠ 64 → υ.1 c = σ.1 c := fun c hc => by rw [← hu, rowf_r hc]
  have u2 : ∀ p, p < 6 → υ.1 64 p = rsF m p := fun p hp => by rw [← hu, rowf_lt hp]
  have u3 : υ.2 = σ.2 := by rw [← hu]; rfl
  have first : F_X7_groupsOf_2 fuel 0 σ = F_X7_groupsOf_27 fuel 1 υ := by
    have h := lp (fun n (x : Int32 × Hp) => F_X7_groupsOf_2 n x.1 x.2) 6 (fun d => (nI d, rowf σ 64 (rsF m) d)) (F_X7_groupsOf_27 fuel 1 υ) ?_ ?_ fuel 0 (by omega) (by have := fuel_ge; omega)
    · have h3 : F_X7_groupsOf_2 fuel (nI 0) (rowf σ 64 (rsF m) 0) = _ := h
      rw [rowf_0] at h3
      exact h3
    · intro n
      show F_X7_groupsOf_2 (n + 1) (nI 6) (rowf σ 64 (rsF m) 6) = _
      rw [F_X7_groupsOf_2, if_pos (by decide +kernel), hu]
    · intro n d hd
      show F_X7_groupsOf_2 (n + 1) (nI d) (rowf σ 64 (rsF m) d) = F_X7_groupsOf_2 n (nI (d + 1)) (rowf σ 64 (rsF m) (d + 1))
      have hrr : RMc (rowf σ 64 (rsF m) d) m := hr.1.congr (rowf_c (by omega)) (rowf_c (by omega)) (rowf_c (by omega)) (rowf_c (by omega)) (rowf_r (by omega)) (rowf_r (by omega)) (rowf_r (by omega))
      rw [F_X7_groupsOf_2, li6, if_neg (le_no (by omega) (by omega) hd), r_restOf hw.1 hrr, Option.bind_some, inb_t (by omega) (by omega), if_pos rfl, cl_nI (by omega), lt_p, nI_1]
      rw [show reI m (nI d) = rsF m d from rfl, rowf_up]
  rw [first]
  refine lpI (fun n (x : Int32 × Hp) => F_X7_groupsOf_27 n x.1 x.2) 63 (fun d x => x.1 = nI (d + 1) ∧ (∀ T, 0 < T → T < d + 1 → x.2.1 63 T = nR (zs (rsF m)) T) ∧ (∀ c, c ≠ 63 → x.2.1 c = υ.1 c) ∧ x.2.2 = υ.2) (fun o => ∃ τ, o = some (nI (grN m), τ) ∧ RM τ m kp pg pn ld lk ∧ FrM σ τ ∧ τ.2 = σ.2) ?_ ?_ fuel 0 (1, υ) (by omega) (by have := fuel_ge; omega) ⟨rfl, fun T h1 h2 => absurd h1 (by omega), fun _ _ => rfl, rfl⟩
  · rintro n ⟨x1, h⟩ ⟨i1, i2, i3, i4⟩
    dsimp only at i1 i2 i3 i4 ⊢
    subst i1
    rw [F_X7_groupsOf_27, if_pos (by decide +kernel), show Int32.toNatClampNeg (63 : Int32) = 63 by decide +kernel, i2 63 (by omega) (by omega)]
    have fr : ∀ c, c ≠ 63 → c ≠ 64 → h.1 c = σ.1 c := fun c a b => by rw [i3 c a, u1 c b]
    refine ⟨h, ?_, ⟨hr.1.congr (by rw [fr 55 (by omega) (by omega)]) (by rw [fr 55 (by omega) (by omega)]) (by rw [fr 55 (by omega) (by omega)]) (by rw [fr 55 (by omega) (by omega)]) (fr 56 (by omega) (by omega)) (fr 57 (by omega) (by omega)) (fr 58 (by omega) (by omega)), RM'.keep (fun k _ => by rw [fr 55 (by omega) (by omega)]) (fun c hc => fr c (by omega) (by omega)) hr.2⟩, fun c hc => fr c (by omega) (by omega), i4.trans u3⟩
    unfold nR
    rw [if_pos (z63 hw.1)]
    rfl
  · rintro n d ⟨x1, h⟩ hd ⟨i1, i2, i3, i4⟩
    dsimp only at i1 i2 i3 i4 ⊢
    subst i1
    rw [F_X7_groupsOf_27, show (64 : Int32) = nI 64 by decide +kernel, if_neg (le_no (by omega) (by omega) (by omega)), r_addSet (r := rsF m) _ (by omega) (by omega) (fun p hp => by rw [i3 64 (by omega)]; exact u2 p hp) i2]
    refine ⟨(nI (d + 1 + 1), up h 63 (d + 1) (nR (zs (rsF m)) (d + 1))), ⟨rfl, fun T h1 h2 => ?_, fun c a => by rw [up_off a]; exact i3 c a, i4⟩, rfl⟩
    by_cases e : T = d + 1
    · subst e; exact up_s
    · rw [up_k e]; exact i2 T h1 (by omega)
theorem r_settled (hw : WfG m kp pg pn ld) (hr : RM σ m kp pg pn ld lk) (w : Int32) : ∃ τ, F_X7_settled w σ = some (seA m w, τ) ∧ RM τ m kp pg pn ld lk ∧ FrM σ τ := by
  unfold F_X7_settled seA
  rw [lj0, lj1, r_in]
  by_cases h : wn w 0 1 = true
  · rw [if_pos h, if_pos h]
    obtain ⟨τ, t1, t2, t3, -⟩ := r_groups hw hr
    rw [t1, Option.bind_some]
    refine ⟨τ, ?_, t2, t3⟩
    split <;> rfl
  · rw [if_neg h, if_neg h]
    exact ⟨σ, rfl, hr, FrM.rf⟩
end RSETT
