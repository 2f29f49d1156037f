/-! into how many groups -/
def G (z : Nat → Bool) (S : Nat) : Nat := if h : S = 0 then 0 else mx (fun p => if S.testBit p = true then G z (S - 2 ^ p) else 0) 6 + (if z S = true then 1 else 0)
termination_by S
decreasing_by exact Nat.sub_lt (Nat.pos_of_ne_zero h) (Nat.two_pow_pos p)
def GH (z : Nat → Bool) (S : Nat) : Nat := mx (fun p => if S.testBit p = true then G z (S - 2 ^ p) else 0) 6
theorem G_0 (z : Nat → Bool) : G z 0 = 0 := by rw [G]; simp
theorem G_s (z : Nat → Bool) {S : Nat} (h : S ≠ 0) : G z S = GH z S + (if z S = true then 1 else 0) := by
  rw [G, dif_neg h]; rfl
theorem GH_at (z : Nat → Bool) (S : Nat) : GH z S = 0 ∨ ∃ p, p < 6 ∧ S.testBit p = true ∧ GH z S = G z (S - 2 ^ p) := by
  unfold GH
  rcases mx_at (fun p => if S.testBit p = true then G z (S - 2 ^ p) else 0) 6 with h | ⟨p, h1, h2⟩
  · exact Or.inl h
  · by_cases hb : S.testBit p = true
    · rw [if_pos hb] at h2
      exact Or.inr ⟨p, h1, hb, h2⟩
    · rw [if_neg hb] at h2
      exact Or.inl h2
theorem GH_ge (z : Nat → Bool) {S p : Nat} (hp : p < 6) (hb : S.testBit p = true) : G z (S - 2 ^ p) ≤ GH z S := by
  have := mx_ge (f := fun p => if S.testBit p = true then G z (S - 2 ^ p) else 0) hp
  rw [if_pos hb] at this
  exact this
theorem mk_1a : ∀ A, A < 64 → ∀ B, B < 64 → A &&& B = 0 → A + B < 64 := by decide +kernel
def mk1 (A B p : Nat) : Bool := !(decide (A &&& B = 0) && B.testBit p) || ((A + B).testBit p && decide (A &&& (B - 2 ^ p) = 0) && decide (2 ^ p ≤ B))
theorem mk_1c : ∀ A, A < 64 → ∀ B, B < 64 → ∀ p, p < 6 → mk1 A B p = true := by decide +kernel
theorem mk_1b : ∀ A, A < 64 → ∀ B, B < 64 → ∀ p, p < 6 → (A &&& B = 0 ∧ B.testBit p = true) → (A + B).testBit p = true ∧ A &&& (B - 2 ^ p) = 0 ∧ 2 ^ p ≤ B := by
  intro A hA B hB p hp ⟨h1, h2⟩
  have h := mk_1c A hA B hB p hp
  unfold mk1 at h
  rw [decide_eq_true h1, h2] at h
  simp only [Bool.and_self, Bool.not_true, Bool.false_or, Bool.and_eq_true, decide_eq_true_eq] at h
  exact ⟨h.1.1, h.1.2, h.2⟩
theorem mk_2 : ∀ S, S < 64 → ∀ p, p < 6 → S.testBit p = true → (S - 2 ^ p) &&& S = S - 2 ^ p ∧ 2 ^ p ≤ S := by decide +kernel
theorem mk_3 : ∀ S, S < 64 → ∀ A, A < 64 → A &&& S = A → A &&& (S - A) = 0 ∧ (S - A) &&& S = S - A := by decide +kernel
section GRP
variable {z : Nat → Bool}
theorem G_add (hz : ∀ A B, A < 64 → B < 64 → A &&& B = 0 → z A = true → z (A + B) = z B) : ∀ B, B < 64 → ∀ A, A < 64 → A &&& B = 0 → z A = true → G z A + G z B ≤ G z (A + B) := by
  intro B
  induction B using Nat.strongRecOn with
  | _ B ih =>
    intro hB A hA hAB hzA
    by_cases h0 : B = 0
    · subst h0; rw [G_0]; simp
    · have hs := mk_1a A hA B hB hAB
      have hm := fun p hp hb => mk_1b A hA B hB p hp ⟨hAB, hb⟩
      rw [G_s z h0, G_s z (show A + B ≠ 0 by omega), hz A B hA hB hAB hzA]
      have key : G z A + GH z B ≤ GH z (A + B) := by
        rcases GH_at z B with h | ⟨p, hp, hb, he⟩
        · rw [h, Nat.add_zero]
          -- some bit of B is there
          have : ∃ p, p < 6 ∧ B.testBit p = true := by
            have : ∀ B, B < 64 → B ≠ 0 → ∃ p, p < 6 ∧ B.testBit p = true := by decide +kernel
            exact this B hB h0
          obtain ⟨p, hp, hb⟩ := this
          obtain ⟨m1, m2, m3⟩ := hm p hp hb
          have hpos := Nat.two_pow_pos p
          have h1 := ih (B - 2 ^ p) (by omega) (by omega) A hA m2 hzA
          have h2 := GH_ge z hp m1
          rw [show A + B - 2 ^ p = A + (B - 2 ^ p) by omega] at h2
          omega
        · obtain ⟨m1, m2, m3⟩ := hm p hp hb
          have hpos := Nat.two_pow_pos p
          have h1 := ih (B - 2 ^ p) (by omega) (by omega) A hA m2 hzA
          have h2 := GH_ge z hp m1
          rw [show A + B - 2 ^ p = A + (B - 2 ^ p) by omega] at h2
          omega
      omega
theorem GH_T : ∀ S, S < 64 → GH z S = 0 ∨ ∃ T, 0 < T ∧ T < S ∧ T &&& S = T ∧ z T = true ∧ G z T = GH z S := by
  intro S
  induction S using Nat.strongRecOn with
  | _ S ih =>
    intro hS
    rcases GH_at z S with h | ⟨p, hp, hb, he⟩
    · exact Or.inl h
    · obtain ⟨m1, m2⟩ := mk_2 S hS p hp hb
      have hpos := Nat.two_pow_pos p
      by_cases h0 : S - 2 ^ p = 0
      · rw [h0, G_0] at he; exact Or.inl he
      · by_cases hz : z (S - 2 ^ p) = true
        · exact Or.inr ⟨S - 2 ^ p, by omega, by omega, m1, hz, he.symm⟩
        · have e : G z (S - 2 ^ p) = GH z (S - 2 ^ p) := by rw [G_s z h0, if_neg hz]; rfl
          rcases ih (S - 2 ^ p) (by omega) (by omega) with h | ⟨T, t1, t2, t3, t4, t5⟩
          · rw [e, h] at he; exact Or.inl he
          · refine Or.inr ⟨T, t1, by omega, ?_, t4, by rw [he, e, t5]⟩
            rw [← t3, Nat.and_assoc, m1]
theorem G_le (z : Nat → Bool) : ∀ S, G z S ≤ S := by
  intro S
  induction S using Nat.strongRecOn with
  | _ S ih =>
    by_cases h0 : S = 0
    · subst h0; rw [G_0]; exact Nat.le_refl 0
    · rw [G_s z h0]
      have : GH z S ≤ S - 1 := by
        rcases GH_at z S with h | ⟨p, hp, hb, he⟩
        · omega
        · have hpos := Nat.two_pow_pos p
          have := ih (S - 2 ^ p) (by omega)
          omega
      split <;> omega
/-- the sum of a set -/
def sm (r : Nat → Int32) (S : Nat) : Int32 := sumI (fun p => if S.testBit p = true then r p else 0) 6
def zs (r : Nat → Int32) (S : Nat) : Bool := decide (sm r S = 0)
def mk4 (A B p : Nat) : Bool := !(decide (A &&& B = 0)) || (decide ((A + B).testBit p = (A.testBit p || B.testBit p)) && !(A.testBit p && B.testBit p))
theorem mk_4c : ∀ A, A < 64 → ∀ B, B < 64 → ∀ p, p < 6 → mk4 A B p = true := by decide +kernel
theorem mk_4 : ∀ A, A < 64 → ∀ B, B < 64 → ∀ p, p < 6 → A &&& B = 0 → (A + B).testBit p = (A.testBit p || B.testBit p) ∧ (A.testBit p = true → B.testBit p = false) := by
  intro A hA B hB p hp h1
  have h := mk_4c A hA B hB p hp
  unfold mk4 at h
  rw [decide_eq_true h1] at h
  simp only [Bool.not_true, Bool.false_or, Bool.and_eq_true, decide_eq_true_eq] at h
  refine ⟨h.1, fun g => ?_⟩
  have h2 := h.2
  rw [g] at h2
  simpa using h2
theorem sm_add (r : Nat → Int32) {A B : Nat} (hA : A < 64) (hB : B < 64) (h : A &&& B = 0) : sm r (A + B) = sm r A + sm r B := by
  unfold sm
  rw [← sumI_add]
  apply sumI_congr
  intro p hp
  obtain ⟨h1, h2⟩ := mk_4 A hA B hB p hp h
  rw [h1]
  cases hA2 : A.testBit p with
  | true => rw [h2 hA2]; simp
  | false => cases B.testBit p <;> simp
theorem zs_hz (r : Nat → Int32) : ∀ A B, A < 64 → B < 64 → A &&& B = 0 → zs r A = true → zs r (A + B) = zs r B := by
  intro A B hA hB h hz
  unfold zs at hz ⊢
  rw [sm_add r hA hB h, of_decide_eq_true hz, Int32.zero_add]
theorem mk_5 : ∀ S, S < 64 → ∀ p, p < 6 → S.testBit p = true → 2 ^ p < 64 ∧ S - 2 ^ p < 64 ∧ (S - 2 ^ p) &&& 2 ^ p = 0 ∧ S - 2 ^ p + 2 ^ p = S := by decide +kernel
theorem mk_6 : ∀ p, p < 6 → ∀ q, q < 6 → (2 ^ p).testBit q = decide (q = p) := by decide +kernel
theorem sumI_one (w : Int32) (p : Nat) : ∀ n, sumI (fun q => if q = p then w else 0) n = if p < n then w else 0
  | 0 => by simp [sumI]
  | n + 1 => by
    show sumI _ n + _ = _
    rw [sumI_one w p n]
    by_cases h : n = p
    · subst h; simp
    · by_cases h2 : p < n
      · have : p < n + 1 := by omega
        simp [h, h2, this]
      · have : ¬ p < n + 1 := by omega
        simp [h, h2, this]
theorem sm_rem (r : Nat → Int32) {S p : Nat} (hS : S < 64) (hp : p < 6) (hb : S.testBit p = true) : sm r (S - 2 ^ p) + r p = sm r S := by
  obtain ⟨h1, h2, h3, h4⟩ := mk_5 S hS p hp hb
  have e : sm r (2 ^ p) = r p := by
    unfold sm
    rw [sumI_congr (g := fun q => if q = p then r p else 0)]
    · rw [sumI_one, if_pos hp]
    · intro q hq
      rw [mk_6 p hp q hq]
      by_cases e : q = p
      · subst e; simp
      · simp [e]
  rw [← e, ← sm_add r h2 h1 h3, h4]
end GRP
