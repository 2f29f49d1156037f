/-! sets as bits -/
theorem nI_and {a b : Nat} (ha : a < 2 ^ 31) (hb : b < 2 ^ 31) : nI a &&& nI b = nI (a &&& b) := by
  apply Int32.toBitVec_inj.mp
  show (nI a).toBitVec &&& (nI b).toBitVec = _
  apply BitVec.eq_of_toNat_eq
  have hl : a &&& b < 2 ^ 32 := Nat.lt_of_le_of_lt Nat.and_le_left (by omega)
  rw [BitVec.toNat_and, pk_tn (by omega), pk_tn (by omega), pk_tn hl]
theorem nI_xor {a b : Nat} (ha : a < 2 ^ 31) (hb : b < 2 ^ 31) : nI a ^^^ nI b = nI (a ^^^ b) := by
  apply Int32.toBitVec_inj.mp
  show (nI a).toBitVec ^^^ (nI b).toBitVec = _
  apply BitVec.eq_of_toNat_eq
  have hl : a ^^^ b < 2 ^ 31 := Nat.xor_lt_two_pow ha hb
  rw [BitVec.toNat_xor, pk_tn (by omega), pk_tn (by omega), pk_tn (by omega)]
theorem sh_p : ∀ p, p < 10 → (((nI p &&& 31) : Int32).toBitVec.smod 32).toNat = p := by decide +kernel
theorem bit_i {S p : Nat} (hS : S < 2 ^ 31) (hp : p < 10) : ((nI S >>> (nI p &&& 31)) &&& (1 : Int32)) = if S.testBit p = true then 1 else 0 := by
  rw [pk_shrN hS _ p (sh_p p hp), pk_andN (Nat.lt_of_le_of_lt (Nat.div_le_self _ _) (by omega)) 1 (by decide), Nat.testBit_eq_decide_div_mod_eq, Nat.pow_one]
  have h := Nat.mod_lt (S / 2 ^ p) (show 0 < 2 by omega)
  by_cases e : S / 2 ^ p % 2 = 1
  · rw [e]; rfl
  · rw [show S / 2 ^ p % 2 = 0 by omega]; rfl
theorem shl_i {p : Nat} (hp : p < 10) : ((1 : Int32) <<< (nI p &&& 31)) = nI (2 ^ p) := by
  have h2 : 2 ^ p ≤ 2 ^ 10 := Nat.pow_le_pow_right (by omega) (by omega)
  rw [li1, pk_shlN _ p (sh_p p hp) (by omega), Nat.one_mul]
theorem xor_p : ∀ S, S < 1024 → ∀ p, p < 10 → S.testBit p = true → S ^^^ 2 ^ p = S - 2 ^ p ∧ 2 ^ p ≤ S := by decide +kernel
theorem xor_i {S p : Nat} (hS : S < 1024) (hp : p < 10) (hb : S.testBit p = true) : (nI S ^^^ ((1 : Int32) <<< (nI p &&& 31))) = nI (S - 2 ^ p) := by
  have h2 : 2 ^ p ≤ 2 ^ 10 := Nat.pow_le_pow_right (by omega) (by omega)
  rw [shl_i hp, nI_xor (by omega) (by omega), (xor_p S hS p hp hb).1]
/-- the next part of a set downward passes over none -/
theorem sub_next : ∀ (S a B : Nat), a &&& S = a → B &&& S = B → B < a → B ≤ (a - 1) &&& S := by
  intro S
  induction S using Nat.strongRecOn with
  | _ S ih =>
    intro a B ha hB hlt
    have hS0 : 0 < S := by
      rcases Nat.eq_zero_or_pos S with h | h
      · subst h; rw [Nat.and_zero] at ha; omega
      · exact h
    have ha2 : (a / 2) &&& (S / 2) = a / 2 := by rw [← Nat.and_div_two, ha]
    have hB2 : (B / 2) &&& (S / 2) = B / 2 := by rw [← Nat.and_div_two, hB]
    by_cases hodd : a % 2 = 1
    · -- an odd one: one less is a part itself
      have e1 : ((a - 1) &&& S) / 2 = a / 2 := by
        rw [Nat.and_div_two, show (a - 1) / 2 = a / 2 by omega, ha2]
      omega
    · have hlt2 : B / 2 < a / 2 := by omega
      have h1 := ih (S / 2) (by omega) (a / 2) (B / 2) ha2 hB2 hlt2
      have e1 : ((a - 1) &&& S) / 2 = (a / 2 - 1) &&& (S / 2) := by
        rw [Nat.and_div_two, show (a - 1) / 2 = a / 2 - 1 by omega]
      have e2 : ((a - 1) &&& S) % 2 = S % 2 := by
        have : (a - 1) % 2 = 1 := by omega
        have hb0 : ((a - 1) &&& S).testBit 0 = ((a - 1).testBit 0 && S.testBit 0) := Nat.testBit_and ..
        rw [Nat.testBit_zero, Nat.testBit_zero, Nat.testBit_zero, this] at hb0
        rw [show (decide ((1 : Nat) = 1)) = true from rfl, Bool.true_and] at hb0
        have hb1 := decide_eq_decide.mp hb0
        omega
      have e3 : B % 2 ≤ S % 2 := by
        have hb0 : (B &&& S).testBit 0 = (B.testBit 0 && S.testBit 0) := Nat.testBit_and ..
        rw [hB, Nat.testBit_zero, Nat.testBit_zero] at hb0
        by_cases g : B % 2 = 1
        · rw [decide_eq_true g, Bool.true_and] at hb0
          have := of_decide_eq_true hb0.symm
          omega
        · omega
      omega
theorem sub_and (a S : Nat) : (a &&& S) &&& S = a &&& S := by
  rw [Nat.and_assoc, Nat.and_self]
theorem next_lt {a S : Nat} (h : 0 < a) : (a - 1) &&& S < a := Nat.lt_of_le_of_lt Nat.and_le_left (by omega)
theorem sub_le {A S : Nat} (h : A &&& S = A) : A ≤ S := by
  rw [← h]; exact Nat.and_le_right
/-- the most of a row -/
def mx (f : Nat → Nat) : Nat → Nat
  | 0 => 0
  | n + 1 => max (mx f n) (f n)
theorem mx_ge {f : Nat → Nat} {p : Nat} : ∀ {n}, p < n → f p ≤ mx f n
  | 0, h => absurd h (by omega)
  | n + 1, h => by
    show f p ≤ max (mx f n) (f n)
    by_cases e : p = n
    · subst e; exact Nat.le_max_right _ _
    · exact Nat.le_trans (mx_ge (n := n) (by omega)) (Nat.le_max_left _ _)
theorem mx_at (f : Nat → Nat) : ∀ n, mx f n = 0 ∨ ∃ p, p < n ∧ mx f n = f p
  | 0 => Or.inl rfl
  | n + 1 => by
    show max (mx f n) (f n) = 0 ∨ ∃ p, p < n + 1 ∧ max (mx f n) (f n) = f p
    by_cases h : mx f n ≤ f n
    · rw [Nat.max_eq_right h]; exact Or.inr ⟨n, by omega, rfl⟩
    · rw [Nat.max_eq_left (by omega)]
      rcases mx_at f n with h1 | ⟨p, h1, h2⟩
      · exact Or.inl h1
      · exact Or.inr ⟨p, by omega, h2⟩
theorem mx_congr {f g : Nat → Nat} : ∀ {n}, (∀ p, p < n → f p = g p) → mx f n = mx g n
  | 0, _ => rfl
  | n + 1, h => by
    show max (mx f n) (f n) = max (mx g n) (g n)
    rw [mx_congr (fun p hp => h p (by omega)), h n (by omega)]
