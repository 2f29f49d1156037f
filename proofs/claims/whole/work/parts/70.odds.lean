/-! odds: longs, powers, divisors -/
def nL (n : Nat) : Int64 := Int64.ofNat n
theorem nL_mul (a b : Nat) : nL a * nL b = nL (a * b) := (Int64.ofNat_mul a b).symm
theorem nL_add (a b : Nat) : nL a + nL b = nL (a + b) := (Int64.ofNat_add a b).symm
theorem nL_toInt {n : Nat} (h : n < 2 ^ 63) : (nL n).toInt = n := Int64.toInt_ofNat_of_lt h
theorem nL_eq {a b : Nat} (ha : a < 2 ^ 63) (hb : b < 2 ^ 63) : nL a = nL b ↔ a = b := by
  rw [← Int64.toInt_inj, nL_toInt ha, nL_toInt hb]; omega
theorem nL_i {k : Nat} (h : k < 2 ^ 31) : Int32.toInt64 (nI k) = nL k := by
  rw [← Int64.toInt_inj, Int32.toInt_toInt64, nI_toInt h, nL_toInt (by omega)]
theorem nL_div {a b : Nat} (ha : a < 2 ^ 63) (hb : b < 2 ^ 63) : nL a / nL b = nL (a / b) := by
  rw [← Int64.toInt_inj, Int64.toInt_div, nL_toInt ha, nL_toInt hb, nL_toInt (Nat.lt_of_le_of_lt (Nat.div_le_self a b) ha)]
  rw [show Int.tdiv (a : Int) (b : Int) = ((a / b : Nat) : Int) by rw [Int.ofNat_tdiv]]
  have h := Nat.div_le_self a b
  generalize a / b = q at h ⊢
  rw [Int.bmod_eq_of_le] <;> omega
theorem nL_rem {a b : Nat} (ha : a < 2 ^ 63) (hb : b < 2 ^ 63) : jreml (nL a) (nL b) = nL (a % b) := by
  unfold jreml
  rw [nL_div ha hb, nL_mul]
  have h1 : a / b * b ≤ a := Nat.div_mul_le_self a b
  have h2 : a % b = a - a / b * b := by
    have := Nat.mod_add_div a b
    have e : b * (a / b) = a / b * b := Nat.mul_comm _ _
    omega
  have h3 : nL (a % b) + nL (a / b * b) = nL a := by rw [nL_add]; congr 1; omega
  rw [← h3, Int64.add_sub_cancel]
theorem nL_0 : (0 : Int64) = nL 0 := by decide
theorem nL_1 : (1 : Int64) = nL 1 := by decide
theorem nL_pos {a : Nat} (ha : a < 2 ^ 63) (h : 0 < a) : (0 : Int64) < nL a := by
  rw [nL_0, Int64.lt_iff_toInt_lt, nL_toInt ha, nL_toInt (by omega)]; omega
theorem nL_ne {a : Nat} (ha : a < 2 ^ 63) (h : 0 < a) : ¬ nL a = 0 := by
  rw [nL_0]; exact fun z => by have := (nL_eq ha (by omega)).mp z; omega
section ODDS
variable {σ : Hp} {m : Tw} {kp : Option Tw} {pg : Nat → Nat} {pn ld lk : Nat}
theorem c_power {a n : Nat} (ha : a < 100) (hn : n < 100) : F_X6_power (nI a) (nI n) σ = some (nL (a ^ n)) := by
  unfold F_X6_power
  have h := lp (fun k (x : Int64 × Int32) => F_X6_power_5 σ k (nI a) (nI n) x.1 x.2) n (fun d => (nL (a ^ d), nI d)) (some (nL (a ^ n))) ?_ ?_ fuel 0 (by omega) (by have := fuel_ge; omega)
  · exact h
  · intro k
    show F_X6_power_5 σ (k + 1) (nI a) (nI n) (nL (a ^ n)) (nI n) = _
    rw [F_X6_power_5, if_pos (nle.mp (fun z => by have := (nI_ltI (by omega) (by omega)).mp z; omega))]
  · intro k d hd
    show F_X6_power_5 σ (k + 1) (nI a) (nI n) (nL (a ^ d)) (nI d) = F_X6_power_5 σ k (nI a) (nI n) (nL (a ^ (d + 1))) (nI (d + 1))
    rw [F_X6_power_5, if_neg (le_no (by omega) (by omega) hd), lt_p, nL_i (by omega), nL_mul, nI_1, Nat.pow_succ]
def chR (D t : Nat) : Nat → Nat
  | 0 => 1
  | i + 1 => chR D t i * (D - t + (i + 1)) / (i + 1)
theorem chR_le : ∀ D, D < 10 → ∀ t, t < 10 → ∀ i, i < 10 → chR D t i * (D - t + (i + 1)) < 1000000000 := by decide +kernel
theorem c_choose {D t : Nat} (hD : D < 10) (ht : t ≤ D) : F_X6_choose (nI D) (nI t) σ = some (nL (chR D t t)) := by
  unfold F_X6_choose
  have h := lp (fun k (x : Int64 × Int32) => F_X6_choose_5 σ k (nI D) (nI t) x.1 x.2) t (fun d => (nL (chR D t d), nI (d + 1))) (some (nL (chR D t t))) ?_ ?_ fuel 0 (by omega) (by have := fuel_ge; omega)
  · exact h
  · intro k
    show F_X6_choose_5 σ (k + 1) (nI D) (nI t) _ (nI (t + 1)) = _
    rw [F_X6_choose_5, if_pos ((nI_ltI (by omega) (by omega)).mpr (by omega))]
  · intro k d hd
    have hb := chR_le D hD t (by omega) d (by omega)
    show F_X6_choose_5 σ (k + 1) (nI D) (nI t) (nL (chR D t d)) (nI (d + 1)) = F_X6_choose_5 σ k (nI D) (nI t) (nL (chR D t (d + 1))) (nI (d + 1 + 1))
    rw [F_X6_choose_5, if_neg (fun z => by have := (nI_ltI (by omega) (by omega)).mp z; omega), nL_i (by omega), if_pos (nL_ne (by omega) (by omega)), lt_p, pk_sub ht, nI_add, nL_i (by omega), nL_mul, nL_div (by omega) (by omega), nI_1]
    rfl
theorem gcd_half {x r : Nat} (hr : 0 < r) (hx : r < x) : 2 * (x % r) < x := by
  have h1 := Nat.mod_lt x hr
  have h2 := Nat.mod_add_div x r
  have h3 : 1 ≤ x / r := (Nat.le_div_iff_mul_le hr).mpr (by omega)
  have h4 : r * 1 ≤ r * (x / r) := Nat.mul_le_mul_left r h3
  omega
theorem c_gcd : ∀ s y x i n, x < 2 ^ s → i + 2 * s + 1 ≤ 100 → 2 * s + 1 < n → y < 2 ^ 40 → x < 2 ^ 40 → F_X6_commonDivisor_9 σ n (nL y) (nL x) (nI i) = some (nL (Nat.gcd x y)) := by
  intro s
  induction s with
  | zero =>
    intro y x i n hx hi hn hy hx2
    obtain ⟨n, rfl⟩ : ∃ k, n = k + 1 := ⟨n - 1, by omega⟩
    have : x = 0 := by omega
    subst this
    rw [F_X6_commonDivisor_9, show (100 : Int32) = nI 100 by decide +kernel, if_neg (le_no (by omega) (by omega) (by omega)), if_pos (show nL 0 = 0 from rfl), Nat.gcd_zero_left]
  | succ s ih =>
    intro y x i n hx hi hn hy hx2
    obtain ⟨n, rfl⟩ : ∃ k, n = k + 1 := ⟨n - 1, by omega⟩
    rw [F_X6_commonDivisor_9, show (100 : Int32) = nI 100 by decide +kernel, if_neg (le_no (by omega) (by omega) (by omega))]
    by_cases h0 : x = 0
    · subst h0
      rw [if_pos (show nL 0 = 0 from rfl), Nat.gcd_zero_left]
    · rw [if_neg (nL_ne (by omega) (by omega)), if_pos (nL_ne (by omega) (by omega)), lt_p, nL_rem (by omega) (by omega), nI_1]
      have hr := Nat.mod_lt y (show 0 < x by omega)
      obtain ⟨n, rfl⟩ : ∃ k, n = k + 1 := ⟨n - 1, by omega⟩
      rw [F_X6_commonDivisor_9, show (100 : Int32) = nI 100 by decide +kernel, if_neg (le_no (by omega) (by omega) (by omega)), Nat.gcd_rec x y]
      by_cases h1 : y % x = 0
      · rw [h1, if_pos (show nL 0 = 0 from rfl), Nat.gcd_zero_left]
      · rw [if_neg (nL_ne (by omega) (by omega)), if_pos (nL_ne (by omega) (by omega)), lt_p, nL_rem (by omega) (by omega), nI_1, Nat.gcd_rec (y % x) x]
        have hh := gcd_half (x := x) (r := y % x) (by omega) hr
        have hp : 2 ^ (s + 1) = 2 * 2 ^ s := by rw [Nat.pow_succ]; omega
        have hm := Nat.mod_lt x (show 0 < y % x by omega)
        exact ih (y % x) (x % (y % x)) (i + 1 + 1) n (by omega) (by omega) (by omega) (by omega) (by omega)
theorem r_gcd {a b : Int64} {p : Int32} : ∀ s y x n, x < 2 ^ s → 2 * s + 1 < n → 0 < y → y < 2 ^ 40 → x < 2 ^ 40 → F_X7_term_6 σ n a b p (nL x) (nL y) = some (if p = 0 then a / nL (Nat.gcd x y) else b / nL (Nat.gcd x y)) := by
  intro s
  induction s with
  | zero =>
    intro y x n hx hn hy0 hy hx2
    obtain ⟨n, rfl⟩ : ∃ k, n = k + 1 := ⟨n - 1, by omega⟩
    have : x = 0 := by omega
    subst this
    rw [F_X7_term_6, if_pos (show nL 0 = 0 from rfl), if_pos (nL_ne (by omega) hy0), if_pos (nL_ne (by omega) hy0), Nat.gcd_zero_left]
    split <;> rfl
  | succ s ih =>
    intro y x n hx hn hy0 hy hx2
    obtain ⟨n, rfl⟩ : ∃ k, n = k + 1 := ⟨n - 1, by omega⟩
    rw [F_X7_term_6]
    by_cases h0 : x = 0
    · subst h0
      rw [if_pos (show nL 0 = 0 from rfl), if_pos (nL_ne (by omega) hy0), if_pos (nL_ne (by omega) hy0), Nat.gcd_zero_left]
      split <;> rfl
    · rw [if_neg (nL_ne (by omega) (by omega)), if_pos (nL_ne (a := x) (by omega) (by omega)), lt_p, nL_rem (by omega) (by omega)]
      have hr := Nat.mod_lt y (show 0 < x by omega)
      obtain ⟨n, rfl⟩ : ∃ k, n = k + 1 := ⟨n - 1, by omega⟩
      rw [F_X7_term_6, Nat.gcd_rec x y]
      by_cases h1 : y % x = 0
      · rw [h1, if_pos (show nL 0 = 0 from rfl), if_pos (nL_ne (by omega) (by omega)), if_pos (nL_ne (by omega) (by omega)), Nat.gcd_zero_left]
        split <;> rfl
      · rw [if_neg (nL_ne (by omega) (by omega)), if_pos (nL_ne (a := y % x) (by omega) (by omega)), lt_p, nL_rem (by omega) (by omega), Nat.gcd_rec (y % x) x]
        have hh := gcd_half (x := x) (r := y % x) (by omega) hr
        have hp : 2 ^ (s + 1) = 2 * 2 ^ s := by rw [Nat.pow_succ]; omega
        have hm := Nat.mod_lt x (show 0 < y % x by omega)
        exact ih (y % x) (x % (y % x)) n (by omega) (by omega) (by omega) (by omega) (by omega)
/-- sums of naturals -/
def sumN (f : Nat → Nat) : Nat → Nat
  | 0 => 0
  | n + 1 => sumN f n + f n
def vN (D T k : Nat) : Nat := chR D k k * T ^ k * (10 - T) ^ (D - k)
theorem vN_le : ∀ D, D < 10 → ∀ T, T < 10 → ∀ o, o < D + 2 → sumN (vN D T) o ≤ 10 ^ D := by decide +kernel
def wayN (D : Nat) : Nat → Nat
  | 0 => 1
  | k + 1 => wayN D k * (D - k) / (k + 1)
def prN (T k : Nat) : Nat → Nat
  | 0 => 1
  | i + 1 => prN T k i * (if i < k then T else 10 - T)
theorem way_v : ∀ D, D < 10 → ∀ T, T < 10 → ∀ k, k < D + 1 → wayN D k * prN T k D = vN D T k := by decide +kernel
theorem wayN_le : ∀ D, D < 10 → ∀ k, k < D + 2 → wayN D k ≤ 1000 := by decide +kernel
theorem sumN_cut (f : Nat → Nat) (o : Nat) : ∀ n, sumN (fun k => if k < o then f k else 0) n = sumN f (min o n)
  | 0 => by rw [show min o 0 = 0 by omega]; rfl
  | n + 1 => by
    show sumN _ n + (if n < o then f n else 0) = _
    rw [sumN_cut f o n]
    by_cases h : n < o
    · rw [if_pos h, show min o n = n by omega, show min o (n + 1) = n + 1 by omega]; rfl
    · rw [if_neg h, show min o n = o by omega, show min o (n + 1) = o by omega]; rfl
/-- the cut after t thaws; how many thaws are outlasted and one more -/
def cuj (m : Tw) (d i t : Nat) : Nat := if t = 0 then m 6 d else if m 1 d = 3 ∨ m 0 (m 2 d) ≤ t * i then 0 else m 6 d - t * lost (m 1 d) i
theorem cuj_s {m : Tw} {d i t : Nat} (h : cuj m d i t ≠ 0) : (if m 1 d = 3 ∨ m 0 (m 2 d) - t * i - i = 0 then 0 else cuj m d i t - lost (m 1 d) i) = cuj m d i (t + 1) := by
  unfold cuj at h ⊢
  have e1 : (t + 1) * i = t * i + i := Nat.succ_mul t i
  have e2 : (t + 1) * lost (m 1 d) i = t * lost (m 1 d) i + lost (m 1 d) i := Nat.succ_mul t _
  rw [if_neg (show ¬ t + 1 = 0 by omega), e1, e2]
  by_cases g : m 1 d = 3 ∨ m 0 (m 2 d) ≤ t * i + i
  · rw [if_pos g, if_pos (by omega)]
  · rw [if_neg g, if_neg (by omega)]
    by_cases h0 : t = 0
    · subst h0; simp
    · rw [if_neg h0, if_neg (by omega)]; omega
theorem cuj_0 {m : Tw} {d i t u : Nat} (h : cuj m d i t = 0) (htu : t ≤ u) : cuj m d i u = 0 := by
  unfold cuj at h ⊢
  have e1 : t * i ≤ u * i := Nat.mul_le_mul_right i htu
  have e2 : t * lost (m 1 d) i ≤ u * lost (m 1 d) i := Nat.mul_le_mul_right _ htu
  by_cases h0 : t = 0
  · rw [if_pos h0] at h
    split
    · exact h
    · split <;> omega
  · rw [if_neg h0] at h
    rw [if_neg (by omega)]
    by_cases g : m 1 d = 3 ∨ m 0 (m 2 d) ≤ t * i
    · rw [if_pos (by omega)]
    · rw [if_neg g] at h
      split <;> omega
def onR (m : Tw) (d i : Nat) : Nat → Nat → Nat
  | 0, j => j
  | r + 1, j => if cuj m d i j = 0 then j else onR m d i r (j + 1)
theorem onR_p (m : Tw) (d i : Nat) : ∀ r j, (∀ t, t < j → cuj m d i t ≠ 0) → (onR m d i r j ≤ j + r ∧ ∀ t, t < j + r → (t < onR m d i r j ↔ cuj m d i t ≠ 0))
  | 0, j, h => ⟨Nat.le_refl _, fun t ht => ⟨fun _ => h t ht, fun _ => ht⟩⟩
  | r + 1, j, h => by
    rw [onR]
    by_cases h0 : cuj m d i j = 0
    · rw [if_pos h0]
      refine ⟨by omega, fun t ht => ⟨h t, fun g => ?_⟩⟩
      by_cases hl : t < j
      · exact hl
      · exact absurd (cuj_0 h0 (by omega)) g
    · rw [if_neg h0]
      have := onR_p m d i r (j + 1) (fun t ht => by
        by_cases e : t = j
        · subst e; exact h0
        · exact h t (by omega))
      rw [show j + (r + 1) = j + 1 + r by omega]
      exact this
def onN (m : Tw) (d D i : Nat) : Nat := if m 7 d = 2 then D + 1 else onR m d i (D + 1) 0
theorem onN_le (m : Tw) (d D i : Nat) : onN m d D i ≤ D + 1 := by
  unfold onN
  split
  · omega
  · have := (onR_p m d i (D + 1) 0 (fun t ht => absurd ht (by omega))).1
    omega
theorem nIm_toInt {j : Nat} (h : j < 1000) : (nI j - 1).toInt = (j : Int) - 1 := by
  have := pk_sub_toInt (a := j) (b := 1) (by omega) (by omega)
  rw [li1]; exact this
theorem nIm_s (j : Nat) : nI j - 1 + 1 = nI (j + 1) - 1 := by
  rw [← nI_1 j, Int32.add_sub_cancel, Int32.sub_add_cancel]
theorem c_thaws (hw : Wf m) (hr : RCt σ 0 m) {d D i : Nat} (hd : d < m 9 4) (hD : D < 10) (hi : i ≤ 9) : F_X6_thawsOutlasted (nI d) (nI D) (nI i) σ = some (nI (onN m d D i) - 1) := by
  have hn := hw.nd
  obtain ⟨⟨a0, a1, a2, a3, a4, a5⟩, a6, -⟩ := hr.2.2 d hd
  obtain ⟨w1, w2, w3, w4, w5, w6, w7, w8, w9, w10, w11⟩ := hw.d hd
  have hice := hw.ic w2
  unfold F_X6_thawsOutlasted onN
  rw [inb_t (by omega) (by omega), if_pos rfl, cl_nI (by omega), a6, c_iceUnder hw hr hd, Option.bind_some, lt_p, a5]
  by_cases h2 : m 7 d = 2
  · rw [if_pos h2, if_pos h2, if_neg (by decide), ← nI_1 D, Int32.add_sub_cancel]
  · rw [if_neg h2, if_neg h2, if_pos rfl]
    have key : ∀ r j n, j + r = D + 1 → r < n → F_X6_thawsOutlasted_44 σ n (nI D) (nI i) (10 * 0 + d) (nI (m 0 (m 2 d) - j * i)) (nI (cuj m d i j)) (nI j - 1) (nI j) = some (nI (onR m d i r j) - 1) := by
      intro r
      induction r with
      | zero =>
        intro j n hj hn
        obtain ⟨n, rfl⟩ : ∃ k, n = k + 1 := ⟨n - 1, by omega⟩
        rw [F_X6_thawsOutlasted_44]
        have hl : nI D < nI j := by
          rw [Int32.lt_iff_toInt_lt, nI_toInt (by omega), nI_toInt (by omega)]; omega
        rw [if_pos hl]
        rfl
      | succ r ih =>
        intro j n hj hn
        obtain ⟨n, rfl⟩ : ∃ k, n = k + 1 := ⟨n - 1, by omega⟩
        have hc : cuj m d i j ≤ 18 := by unfold cuj; repeat' split
                                         all_goals omega
        have hl : ¬ nI D < nI j := by
          rw [Int32.lt_iff_toInt_lt, nI_toInt (by omega), nI_toInt (by omega)]; omega
        rw [F_X6_thawsOutlasted_44, onR, if_neg hl]
        by_cases h0 : cuj m d i j = 0
        · rw [if_pos (by rw [h0]; decide +kernel), if_pos h0]
        · rw [if_neg (show ¬ nI (cuj m d i j) ≤ 0 from le_no (b := 0) (by omega) (by omega) (by omega)), if_neg h0, lt_p, lt_p, a0]
          have eI : F_X6_iceBehind 1 (nI i) (nI (m 0 (m 2 d) - j * i)) σ = nI (m 0 (m 2 d) - j * i - i) := c_iceBehind (k := 1) (by omega) hi (by omega) σ
          have eJ : nI (j + 1) - 1 = nI j := by rw [← nI_1 j, Int32.add_sub_cancel]
          have := ih (j + 1) n (by omega) (by omega)
          rw [eJ] at this
          rw [eI, c_cutBehind w1 hc hi (by omega), cuj_s h0, nI_1, show m 0 (m 2 d) - j * i - i = m 0 (m 2 d) - (j + 1) * i by rw [Nat.succ_mul]; omega]
          exact this
    have := key (D + 1) 0 fuel (by omega) (by have := fuel_ge; omega)
    rw [show m 0 (m 2 d) - 0 * i = m 0 (m 2 d) by rw [Nat.zero_mul]; rfl, show cuj m d i 0 = m 6 d from rfl, show nI 0 - 1 = -1 by decide +kernel, show nI 0 = 0 by decide +kernel] at this
    exact this
end ODDS
