/-! calls that only read -/
theorem sum_loop (F : Nat → Int32 → Int32 → Option Int32) (N : Nat) (f : Nat → Int32) (hexit : ∀ n a, F (n + 1) a (nI N) = some a) (hstep : ∀ n d a, d < N → F (n + 1) a (nI d) = F n (a + f d) (nI (d + 1))) : ∀ n d a, d ≤ N → N < d + n → a = sumI f d → F n a (nI d) = some (sumI f N) := by
  intro n
  induction n with
  | zero => intro d a h1 h2; omega
  | succ n ih =>
    intro d a h1 h2 ha
    by_cases hd : d < N
    · rw [hstep n d a hd]
      exact ih (d + 1) _ (by omega) (by omega) (by rw [ha]; rfl)
    · have : d = N := by omega
      subst this
      rw [hexit, ha]
theorem i32_asb (a x y : Int32) : a + x - y = a + (x - y) := by
  rw [Int32.sub_eq_add_neg, Int32.sub_eq_add_neg, Int32.add_assoc]
theorem le_no {a b : Nat} (ha : a < 2 ^ 31) (hb : b < 2 ^ 31) (h : b < a) : ¬ nI a ≤ nI b := fun z => by
  have := (nI_leI ha hb).mp z; omega
section READ
variable {σ : Hp} {m : Tw}
def owI (m : Tw) (a b : Int32) (read : Bool) : Int32 := sumI (fun d => if nI (m 3 d) = a ∧ nI (m 4 d) = b ∧ (read = false ∨ 2 ≤ look m d) then nI (wo m d) else 0) (m 9 4)
theorem look_le (m : Tw) (d : Nat) : look m d ≤ 3 := by
  unfold look
  repeat' split
  all_goals omega
theorem c_owes_loop (hw : Wf m) (hr : RCt σ 0 m) (a b : Int32) (rd : Bool) (n : Nat) (h : m 9 4 < n) : F_X6_owes_17 σ n a b rd 0 0 = some (owI m a b rd) := by
  have hn := hw.nd
  have h4 : σ.1 30 4 = nI (m 9 4) := hr.1 4 (by omega)
  refine sum_loop (fun n s d => F_X6_owes_17 σ n a b rd s d) (m 9 4) _ ?_ ?_ n 0 0 (by omega) (by omega) rfl
  · intro n s
    show F_X6_owes_17 σ (n + 1) a b rd s (nI (m 9 4)) = _
    rw [F_X6_owes_17, h4, if_pos (nle.mp (fun z => by have := (nI_ltI (by omega) (by omega)).mp z; omega))]
  · intro n d s hd
    obtain ⟨⟨a0, a1, a2, a3, a4, a5⟩, -, -⟩ := hr.2.2 d hd
    have hlk := look_le m d
    show F_X6_owes_17 σ (n + 1) a b rd s (nI d) = _
    rw [F_X6_owes_17, h4, if_neg (le_no (by omega) (by omega) hd), inb_t (by omega) (by omega), cl_nI (by omega), c_conditionOf hw hr hd, li2]
    simp (disch := omega) only [if_true, F_X6_owes_60, F_X6_owes_99, a2, a3, c_worthOf hw hr hd, Option.bind_some, lt, nI_1, nI_ltI]
    have zz : ∀ (p q : Prop) [Decidable p] [Decidable q], True := fun _ _ _ _ => trivial
    by_cases e1 : nI (m 3 d) = a
    · by_cases e2 : nI (m 4 d) = b
      · cases rd with
        | false => simp [e1, e2]
        | true =>
          by_cases e3 : look m d < 2
          · simp [e1, e2, e3, Nat.not_le.mpr e3]
          · simp [e1, e2, e3, Nat.not_lt.mp e3]
      · simp [e1, e2]
    · simp [e1]
theorem r_owes_loop (hw : Wf m) (hr : RMc σ m) (a b : Int32) (rd : Bool) : F_X7_owesOf a b rd σ = some (owI m a b rd) := by
  have hn := hw.nd
  have h4 := hr.2.2.2.1
  unfold F_X7_owesOf
  refine sum_loop (fun n s d => F_X7_owesOf_6 σ n a b rd s d) (m 9 4) _ ?_ ?_ fuel 0 0 (by omega) (by have := fuel_ge; omega) rfl
  · intro n s
    show F_X7_owesOf_6 σ (n + 1) a b rd s (nI (m 9 4)) = _
    rw [F_X7_owesOf_6, h4, if_pos (nle.mp (fun z => by have := (nI_ltI (by omega) (by omega)).mp z; omega))]
  · intro n d s hd
    obtain ⟨⟨a0, a1, a2, a3, a4, a5⟩, -, -⟩ := hr.2.2.2.2.2.2 d hd
    have hlk := look_le m d
    show F_X7_owesOf_6 σ (n + 1) a b rd s (nI d) = _
    rw [F_X7_owesOf_6, h4, if_neg (le_no (by omega) (by omega) hd)]
    simp (disch := omega) only [li1, li2, li3, ix8, inb_t, cl_nI, if_true, F_X7_owesOf_66, F_X7_owesOf_85, a2, a3, r_worthOf hw hr hd, r_lookOf hw hr hd, Option.bind_some, lt, nI_add, nI_leI]
    by_cases e1 : nI (m 3 d) = a
    · by_cases e2 : nI (m 4 d) = b
      · cases rd with
        | false => simp [e1, e2]
        | true =>
          by_cases e3 : look m d ≤ 1
          · have : ¬ 2 ≤ look m d := by omega
            simp [e1, e2, e3, this]
          · have : 2 ≤ look m d := by omega
            simp [e1, e2, e3, this]
      · simp [e1, e2]
    · simp [e1]
def owA (m : Tw) (a b : Int32) (rd : Bool) : Int32 := if wn a 0 5 = true ∧ wn b 0 5 = true ∧ ¬ a = b then owI m a b rd else -101
theorem c_owes (hw : Wf m) (hr : RCt σ 0 m) (a b : Int32) (rd : Bool) : F_X6_owes a b rd σ = some (owA m a b rd) := by
  have hn := hw.nd
  unfold F_X6_owes F_X6_arePair owA
  rw [c_isPerson, c_isPerson, c_owes_loop hw hr a b rd fuel (by have := fuel_ge; omega)]
  cases h1 : wn a 0 5 <;> cases h2 : wn b 0 5 <;> by_cases h3 : a = b <;> simp [h3]
theorem r_owes (hw : Wf m) (hr : RMc σ m) (a b : Int32) (rd : Bool) : F_X7_owes a b rd σ = some (owA m a b rd) := by
  unfold F_X7_owes owA
  rw [r_isPerson, r_isPerson, r_owes_loop hw hr a b rd]
  cases h1 : wn a 0 5 <;> cases h2 : wn b 0 5 <;> by_cases h3 : a = b <;> simp [h3]
/-- REST of one -/
def reI (m : Tw) (p : Int32) : Int32 := sumI (fun d => (if nI (m 4 d) = p then nI (wo m d) else 0) - (if nI (m 3 d) = p then nI (wo m d) else 0)) (m 9 4)
theorem c_restOf {t : Nat} (hw : Wf m) (hr : RCt σ t m) (p : Int32) : F_X5_restOf t p σ = some (reI m p) := by
  have hn := hw.nd
  have h4 := hr.1 4 (by omega)
  unfold F_X5_restOf
  refine sum_loop (fun n s d => F_X5_restOf_4 t σ n p s d) (m 9 4) _ ?_ ?_ fuel 0 0 (by omega) (by have := fuel_ge; omega) rfl
  · intro n s
    show F_X5_restOf_4 t σ (n + 1) p s (nI (m 9 4)) = _
    rw [F_X5_restOf_4, h4, if_pos (nle.mp (fun z => by have := (nI_ltI (by omega) (by omega)).mp z; omega))]
  · intro n d s hd
    obtain ⟨⟨a0, a1, a2, a3, a4, a5⟩, -, -⟩ := hr.2.2 d hd
    show F_X5_restOf_4 t σ (n + 1) p s (nI d) = _
    rw [F_X5_restOf_4, h4, if_neg (le_no (by omega) (by omega) hd)]
    simp (disch := omega) only [inb_t, cl_nI, if_true, F_X5_restOf_33, F_X5_restOf_54, a2, a3, c_worthOf hw hr hd, Option.bind_some, lt, nI_1]
    by_cases e1 : nI (m 4 d) = p
    · by_cases e2 : nI (m 3 d) = p
      · simp [e1, e2, i32_asb]
      · simp [e1, e2]
    · by_cases e2 : nI (m 3 d) = p
      · simp [e1, e2, Int32.sub_eq_add_neg]
      · simp [e1, e2]
theorem sumI_0 : ∀ n : Nat, sumI (fun _ => 0) n = 0
  | 0 => rfl
  | n + 1 => by show sumI _ n + 0 = 0; rw [sumI_0 n]; rfl
theorem i32_4 (a b c d : Int32) : a + b + (c + d) = a + c + (b + d) := by
  rw [Int32.add_assoc, Int32.add_assoc, ← Int32.add_assoc b c d, Int32.add_comm b c, Int32.add_assoc c b d]
theorem sumI_add (f g : Nat → Int32) : ∀ n : Nat, sumI (fun i => f i + g i) n = sumI f n + sumI g n
  | 0 => rfl
  | n + 1 => by
    show sumI _ n + (f n + g n) = (sumI f n + f n) + (sumI g n + g n)
    rw [sumI_add f g n, i32_4]
theorem sumI_neg (f : Nat → Int32) : ∀ n : Nat, sumI (fun i => - f i) n = - sumI f n
  | 0 => by show (0 : Int32) = - 0; decide
  | n + 1 => by
    show sumI _ n + - f n = - (sumI f n + f n)
    rw [sumI_neg f n, Int32.neg_add, Int32.sub_eq_add_neg]
theorem sumI_sub (f g : Nat → Int32) (n : Nat) : sumI (fun i => f i - g i) n = sumI f n - sumI g n := by
  have : (fun i => f i - g i) = fun i => f i + - g i := by funext i; exact Int32.sub_eq_add_neg ..
  rw [this, sumI_add, sumI_neg, ← Int32.sub_eq_add_neg]
theorem sumI_swap (f : Nat → Nat → Int32) (k : Nat) : ∀ n : Nat, sumI (fun q => sumI (fun d => f q d) n) k = sumI (fun d => sumI (fun q => f q d) k) n
  | 0 => sumI_0 k
  | n + 1 => by
    show sumI (fun q => sumI (fun d => f q d) n + f q n) k = sumI _ n + sumI (fun q => f q n) k
    rw [sumI_add, sumI_swap f k n]
theorem sumI_pick {a w : Int32} {k v : Nat} (hk : k < 2 ^ 31) (hv : v < k) (g : Prop) [Decidable g] : sumI (fun q => if nI v = nI q ∧ g then w else 0) k = if g then w else 0 := by
  have key : ∀ n, n ≤ k → sumI (fun q => if nI v = nI q ∧ g then w else 0) n = if v < n ∧ g then w else 0 := by
    intro n
    induction n with
    | zero => intro _; simp [sumI]
    | succ n ih =>
      intro hn
      show sumI _ n + (if nI v = nI n ∧ g then w else 0) = _
      rw [ih (by omega)]
      have e : (nI v = nI n) ↔ v = n := nI_eq (by omega) (by omega)
      by_cases hg : g
      · by_cases h1 : v = n
        · simp [hg, h1]
        · have h2 : ¬ nI v = nI n := fun z => h1 (e.mp z)
          by_cases h3 : v < n
          · have : v < n + 1 := by omega
            simp [hg, h2, h3, this]
          · have : ¬ v < n + 1 := by omega
            simp [hg, h2, h3, this]
      · simp [hg]
  rw [key k (Nat.le_refl k)]
  simp [hv]
theorem r_restOf (hw : Wf m) (hr : RMc σ m) (p : Int32) : F_X7_restOf p σ = some (reI m p) := by
  have hn := hw.nd
  have h1 : F_X7_restOf p σ = some (sumI (fun q => owI m (nI q) p false - owI m p (nI q) false) 6) := by
    unfold F_X7_restOf
    refine sum_loop (fun n s d => F_X7_restOf_4 σ n p s d) 6 _ ?_ ?_ fuel 0 0 (by omega) (by have := fuel_ge; omega) rfl
    · intro n s
      show F_X7_restOf_4 σ (n + 1) p s (nI 6) = _
      rw [F_X7_restOf_4, if_pos (by decide +kernel)]
    · intro n d s hd
      show F_X7_restOf_4 σ (n + 1) p s (nI d) = _
      rw [F_X7_restOf_4, li6, if_neg (le_no (by omega) (by omega) hd), r_owes_loop hw hr, r_owes_loop hw hr]
      simp only [Option.bind_some, lt, nI_1]
  rw [h1]
  congr 1
  unfold owI reI
  rw [sumI_sub, sumI_sub]
  congr 1
  · rw [sumI_swap]
    apply sumI_congr
    intro d hd
    obtain ⟨w1, w2, w3, w4, -⟩ := hw.d hd
    have := sumI_pick (a := p) (w := nI (wo m d)) (k := 6) (v := m 3 d) (by omega) (by omega) (nI (m 4 d) = p)
    simpa using this
  · rw [sumI_swap]
    apply sumI_congr
    intro d hd
    obtain ⟨w1, w2, w3, w4, -⟩ := hw.d hd
    have := sumI_pick (a := p) (w := nI (wo m d)) (k := 6) (v := m 4 d) (by omega) (by omega) (nI (m 3 d) = p)
    rw [← this]
    apply sumI_congr
    intro q _
    by_cases e1 : nI (m 3 d) = p <;> by_cases e2 : nI (m 4 d) = nI q <;> simp [e1, e2]
def reA (m : Tw) (p : Int32) : Int32 := if wn p 0 5 = true then reI m p else -100001
theorem c_rest (hw : Wf m) (hr : RCt σ 0 m) (p : Int32) : F_X6_rest p σ = some (reA m p) := by
  unfold F_X6_rest reA
  rw [c_isPerson, c_restOf hw hr]
  split <;> rfl
theorem r_rest (hw : Wf m) (hr : RMc σ m) (p : Int32) : F_X7_rest p σ = some (reA m p) := by
  unfold F_X7_rest reA
  rw [r_isPerson, r_restOf hw hr]
  split <;> rfl
end READ
