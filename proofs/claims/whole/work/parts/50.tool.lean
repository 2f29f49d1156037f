/-! numbers, sums, the picture of a town -/
theorem li0 : (0 : Int32) = nI 0 := by decide +kernel
theorem li1 : (1 : Int32) = nI 1 := by decide +kernel
theorem li2 : (2 : Int32) = nI 2 := by decide +kernel
theorem li3 : (3 : Int32) = nI 3 := by decide +kernel
theorem li4 : (4 : Int32) = nI 4 := by decide +kernel
theorem li5 : (5 : Int32) = nI 5 := by decide +kernel
theorem li6 : (6 : Int32) = nI 6 := by decide +kernel
theorem li7 : (7 : Int32) = nI 7 := by decide +kernel
theorem li8 : (8 : Int32) = nI 8 := by decide +kernel
theorem li9 : (9 : Int32) = nI 9 := by decide +kernel
theorem li10 : (10 : Int32) = nI 10 := by decide +kernel
theorem li12 : (12 : Int32) = nI 12 := by decide +kernel
theorem li16 : (16 : Int32) = nI 16 := by decide +kernel
theorem li20 : (20 : Int32) = nI 20 := by decide +kernel
theorem li24 : (24 : Int32) = nI 24 := by decide +kernel
theorem li60 : (60 : Int32) = nI 60 := by decide +kernel
theorem li99 : (99 : Int32) = nI 99 := by decide +kernel
theorem li126 : (126 : Int32) = nI 126 := by decide +kernel
theorem li200 : (200 : Int32) = nI 200 := by decide +kernel
theorem inb_nI {i n : Nat} (h : i < 2 ^ 31) : inb (nI i) n = decide (i < n) := by
  unfold inb
  rw [nI_clamp h]
  have h1 : ¬ nI i < 0 := nI_pos h
  by_cases h2 : i < n
  · simp [h1, h2]
  · simp [h1, h2, Nat.not_lt.mp h2]
theorem inb_t {i n : Nat} (h : i < n) (hn : n < 2 ^ 31) : inb (nI i) n = true := by
  rw [inb_nI (by omega)]; simp [h]
theorem inb_of {x : Int32} {n : Nat} (hn : n < 2 ^ 31) (h : inb x n = true) : ∃ j, j < n ∧ x = nI j := vp_in_of (inb_in h) hn
theorem cl_nI {n : Nat} (h : n < 2 ^ 31) : Int32.toNatClampNeg (nI n) = n := nI_clamp h
def sumI (f : Nat → Int32) : Nat → Int32
  | 0 => 0
  | n + 1 => sumI f n + f n
theorem sumI_congr {f g : Nat → Int32} : ∀ {n : Nat}, (∀ i, i < n → f i = g i) → sumI f n = sumI g n
  | 0, _ => rfl
  | n + 1, h => by
    show sumI f n + f n = sumI g n + g n
    rw [sumI_congr (fun i hi => h i (by omega)), h n (by omega)]
theorem up_at (σ : Hp) (c k : Nat) (v : Int32) (c' k' : Nat) : (up σ c k v).1 c' k' = if c' = c ∧ k' = k then v else σ.1 c' k' := rfl
theorem up_2 (σ : Hp) (c k : Nat) (v : Int32) : (up σ c k v).2 = σ.2 := rfl
theorem up_c {σ : Hp} {c k : Nat} {v : Int32} {c' k' : Nat} (h : c' ≠ c) : (up σ c k v).1 c' k' = σ.1 c' k' := by
  rw [up_at, if_neg (fun z => h z.1)]
theorem up_k {σ : Hp} {c k : Nat} {v : Int32} {c' k' : Nat} (h : k' ≠ k) : (up σ c k v).1 c' k' = σ.1 c' k' := by
  rw [up_at, if_neg (fun z => h z.2)]
theorem up_s {σ : Hp} {c k : Nat} {v : Int32} : (up σ c k v).1 c k = v := by
  rw [up_at, if_pos ⟨rfl, rfl⟩]
/-- a town: 0 ice, 1 kind, 2 place, 3 debtor, 4 creditor, 5 sum, 6 cut, 7 how (0 gone, 1 there, 2 saved), 8 ice when saved; 9: 0 wide, 1 squares, 2 snow, 3 days, 4 debts -/
abbrev Tw : Type := Nat → Nat → Nat
def Wfd (m : Tw) (d : Nat) : Prop := m 1 d ≤ 4 ∧ m 2 d < m 9 1 ∧ m 3 d ≤ 5 ∧ m 4 d ≤ 5 ∧ m 3 d ≠ m 4 d ∧ 1 ≤ m 5 d ∧ m 5 d ≤ 99 ∧ m 6 d ≤ 18 ∧ m 7 d ≤ 2 ∧ (m 7 d = 0 ↔ m 6 d = 0) ∧ m 8 d ≤ 99
def Wf (m : Tw) : Prop := (∃ r, 2 ≤ r ∧ r ≤ 4 ∧ 2 ≤ m 9 0 ∧ m 9 0 ≤ 4 ∧ m 9 1 = r * m 9 0) ∧ m 9 2 ≤ 9 ∧ m 9 4 ≤ 10 ∧ (∀ c, c < m 9 1 → m 0 c ≤ 99) ∧ ∀ d, d < m 9 4 → Wfd m d
theorem Wf.sq {m : Tw} (h : Wf m) : 4 ≤ m 9 1 ∧ m 9 1 ≤ 16 := by
  obtain ⟨⟨r, h1, h2, h3, h4, h5⟩, -⟩ := h
  rw [h5]
  constructor
  · exact Nat.mul_le_mul h1 h3
  · exact Nat.mul_le_mul h2 h4
theorem Wf.nd {m : Tw} (h : Wf m) : m 9 4 ≤ 10 := h.2.2.1
theorem Wf.ic {m : Tw} (h : Wf m) {c : Nat} (hc : c < m 9 1) : m 0 c ≤ 99 := h.2.2.2.1 c hc
theorem Wf.d {m : Tw} (h : Wf m) {d : Nat} (hd : d < m 9 4) : Wfd m d := h.2.2.2.2 d hd
/-- what a debt is worth -/
def wo (m : Tw) (d : Nat) : Nat := if m 7 d = 0 then 0 else m 5 d + (if m 1 d = 2 ∨ m 1 d = 4 then (if m 7 d = 2 then m 8 d else m 0 (m 2 d)) / 10 else 0)
theorem wo_le {m : Tw} (h : Wf m) {d : Nat} (hd : d < m 9 4) : wo m d ≤ 108 := by
  obtain ⟨-, h2, -, -, -, -, h5, -, -, -, h8⟩ := h.d hd
  have hi := h.ic h2
  unfold wo
  split
  · omega
  · split
    · split <;> omega
    · omega
/-- the class's town t -/
def RCd (σ : Hp) (t : Nat) (m : Tw) (d : Nat) : Prop := (σ.1 (10 * t + d) 0 = nI (m 1 d) ∧ σ.1 (10 * t + d) 1 = nI (m 2 d) ∧ σ.1 (10 * t + d) 2 = nI (m 3 d) ∧ σ.1 (10 * t + d) 3 = nI (m 4 d) ∧ σ.1 (10 * t + d) 4 = nI (m 5 d) ∧ σ.1 (10 * t + d) 5 = nI (m 6 d)) ∧ σ.1 (10 * t + d) 6 = (if m 7 d = 2 then 1 else 0) ∧ (m 7 d = 2 → σ.1 (10 * t + d) 7 = nI (m 8 d))
def RCt (σ : Hp) (t : Nat) (m : Tw) : Prop := (∀ k, k < 5 → σ.1 (30 + t) k = nI (m 9 k)) ∧ (∀ c, c < m 9 1 → σ.1 (33 + t) c = nI (m 0 c)) ∧ ∀ d, d < m 9 4 → RCd σ t m d
/-- the reference's rows -/
def RMd (σ : Hp) (ar : Nat) (m : Tw) (d : Nat) : Prop := (σ.1 ar (8 * d) = nI (m 1 d) ∧ σ.1 ar (8 * d + 1) = nI (m 2 d) ∧ σ.1 ar (8 * d + 2) = nI (m 3 d) ∧ σ.1 ar (8 * d + 3) = nI (m 4 d) ∧ σ.1 ar (8 * d + 4) = nI (m 5 d) ∧ σ.1 ar (8 * d + 5) = nI (m 6 d)) ∧ σ.1 ar (8 * d + 6) = nI (m 7 d) ∧ (m 7 d = 2 → σ.1 ar (8 * d + 7) = nI (wo m d))
def RMt (σ : Hp) (ai as ar : Nat) (m : Tw) : Prop := (∀ c, c < m 9 1 → σ.1 ai c = nI (m 0 c)) ∧ (∀ c, c < 16 → σ.1 as c = nI (m 9 2)) ∧ ∀ d, d < m 9 4 → RMd σ ar m d
theorem ite_b {α : Type} {p : Prop} {i : Decidable p} {b : Bool} (h : decide p = b) (x y : α) : (@ite α p i x y) = if b = true then x else y := by
  subst h; simp
