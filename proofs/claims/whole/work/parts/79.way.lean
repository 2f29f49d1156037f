/-! ways over the ice -/
def adB (w p c : Nat) : Bool := decide (c + w = p ∨ (c = p + 1 ∧ (p + 1) % w ≠ 0) ∨ c = p + w ∨ (c + 1 = p ∧ p % w ≠ 0))
/-- what the steps and the gains are: 99 for no way -/
def Sol (w n a : Nat) (br : Nat → Bool) (rd st gn : Nat → Nat) : Prop :=
  (∀ c, c < n → st c ≠ 99 → st c ≤ 15 ∧ br c = true ∧ ((st c = 0 ∧ c = a ∧ gn c = rd c) ∨ ∃ p, p < n ∧ adB w p c = true ∧ st p ≠ 99 ∧ st p + 1 = st c ∧ gn c = gn p + rd c)) ∧
  (∀ p c, p < n → c < n → st p ≠ 99 → adB w p c = true → br c = true → st c ≠ 99 ∧ st c ≤ st p + 1 ∧ (st p + 1 = st c → gn p + rd c ≤ gn c)) ∧
  (br a = true → st a = 0)
section WAY
variable {w n a : Nat} {br : Nat → Bool} {rd st gn st' gn' : Nat → Nat}
theorem Sol_le (h : Sol w n a br rd st gn) (h' : Sol w n a br rd st' gn') : ∀ k c, c < n → st' c = k → k ≠ 99 → st c ≠ 99 ∧ st c ≤ k := by
  intro k
  induction k with
  | zero =>
    intro c hc hk h9
    obtain ⟨-, b, e⟩ := h'.1 c hc (by omega)
    rcases e with ⟨e1, e2, -⟩ | ⟨p, -, -, -, e, -⟩
    · subst e2
      have := h.2.2 b
      omega
    · omega
  | succ k ih =>
    intro c hc hk h9
    obtain ⟨h15, b, e⟩ := h'.1 c hc (by omega)
    rcases e with ⟨e1, e2, -⟩ | ⟨p, p1, p2, p3, p4, -⟩
    · omega
    · obtain ⟨q1, q2⟩ := ih p p1 (by omega) (by omega)
      obtain ⟨r1, r2, -⟩ := h.2.1 p c p1 hc q1 p2 b
      exact ⟨r1, by omega⟩
theorem Sol_st (h : Sol w n a br rd st gn) (h' : Sol w n a br rd st' gn') {c : Nat} (hc : c < n) : st c = st' c := by
  by_cases h9 : st' c = 99
  · by_cases g9 : st c = 99
    · omega
    · have := Sol_le h' h (st c) c hc rfl g9
      omega
  · have h1 := Sol_le h h' (st' c) c hc rfl h9
    have h2 := Sol_le h' h (st c) c hc rfl h1.1
    omega
theorem Sol_gn (h : Sol w n a br rd st gn) (h' : Sol w n a br rd st' gn') : ∀ k c, c < n → st c = k → k ≠ 99 → gn c = gn' c := by
  intro k
  induction k with
  | zero =>
    intro c hc hk h9
    have he := Sol_st h h' hc
    obtain ⟨-, b, e⟩ := h.1 c hc (by omega)
    obtain ⟨-, b', e'⟩ := h'.1 c hc (by omega)
    rcases e with ⟨e1, e2, e3⟩ | ⟨p, -, -, -, e, -⟩
    · rcases e' with ⟨e1', e2', e3'⟩ | ⟨p, -, -, -, e', -⟩
      · omega
      · omega
    · omega
  | succ k ih =>
    intro c hc hk h9
    have he := Sol_st h h' hc
    obtain ⟨-, b, e⟩ := h.1 c hc (by omega)
    obtain ⟨h15, b', e'⟩ := h'.1 c hc (by omega)
    rcases e with ⟨e1, -, -⟩ | ⟨p, p1, p2, p3, p4, p5⟩
    · omega
    · rcases e' with ⟨e1', -, -⟩ | ⟨q, q1, q2, q3, q4, q5⟩
      · omega
      · have sp := Sol_st h h' p1
        have sq := Sol_st h h' q1
        have gp := ih p p1 (by omega) (by omega)
        have gq := ih q q1 (by omega) (by omega)
        have l1 := (h'.2.1 p c p1 hc (by omega) p2 b').2.2 (by omega)
        have l2 := (h.2.1 q c q1 hc (by omega) q2 b).2.2 (by omega)
        omega
/-- one round of the reference -/
def moR (w n k : Nat) (st gn : Nat → Nat) (c : Nat) : Nat := mx (fun p => if st p + 1 = k ∧ adB w p c = true then gn p + 1 else 0) n
def isN (w n k : Nat) (br : Nat → Bool) (st gn : Nat → Nat) (c : Nat) : Bool := decide (st c = 99 ∧ br c = true ∧ 0 < moR w n k st gn c)
def stN (w n k : Nat) (br : Nat → Bool) (st gn : Nat → Nat) (c : Nat) : Nat := if isN w n k br st gn c = true then k else st c
def gnN (w n k : Nat) (br : Nat → Bool) (rd st gn : Nat → Nat) (c : Nat) : Nat := if isN w n k br st gn c = true then rd c + (moR w n k st gn c - 1) else gn c
/-- what holds before round k -/
def Rd (w n a k : Nat) (br : Nat → Bool) (rd st gn : Nat → Nat) : Prop :=
  (∀ c, c < n → st c ≠ 99 → st c < k ∧ br c = true ∧ gn c ≤ (st c + 1) * 1080 ∧ ((st c = 0 ∧ c = a ∧ gn c = rd c) ∨ ∃ p, p < n ∧ adB w p c = true ∧ st p ≠ 99 ∧ st p + 1 = st c ∧ gn c = gn p + rd c)) ∧
  (∀ p c, p < n → c < n → st p ≠ 99 → st p + 1 < k → adB w p c = true → br c = true → st c ≠ 99 ∧ st c ≤ st p + 1) ∧
  (∀ p c, p < n → c < n → st p ≠ 99 → st c ≠ 99 → adB w p c = true → st p + 1 = st c → gn p + rd c ≤ gn c) ∧
  (br a = true → st a = 0) ∧
  (∀ c, c < n → st c = 99 → gn c = rd c) ∧
  k ≤ sumN (fun c => if st c = 99 then 0 else 1) n
theorem isN_t {w n k : Nat} {br : Nat → Bool} {st gn : Nat → Nat} {c : Nat} : isN w n k br st gn c = true ↔ (st c = 99 ∧ br c = true ∧ 0 < moR w n k st gn c) := by
  unfold isN; exact decide_eq_true_iff
theorem moR_at {k c : Nat} (h : 0 < moR w n k st gn c) : ∃ p, p < n ∧ st p + 1 = k ∧ adB w p c = true ∧ moR w n k st gn c = gn p + 1 := by
  unfold moR at h ⊢
  rcases mx_at (fun p => if st p + 1 = k ∧ adB w p c = true then gn p + 1 else 0) n with e | ⟨p, h1, h2⟩
  · omega
  · by_cases g : st p + 1 = k ∧ adB w p c = true
    · rw [if_pos g] at h2
      exact ⟨p, h1, g.1, g.2, h2⟩
    · rw [if_neg g] at h2
      omega
theorem moR_ge {k c p : Nat} (hp : p < n) (h1 : st p + 1 = k) (h2 : adB w p c = true) : gn p + 1 ≤ moR w n k st gn c := by
  have := mx_ge (f := fun p => if st p + 1 = k ∧ adB w p c = true then gn p + 1 else 0) hp
  rw [if_pos ⟨h1, h2⟩] at this
  exact this
theorem sumN_mono {f g : Nat → Nat} : ∀ {n : Nat}, (∀ i, i < n → f i ≤ g i) → sumN f n ≤ sumN g n
  | 0, _ => Nat.le_refl 0
  | n + 1, h => by
    show sumN f n + f n ≤ sumN g n + g n
    have := sumN_mono (n := n) (fun i hi => h i (by omega))
    have := h n (by omega)
    omega
theorem sumN_lt {f g : Nat → Nat} {j : Nat} : ∀ {n : Nat}, (∀ i, i < n → f i ≤ g i) → j < n → f j < g j → sumN f n < sumN g n
  | 0, _, h, _ => absurd h (by omega)
  | n + 1, h, hj, hl => by
    show sumN f n + f n < sumN g n + g n
    have h2 := h n (by omega)
    by_cases e : j = n
    · subst e
      have := sumN_mono (n := j) (fun i hi => h i (by omega))
      omega
    · have := sumN_lt (n := n) (fun i hi => h i (by omega)) (by omega) hl
      omega
theorem sumN_ind (st : Nat → Nat) : ∀ n, sumN (fun c => if st c = 99 then 0 else 1) n ≤ n
  | 0 => Nat.le_refl 0
  | n + 1 => by
    show sumN _ n + (if st n = 99 then 0 else 1) ≤ n + 1
    have := sumN_ind st n
    split <;> omega
theorem Rd_s {k : Nat} (hk : 1 ≤ k) (hk2 : k < 90) (hrd : ∀ c, rd c ≤ 1080) (h : Rd w n a k br rd st gn) {j : Nat} (hj : j < n) (hN : isN w n k br st gn j = true) : Rd w n a (k + 1) br rd (stN w n k br st gn) (gnN w n k br rd st gn) := by
  obtain ⟨r1, r2, r3, r4, r5, r6⟩ := h
  have old : ∀ c, st c ≠ 99 → stN w n k br st gn c = st c ∧ gnN w n k br rd st gn c = gn c := by
    intro c hc
    have : ¬ isN w n k br st gn c = true := fun z => hc (isN_t.mp z).1
    unfold stN gnN
    rw [if_neg this, if_neg this]
    exact ⟨rfl, rfl⟩
  have new : ∀ c, isN w n k br st gn c = true → stN w n k br st gn c = k ∧ gnN w n k br rd st gn c = rd c + (moR w n k st gn c - 1) := by
    intro c hc
    unfold stN gnN
    rw [if_pos hc, if_pos hc]
    exact ⟨rfl, rfl⟩
  have non : ∀ c, st c = 99 → ¬ isN w n k br st gn c = true → stN w n k br st gn c = 99 ∧ gnN w n k br rd st gn c = gn c := by
    intro c hc hn
    unfold stN gnN
    rw [if_neg hn, if_neg hn]
    exact ⟨hc, rfl⟩
  have lt9 : ∀ c, stN w n k br st gn c ≠ 99 → st c ≠ 99 ∨ isN w n k br st gn c = true := by
    intro c hc
    by_cases g : st c = 99
    · by_cases g2 : isN w n k br st gn c = true
      · exact Or.inr g2
      · exact absurd (non c g g2).1 hc
    · exact Or.inl g
  refine ⟨fun c hc h9 => ?_, fun p c hp hc h9 hlt had hb => ?_, fun p c hp hc h9 h9' had he => ?_, fun hb => ?_, fun c hc h9 => ?_, ?_⟩
  · rcases lt9 c h9 with g | g
    · obtain ⟨e1, e2⟩ := old c g
      obtain ⟨a1, a2, a3, a4⟩ := r1 c hc g
      rw [e1, e2]
      refine ⟨by omega, a2, a3, ?_⟩
      rcases a4 with a4 | ⟨p, p1, p2, p3, p4, p5⟩
      · exact Or.inl a4
      · obtain ⟨f1, f2⟩ := old p p3
        exact Or.inr ⟨p, p1, p2, by rw [f1]; exact p3, by rw [f1]; exact p4, by rw [f2]; exact p5⟩
    · obtain ⟨e1, e2⟩ := new c g
      obtain ⟨g1, g2, g3⟩ := isN_t.mp g
      obtain ⟨p, p1, p2, p3, p4⟩ := moR_at g3
      have hp9 : st p ≠ 99 := by omega
      obtain ⟨f1, f2⟩ := old p hp9
      obtain ⟨a1, a2, a3, -⟩ := r1 p p1 hp9
      have hrc := hrd c
      rw [e1, e2, p4, Nat.add_sub_cancel]
      have hm : (k + 1) * 1080 = (st p + 1) * 1080 + 1080 := by rw [p2]; omega
      exact ⟨by omega, g2, by omega, Or.inr ⟨p, p1, p3, by rw [f1]; exact hp9, by rw [f1]; omega, by rw [f2]; omega⟩⟩
  · rcases lt9 p h9 with g | g
    · obtain ⟨e1, e2⟩ := old p g
      rw [e1] at hlt ⊢
      by_cases gl : st p + 1 < k
      · obtain ⟨q1, q2⟩ := r2 p c hp hc g gl had hb
        rw [(old c q1).1]
        exact ⟨q1, q2⟩
      · have hek : st p + 1 = k := by omega
        by_cases gc : st c = 99
        · have hm := moR_ge (n := n) (w := w) (st := st) (gn := gn) (k := k) hp hek had
          have hN2 : isN w n k br st gn c = true := isN_t.mpr ⟨gc, hb, by omega⟩
          rw [(new c hN2).1]
          omega
        · rw [(old c gc).1]
          have := (r1 c hc gc).1
          exact ⟨gc, by omega⟩
    · rw [(new p g).1] at hlt; omega
  · rcases lt9 p h9 with g | g
    · obtain ⟨e1, e2⟩ := old p g
      rcases lt9 c h9' with g' | g'
      · obtain ⟨f1, f2⟩ := old c g'
        rw [e1, f1] at he
        rw [e2, f2]
        exact r3 p c hp hc g g' had he
      · obtain ⟨f1, f2⟩ := new c g'
        rw [e1, f1] at he
        rw [e2, f2]
        have hm := moR_ge (n := n) (w := w) (st := st) (gn := gn) (k := k) hp he had
        omega
    · rw [(new p g).1] at he
      rcases lt9 c h9' with g' | g'
      · rw [(old c g').1] at he
        have := (r1 c hc g').1
        omega
      · rw [(new c g').1] at he; omega
  · have := r4 hb
    rw [(old a (by omega)).1]; exact this
  · by_cases gc : st c = 99
    · by_cases g2 : isN w n k br st gn c = true
      · rw [(new c g2).1] at h9; omega
      · rw [(non c gc g2).2]; exact r5 c hc gc
    · rw [(old c gc).1] at h9; exact absurd h9 gc
  · have hlt : sumN (fun c => if st c = 99 then 0 else 1) n < sumN (fun c => if stN w n k br st gn c = 99 then 0 else 1) n := by
      refine sumN_lt (j := j) (fun i hi => ?_) hj ?_
      · by_cases gi : st i = 99
        · rw [if_pos gi]; omega
        · rw [if_neg gi, if_neg (by rw [(old i gi).1]; exact gi)]; omega
      · rw [if_pos (isN_t.mp hN).1, (new j hN).1, if_neg (by omega)]; omega
    omega
theorem Rd_end {k : Nat} (hk2 : k ≤ 16) (h : Rd w n a k br rd st gn) (hno : ∀ c, c < n → ¬ isN w n k br st gn c = true) : Sol w n a br rd st gn := by
  obtain ⟨r1, r2, r3, r4, r5, r6⟩ := h
  refine ⟨fun c hc h9 => ?_, fun p c hp hc h9 had hb => ?_, r4⟩
  · obtain ⟨a1, a2, a3, a4⟩ := r1 c hc h9
    exact ⟨by omega, a2, a4⟩
  · have hpk := (r1 p hp h9).1
    have key : st c ≠ 99 ∧ st c ≤ st p + 1 := by
      by_cases gl : st p + 1 < k
      · exact r2 p c hp hc h9 gl had hb
      · by_cases gc : st c = 99
        · have hm := moR_ge (n := n) (w := w) (st := st) (gn := gn) (k := k) (c := c) hp (by omega) had
          exact absurd (isN_t.mpr ⟨gc, hb, by omega⟩) (hno c hc)
        · have := (r1 c hc gc).1
          exact ⟨gc, by omega⟩
    exact ⟨key.1, key.2, fun he => r3 p c hp hc h9 key.1 had he⟩
end WAY
