/-! the skater's queue -/
def fset (f : Nat → Nat) (x v : Nat) : Nat → Nat := fun y => if y = x then v else f y
theorem fset_s {f : Nat → Nat} {x v : Nat} : fset f x v x = v := by unfold fset; rw [if_pos rfl]
theorem fset_n {f : Nat → Nat} {x v y : Nat} (h : y ≠ x) : fset f x v y = f y := by unfold fset; rw [if_neg h]
def IB (w n a : Nat) (br : Nat → Bool) (rd : Nat → Nat) (E : Nat → Nat → Prop) (F : Nat) (st gn q : Nat → Nat) (qn : Nat) : Prop :=
  (∀ j, j < qn → q j < n ∧ st (q j) ≠ 99 ∧ st (q j) ≤ j) ∧
  (∀ c, c < 16 → st c ≠ 99 → c < n ∧ br c = true ∧ st c ≤ F + 1 ∧ gn c ≤ (st c + 1) * 1080 ∧ (∃ j, j < qn ∧ q j = c) ∧ ((st c = 0 ∧ c = a ∧ gn c = rd c) ∨ ∃ p, p < n ∧ adB w p c = true ∧ st p ≠ 99 ∧ st p + 1 = st c ∧ gn c = gn p + rd c)) ∧
  (∀ j l, j ≤ l → l < qn → st (q j) ≤ st (q l)) ∧
  (∀ p c, E p c → p < n ∧ st p ≠ 99 ∧ st p ≤ F ∧ (c < n → br c = true → st c ≠ 99 ∧ st c ≤ st p + 1 ∧ (st p + 1 = st c → gn p + rd c ≤ gn c))) ∧
  st a = 0 ∧ sumN (fun c => if st c = 99 then 0 else 1) 16 = qn
section QUEUE
variable {w n a : Nat} {br : Nat → Bool} {rd st gn q : Nat → Nat} {E : Nat → Nat → Prop} {F qn : Nat}
theorem IB_no (hn : n ≤ 16) (h : IB w n a br rd E F st gn q qn) {p0 c : Nat} (hp : p0 < n) (hF : st p0 = F) (hF9 : F ≠ 99) (hb : br c = true → st c ≠ 99 ∧ st c ≠ F + 1) (hc : c < n) : IB w n a br rd (fun p' c' => E p' c' ∨ (p' = p0 ∧ c' = c)) F st gn q qn := by
  obtain ⟨b1, b2, b3, b4, b5, b6⟩ := h
  refine ⟨b1, b2, b3, fun p c' hE => ?_, b5, b6⟩
  rcases hE with hE | ⟨rfl, rfl⟩
  · exact b4 p c' hE
  · refine ⟨hp, by omega, by omega, fun hc' hbr => ?_⟩
    obtain ⟨g1, g2⟩ := hb hbr
    have := (b2 c' (by omega) g1).2.2.1
    exact ⟨g1, by omega, fun z => by omega⟩
theorem sumN_up (st : Nat → Nat) {x v : Nat} (hx : st x = 99) (hv : v ≠ 99) : ∀ N, sumN (fun c => if fset st x v c = 99 then 0 else 1) N = sumN (fun c => if st c = 99 then 0 else 1) N + (if x < N then 1 else 0)
  | 0 => rfl
  | N + 1 => by
    show sumN _ N + (if fset st x v N = 99 then 0 else 1) = sumN _ N + (if st N = 99 then 0 else 1) + _
    rw [sumN_up st hx hv N]
    by_cases e : N = x
    · subst e
      rw [fset_s, if_neg hv, if_pos hx, if_neg (by omega), if_pos (by omega)]
    · rw [fset_n e]
      by_cases g : x < N
      · rw [if_pos g, if_pos (show x < N + 1 by omega)]; omega
      · rw [if_neg g, if_neg (show ¬ x < N + 1 by omega)]; omega
theorem IB_room (h : IB w n a br rd E F st gn q qn) {c : Nat} (hc : c < 16) (h9 : st c = 99) : qn < 16 := by
  have h6 := h.2.2.2.2.2
  have := sumN_lt (f := fun c => if st c = 99 then 0 else 1) (g := fun _ => 1) (j := c) (n := 16) (fun i _ => by split <;> omega) hc (by rw [if_pos h9]; omega)
  have e : sumN (fun _ => 1) 16 = 16 := by decide
  omega
theorem IB_new (hn : n ≤ 16) (hrd : ∀ c, rd c ≤ 1080) (h : IB w n a br rd E F st gn q qn) {p0 c i : Nat} (hp : p0 < n) (hF : st p0 = F) (hF9 : F ≠ 99) (hi : i < qn) (hqi : st (q i) = F) (hb : br c = true) (hc : c < n) (had : adB w p0 c = true) (h9 : st c = 99) : IB w n a br rd (fun p' c' => E p' c' ∨ (p' = p0 ∧ c' = c)) F (fset st c (F + 1)) (fset gn c (gn p0 + rd c)) (fset q qn c) (qn + 1) := by
  have hroom := IB_room h (by omega) h9
  obtain ⟨b1, b2, b3, b4, b5, b6⟩ := h
  have hFi : F ≤ i := by have := (b1 i hi).2.2; omega
  have hF98 : F + 1 ≠ 99 := by omega
  have hqne : ∀ j, j < qn → q j ≠ c := fun j hj z => by have := (b1 j hj).2.1; rw [z] at this; exact this h9
  have hpc : p0 ≠ c := fun z => by rw [z, h9] at hF; omega
  have hac : a ≠ c := fun z => by rw [z, h9] at b5; omega
  have qold : ∀ j, j < qn → fset q qn c j = q j := fun j hj => fset_n (by omega)
  refine ⟨fun j hj => ?_, fun c' hc' h9' => ?_, fun j l hjl hl => ?_, fun p c' hE => ?_, by rw [fset_n hac]; exact b5, ?_⟩
  · by_cases e : j = qn
    · subst e
      rw [fset_s, fset_s]
      exact ⟨hc, hF98, by omega⟩
    · rw [qold j (by omega), fset_n (hqne j (by omega))]
      exact b1 j (by omega)
  · by_cases e : c' = c
    · subst e
      rw [fset_s, fset_s]
      have hg := (b2 p0 (by omega) (by omega)).2.2.2.1
      have hr := hrd c'
      have hm : (F + 1 + 1) * 1080 = (st p0 + 1) * 1080 + 1080 := by rw [hF]; omega
      exact ⟨hc, hb, by omega, by omega, ⟨qn, by omega, fset_s⟩, Or.inr ⟨p0, hp, had, by rw [fset_n hpc]; omega, by rw [fset_n hpc]; omega, by rw [fset_n hpc]⟩⟩
    · rw [fset_n e] at h9' ⊢
      rw [fset_n e]
      obtain ⟨a1, a2, a3, a4, ⟨j, a5, a5'⟩, a6⟩ := b2 c' hc' h9'
      refine ⟨a1, a2, a3, a4, ⟨j, by omega, by rw [qold j a5]; exact a5'⟩, ?_⟩
      rcases a6 with a6 | ⟨p, p1, p2, p3, p4, p5⟩
      · exact Or.inl a6
      · have hpe : p ≠ c := fun z => by rw [z] at p3; exact p3 h9
        exact Or.inr ⟨p, p1, p2, by rw [fset_n hpe]; exact p3, by rw [fset_n hpe]; exact p4, by rw [fset_n hpe]; exact p5⟩
  · by_cases e : l = qn
    · subst e
      rw [fset_s, fset_s]
      by_cases e2 : j = l
      · subst e2; rw [fset_s, fset_s]; omega
      · rw [qold j (by omega), fset_n (hqne j (by omega))]
        obtain ⟨j1, j2, -⟩ := b1 j (by omega)
        exact (b2 (q j) (by omega) j2).2.2.1
    · rw [qold j (by omega), qold l (by omega), fset_n (hqne j (by omega)), fset_n (hqne l (by omega))]
      exact b3 j l hjl (by omega)
  · rcases hE with hE | ⟨rfl, rfl⟩
    · obtain ⟨e1, e2, e3, e4⟩ := b4 p c' hE
      have hpe : p ≠ c := fun z => by rw [z] at e2; exact e2 h9
      rw [fset_n hpe, fset_n hpe]
      refine ⟨e1, e2, e3, fun g1 g2 => ?_⟩
      obtain ⟨f1, f2, f3⟩ := e4 g1 g2
      have hce : c' ≠ c := fun z => by rw [z] at f1; exact f1 h9
      rw [fset_n hce, fset_n hce]
      exact ⟨f1, f2, f3⟩
    · rw [fset_n hpc, fset_n hpc, fset_s, fset_s]
      exact ⟨hp, by omega, by omega, fun _ _ => ⟨hF98, by omega, fun _ => Nat.le_refl _⟩⟩
  · rw [sumN_up st h9 hF98 16, b6, if_pos (by omega)]
theorem IB_max (hn : n ≤ 16) (hrd : ∀ c, rd c ≤ 1080) (h : IB w n a br rd E F st gn q qn) {p0 c : Nat} (hp : p0 < n) (hF : st p0 = F) (hF9 : F ≠ 99) (hc : c < n) (had : adB w p0 c = true) (h9 : st c ≠ 99) (hs : st c = F + 1) : IB w n a br rd (fun p' c' => E p' c' ∨ (p' = p0 ∧ c' = c)) F st (fset gn c (max (gn c) (gn p0 + rd c))) q qn := by
  obtain ⟨b1, b2, b3, b4, b5, b6⟩ := h
  have hpc : p0 ≠ c := fun z => by rw [z] at hF; omega
  have hp9 : st p0 ≠ 99 := by omega
  have hp16 : p0 < 16 := by omega
  have hst : st p0 + 1 = st c := by omega
  have hg := (b2 p0 hp16 hp9).2.2.2.1
  refine ⟨b1, fun c' hc' h9' => ?_, b3, fun p c' hE => ?_, b5, b6⟩
  · obtain ⟨a1, a2, a3, a4, a5, a6⟩ := b2 c' hc' h9'
    by_cases e : c' = c
    · subst e
      have hr := hrd c'
      have hm : (st c' + 1) * 1080 = (st p0 + 1) * 1080 + 1080 := by rw [hs, hF]; omega
      rw [fset_s]
      refine ⟨a1, a2, a3, ?_, a5, ?_⟩
      · omega
      · by_cases hle : gn p0 + rd c' ≤ gn c'
        · rw [Nat.max_eq_left hle]
          rcases a6 with a6 | ⟨p, p1, p2, p3, p4, p5⟩
          · omega
          · have hpe : p ≠ c' := fun z => by rw [z] at p4; omega
            exact Or.inr ⟨p, p1, p2, p3, p4, by rw [fset_n hpe]; exact p5⟩
        · rw [Nat.max_eq_right (by omega)]
          exact Or.inr ⟨p0, hp, had, hp9, hst, by rw [fset_n hpc]⟩
    · rw [fset_n e]
      refine ⟨a1, a2, a3, a4, a5, ?_⟩
      rcases a6 with a6 | ⟨p, p1, p2, p3, p4, p5⟩
      · exact Or.inl a6
      · have hpe : p ≠ c := fun z => by rw [z, hs] at p4; omega
        exact Or.inr ⟨p, p1, p2, p3, p4, by rw [fset_n hpe]; exact p5⟩
  · rcases hE with hE | ⟨rfl, rfl⟩
    · obtain ⟨e1, e2, e3, e4⟩ := b4 p c' hE
      have hpe : p ≠ c := fun z => by rw [z, hs] at e3; omega
      rw [fset_n hpe]
      refine ⟨e1, e2, e3, fun g1 g2 => ?_⟩
      obtain ⟨f1, f2, f3⟩ := e4 g1 g2
      by_cases e : c' = c
      · subst e
        rw [fset_s]
        exact ⟨f1, f2, fun z => by have := f3 z; omega⟩
      · rw [fset_n e]
        exact ⟨f1, f2, f3⟩
    · rw [fset_n hpc, fset_s]
      exact ⟨hp, by omega, by omega, fun _ _ => ⟨h9, by omega, fun _ => by omega⟩⟩
theorem IB_next (h : IB w n a br rd E F st gn q qn) (hn : n ≤ 16) {i : Nat} (hi : i + 1 < qn) (hqi : st (q i) = F) : IB w n a br rd E (st (q (i + 1))) st gn q qn := by
  obtain ⟨b1, b2, b3, b4, b5, b6⟩ := h
  have hle := b3 i (i + 1) (by omega) hi
  refine ⟨b1, fun c hc h9 => ?_, b3, fun p c hE => ?_, b5, b6⟩
  · obtain ⟨a1, a2, a3, a4, a5, a6⟩ := b2 c hc h9
    exact ⟨a1, a2, by omega, a4, a5, a6⟩
  · obtain ⟨e1, e2, e3, e4⟩ := b4 p c hE
    exact ⟨e1, e2, by omega, e4⟩
theorem IB_sol (h : IB w n a br rd E F st gn q qn) (hn : n ≤ 16) (ha : a < n) (hall : ∀ p c, p < n → c < n → st p ≠ 99 → adB w p c = true → E p c) (hF : F ≤ 14 ∨ True) (hq : qn ≤ 16) : Sol w n a br rd st gn := by
  obtain ⟨b1, b2, b3, b4, b5, b6⟩ := h
  refine ⟨fun c hc h9 => ?_, fun p c hp hc h9 had hb => ?_, fun _ => b5⟩
  · obtain ⟨a1, a2, a3, a4, ⟨j, a5, a5'⟩, a6⟩ := b2 c (by omega) h9
    have := (b1 j a5).2.2
    rw [a5'] at this
    exact ⟨by omega, a2, a6⟩
  · exact (b4 p c (hall p c hp hc h9 had)).2.2.2 hc hb
theorem IB_0 (hn : n ≤ 16) (ha : a < n) (hb : br a = true) (hrd : ∀ c, rd c ≤ 1080) (gn0 q0 : Nat → Nat) : IB w n a br rd (fun _ _ => False) 0 (fset (fun _ => 99) a 0) (fset gn0 a (rd a)) (fset q0 0 a) 1 := by
  refine ⟨fun j hj => ?_, fun c hc h9 => ?_, fun j l hjl hl => ?_, fun p c hE => hE.elim, fset_s, ?_⟩
  · have : j = 0 := by omega
    subst this
    rw [fset_s, fset_s]
    exact ⟨ha, by omega, by omega⟩
  · by_cases e : c = a
    · subst e
      rw [fset_s, fset_s]
      have := hrd c
      exact ⟨ha, hb, by omega, by omega, ⟨0, by omega, fset_s⟩, Or.inl ⟨rfl, rfl, rfl⟩⟩
    · rw [fset_n e] at h9; exact absurd rfl h9
  · have : j = 0 := by omega
    have : l = 0 := by omega
    subst j; subst l
    exact Nat.le_refl _
  · rw [sumN_up (fun _ => 99) rfl (by omega) 16, if_pos (show a < 16 by omega)]
    decide
end QUEUE
