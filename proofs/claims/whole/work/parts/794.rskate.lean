/-! skate of the reference -/
def FrW (σ τ : Hp) : Prop := (∀ c, c ≠ 65 → c ≠ 66 → τ.1 c = σ.1 c) ∧ τ.2 = σ.2
def HR (n : Nat) (h : Hp) (st gn : Nat → Nat) : Prop := ∀ c, c < n → h.1 65 c = nI (st c) ∧ h.1 66 c = nI (gn c)
section RSK
variable {σ : Hp} {m : Tw} {kp : Option Tw} {pg : Nat → Nat} {pn ld lk : Nat}
theorem FrW.rmc {h : Hp} (hf : FrW σ h) (hr : RMc σ m) : RMc h m := hr.congr (by rw [hf.1 55 (by omega) (by omega)]) (by rw [hf.1 55 (by omega) (by omega)]) (by rw [hf.1 55 (by omega) (by omega)]) (by rw [hf.1 55 (by omega) (by omega)]) (hf.1 56 (by omega) (by omega)) (hf.1 57 (by omega) (by omega)) (hf.1 58 (by omega) (by omega))
theorem r_readIn {h : Hp} (hw : Wf m) (hr : RMc h m) {c : Nat} (hc : c < 16) : F_X7_readIn (nI c) h = some (nI (rdN m c)) := by
  have hn := hw.nd
  have hs := hw.sq
  unfold F_X7_readIn
  have hl := lp (fun n (x : Int32 × Int32) => F_X7_readIn_4 h n (nI c) x.1 x.2) (m 9 4) (fun i => (nI (sumN (fun d => if m 9 2 = 0 ∧ m 7 d = 1 ∧ m 2 d = c then wo m d else 0) i), nI i)) (some (nI (rdN m c))) ?_ ?_ fuel 0 (by omega) (by have := fuel_ge; omega)
  · exact hl
  · intro n
    show F_X7_readIn_4 h (n + 1) (nI c) (nI (rdN m c)) (nI (m 9 4)) = _
    rw [F_X7_readIn_4, hr.2.2.2.1, if_pos (nle.mp (fun z => by have := (nI_ltI (by omega) (by omega)).mp z; omega))]
  · intro n i hi
    obtain ⟨⟨a0, a1, -⟩, -, -⟩ := hr.2.2.2.2.2.2 i hi
    obtain ⟨w1, w2, w3, w4, w5, w6, w7, w8, w9, -⟩ := hw.d hi
    have hlk := look_le m i
    show F_X7_readIn_4 h (n + 1) (nI c) (nI (sumN (fun d => if m 9 2 = 0 ∧ m 7 d = 1 ∧ m 2 d = c then wo m d else 0) i)) (nI i) = F_X7_readIn_4 h n (nI c) (nI (sumN (fun d => if m 9 2 = 0 ∧ m 7 d = 1 ∧ m 2 d = c then wo m d else 0) i + (if m 9 2 = 0 ∧ m 7 i = 1 ∧ m 2 i = c then wo m i else 0))) (nI (i + 1))
    rw [F_X7_readIn_4, hr.2.2.2.1, if_neg (le_no (by omega) (by omega) hi), li1, ix8 (by omega) (by omega), inb_t (by omega) (by omega), if_pos rfl, cl_nI (by omega), a1, r_lookOf hw hr hi, r_worthOf hw hr hi, Option.bind_some, Option.bind_some, li2]
    unfold F_X7_readIn_46
    have zc : nI (m 2 i) = nI c ↔ m 2 i = c := nI_eq (by omega) (by omega)
    have zl : nI (look m i) = nI 2 ↔ look m i = 2 := nI_eq (by omega) (by omega)
    have zz : look m i = 2 ↔ (m 9 2 = 0 ∧ m 7 i = 1) := by
      unfold look
      by_cases g0 : m 7 i = 0
      · rw [if_pos g0]; omega
      · rw [if_neg g0]
        by_cases g2 : m 7 i = 2
        · rw [if_pos g2]; omega
        · rw [if_neg g2]
          by_cases g3 : m 9 2 = 0
          · rw [if_pos g3]; omega
          · rw [if_neg g3]; omega
    simp only [zc, zl, zz, lt_p, nI_1, nI_add]
    by_cases g3 : m 2 i = c
    · by_cases g1 : m 9 2 = 0
      · by_cases g2 : m 7 i = 1
        · simp [g1, g2, g3]
        · simp [g1, g2, g3]
      · simp [g1, g3]
    · simp [g3]
theorem r_bearsOne {h : Hp} (hw : Wf m) (hr : RMc h m) {c : Nat} (hc : c < m 9 1) : F_X7_bearsOne (nI c) h = some (brB m c) := by
  have hs := hw.sq
  have hi := hw.ic hc
  unfold F_X7_bearsOne brB
  rw [inb_t (by omega) (by omega), if_pos rfl, cl_nI (by omega), hr.2.2.2.2.1 c hc, li3]
  by_cases g : m 0 c ≤ 3
  · rw [if_pos ((nI_leI (by omega) (by omega)).mpr g), decide_eq_false (by omega)]
  · rw [if_neg (le_no (by omega) (by omega) (by omega)), decide_eq_true (by omega)]
def beI (w p c : Int32) : Bool := decide ((((p / w) - (c / w)) * ((p / w) - (c / w))) + (((jrem p w) - (jrem c w)) * ((jrem p w) - (jrem c w))) = (1 : Int32))
theorem be_all : ∀ w, w < 5 → ∀ p, p < 16 → ∀ c, c < 16 → 2 ≤ w → beI (nI w) (nI p) (nI c) = adB w p c := by decide +kernel
theorem r_areBeside {h : Hp} (hw : Wf m) (hr : RMc h m) {p c : Nat} (hp : p < 16) (hc : c < 16) : F_X7_areBeside (nI p) (nI c) h = some (adB (m 9 0) p c) := by
  have hwd := hw.wd
  have ne : ¬ nI (m 9 0) = 0 := fun z => by have := (nI_eq (b := 0) (by omega) (by omega)).mp z; omega
  unfold F_X7_areBeside
  rw [hr.2.1, if_pos ne, if_pos ne, lt_p, if_pos ne, if_pos ne, lt_p, ← be_all (m 9 0) (by omega) p hp c hc (by omega)]
  unfold beI
  by_cases g : (((nI p / nI (m 9 0)) - (nI c / nI (m 9 0))) * ((nI p / nI (m 9 0)) - (nI c / nI (m 9 0)))) + (((jrem (nI p) (nI (m 9 0))) - (jrem (nI c) (nI (m 9 0)))) * ((jrem (nI p) (nI (m 9 0))) - (jrem (nI c) (nI (m 9 0))))) = (1 : Int32)
  · rw [if_pos g, decide_eq_true g]
  · rw [if_neg g, decide_eq_false g]
end RSK
