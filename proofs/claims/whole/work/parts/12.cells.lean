noncomputable def fuel : Nat := Classical.choose (⟨2048, Nat.le_refl 2048⟩ : ∃ n : Nat, 2048 ≤ n)
theorem fuel_ge : 2048 ≤ fuel := Classical.choose_spec (⟨2048, Nat.le_refl 2048⟩ : ∃ n : Nat, 2048 ≤ n)
theorem tw_X5 {t : Nat} (h : t < 3) : 30 + t < 73 := by omega
theorem tw_ice {t : Nat} (h : t < 3) : 33 + t < 73 := by omega
theorem tw_darr {t : Nat} (h : t < 3) : 36 + t < 73 := by omega
theorem V_name {X : Type} {G : Gm} {α : Nat → Nat} {nL : Nat} {κ : X → Option Rs} {pc : Nat} {ls : List (Nat × Value)} {stk : List Value} {τ : Hp} {K : Hp → X} (k : ∀ h, V G α nL κ pc ls stk h (K h)) : V G α nL κ pc ls stk τ (lt τ K) := k τ
/-- a row of ints of the reference -/
def ArOk (a : Nat) : Prop := 56 ≤ a ∧ a < 73
theorem ar_lt {a : Nat} (h : ArOk a) : a < 73 := h.2
theorem ce_var {cI cD : ClassId} {α : Nat → Nat} {σ : Hp} {a : Nat} (h : ArOk a) : cellE cI cD α σ a = .inl (cI, alen a, .inl (σ.1 a)) := by
  obtain ⟨h1, h2⟩ := h
  unfold cellE
  rw [if_neg (by omega), if_neg (by omega), if_neg (by omega), if_neg (by omega), if_neg (by omega), if_neg (by omega), if_neg (by omega), if_neg (by omega), if_neg (by omega), if_neg (by omega)]
theorem ls_out {a : Int32} (n1 : ¬ a = 99) (n2 : ¬ a = 115) (n3 : ¬ a = 116) : Op.lookupswitch.offset (#[(99, 34), (115, 38), (116, 36)] : Array (Int × Int)).toList 40 a.toInt = 40 := by
  have k : ∀ z : Int32, ¬ a = z → ¬ z.toInt = a.toInt := fun z h e => h (Int32.toInt_inj.mp e.symm)
  have k1 : ¬ (99 : Int) = a.toInt := k 99 n1
  have k2 : ¬ (115 : Int) = a.toInt := k 115 n2
  have k3 : ¬ (116 : Int) = a.toInt := k 116 n3
  show (if (99 : Int) = a.toInt then (34 : Int) else if (115 : Int) = a.toInt then 38 else if (116 : Int) = a.toInt then 36 else 40) = 40
  rw [if_neg k1, if_neg k2, if_neg k3]
theorem p9_ts {a : Int32} {n : Nat} (h : ∀ j, j < n → ¬ a = Int32.ofNat j) : ∀ j, j < n → ¬ a = Int32.ofNat j := h
theorem V_istore_nN {X : Type} {G : Gm} {α : Nat → Nat} {nL : Nat} {κ : X → Option Rs} {pc : Nat} {ls : List (Nat × Value)} {stk : List Value} {σ : Hp} {cc : ByteArray} {own : String} {fr lo : Nat} (hO : Ok G α cc nL own fr lo) {ls2 : Int32 → List (Nat × Value)} {K : Int32 → X} {j : Fin 4} {i : Nat} {v : Int32} (d : decode cc pc = .ok (.istore_n j, 1)) (hi : (j : Nat) = i) (hn : i < nL) (h : ∀ y, (i, Value.int y) :: ls.filter (fun q => !(q.1 == i) && !(q.1 + 1 == i && q.2.category == 2)) = ls2 y) (k : ∀ y, V G α nL κ (pc + 1) (ls2 y) stk σ (K y)) : V G α nL κ pc ls (.int v :: stk) σ (lt v K) := V_istore_n hO d hi hn (h v) (k v)
theorem V_istoreN {X : Type} {G : Gm} {α : Nat → Nat} {nL : Nat} {κ : X → Option Rs} {pc : Nat} {ls : List (Nat × Value)} {stk : List Value} {σ : Hp} {cc : ByteArray} {own : String} {fr lo : Nat} (hO : Ok G α cc nL own fr lo) {ls2 : Int32 → List (Nat × Value)} {K : Int32 → X} {i : Nat} {v : Int32} (d : decode cc pc = .ok (.istore i, 2)) (hn : i < nL) (h : ∀ y, (i, Value.int y) :: ls.filter (fun q => !(q.1 == i) && !(q.1 + 1 == i && q.2.category == 2)) = ls2 y) (k : ∀ y, V G α nL κ (pc + 2) (ls2 y) stk σ (K y)) : V G α nL κ pc ls (.int v :: stk) σ (lt v K) := V_istore hO d hn (h v) (k v)
theorem V_lstore_nN {X : Type} {G : Gm} {α : Nat → Nat} {nL : Nat} {κ : X → Option Rs} {pc : Nat} {ls : List (Nat × Value)} {stk : List Value} {σ : Hp} {cc : ByteArray} {own : String} {fr lo : Nat} (hO : Ok G α cc nL own fr lo) {ls2 : Int64 → List (Nat × Value)} {K : Int64 → X} {j : Fin 4} {i : Nat} {v : Int64} (d : decode cc pc = .ok (.lstore_n j, 1)) (hi : (j : Nat) = i) (hn : i + 1 < nL) (h : ∀ y, (i, Value.long y) :: ls.filter (fun q => !(q.1 == i) && (!(q.1 == i + 1) && !(q.1 + 1 == i && q.2.category == 2))) = ls2 y) (k : ∀ y, V G α nL κ (pc + 1) (ls2 y) stk σ (K y)) : V G α nL κ pc ls (.long v :: stk) σ (lt v K) := V_lstore_n hO d hi hn (h v) (k v)
theorem V_lstoreN {X : Type} {G : Gm} {α : Nat → Nat} {nL : Nat} {κ : X → Option Rs} {pc : Nat} {ls : List (Nat × Value)} {stk : List Value} {σ : Hp} {cc : ByteArray} {own : String} {fr lo : Nat} (hO : Ok G α cc nL own fr lo) {ls2 : Int64 → List (Nat × Value)} {K : Int64 → X} {i : Nat} {v : Int64} (d : decode cc pc = .ok (.lstore i, 2)) (hn : i + 1 < nL) (h : ∀ y, (i, Value.long y) :: ls.filter (fun q => !(q.1 == i) && (!(q.1 == i + 1) && !(q.1 + 1 == i && q.2.category == 2))) = ls2 y) (k : ∀ y, V G α nL κ (pc + 2) (ls2 y) stk σ (K y)) : V G α nL κ pc ls (.long v :: stk) σ (lt v K) := V_lstore hO d hn (h v) (k v)
theorem ce_39 {cI cD : ClassId} {α : Nat → Nat} {σ : Hp} : cellE cI cD α σ 39 = .inr (2, [.ref (α (40)), .int (σ.1 39 1)]) := rfl
theorem pe_39_1 {cI cD : ClassId} {α : Nat → Nat} {σ : Hp} {v : Int32} : cellE cI cD α (up σ 39 1 v) 39 = .inr (2, List.set [.ref (α (40)), .int (σ.1 39 1)] 1 (.int v)) := by
  rw [ce_39]; simp [up]
theorem ce_41 {cI cD : ClassId} {α : Nat → Nat} {σ : Hp} : cellE cI cD α σ 41 = .inr (4, [.ref (α (42)), .ref (α (43)), .ref (α (44)), .ref (α (45)), .int (σ.1 41 4)]) := rfl
theorem pe_41_4 {cI cD : ClassId} {α : Nat → Nat} {σ : Hp} {v : Int32} : cellE cI cD α (up σ 41 4 v) 41 = .inr (4, List.set [.ref (α (42)), .ref (α (43)), .ref (α (44)), .ref (α (45)), .int (σ.1 41 4)] 4 (.int v)) := by
  rw [ce_41]; simp [up]
theorem ce_46 {cI cD : ClassId} {α : Nat → Nat} {σ : Hp} : cellE cI cD α σ 46 = .inr (1, [.int (σ.1 46 0), .int (σ.1 46 1), .int (σ.1 46 2), .ref (α (47)), .ref (α (48)), .ref (α (49))]) := rfl
theorem pe_46_0 {cI cD : ClassId} {α : Nat → Nat} {σ : Hp} {v : Int32} : cellE cI cD α (up σ 46 0 v) 46 = .inr (1, List.set [.int (σ.1 46 0), .int (σ.1 46 1), .int (σ.1 46 2), .ref (α (47)), .ref (α (48)), .ref (α (49))] 0 (.int v)) := by
  rw [ce_46]; simp [up]
theorem pe_46_1 {cI cD : ClassId} {α : Nat → Nat} {σ : Hp} {v : Int32} : cellE cI cD α (up σ 46 1 v) 46 = .inr (1, List.set [.int (σ.1 46 0), .int (σ.1 46 1), .int (σ.1 46 2), .ref (α (47)), .ref (α (48)), .ref (α (49))] 1 (.int v)) := by
  rw [ce_46]; simp [up]
theorem pe_46_2 {cI cD : ClassId} {α : Nat → Nat} {σ : Hp} {v : Int32} : cellE cI cD α (up σ 46 2 v) 46 = .inr (1, List.set [.int (σ.1 46 0), .int (σ.1 46 1), .int (σ.1 46 2), .ref (α (47)), .ref (α (48)), .ref (α (49))] 2 (.int v)) := by
  rw [ce_46]; simp [up]
theorem ce_50 {cI cD : ClassId} {α : Nat → Nat} {σ : Hp} : cellE cI cD α σ 50 = .inr (3, [.ref (α (51)), .ref (α (52)), .ref (α (53))]) := rfl
theorem ce_54 {cI cD : ClassId} {α : Nat → Nat} {σ : Hp} : cellE cI cD α σ 54 = .inr (6, [.ref (α (30)), .ref (α (31)), .ref (α (32)), .ref (α (39)), .ref (α (41)), .ref (α (46)), .ref (α (50)), .int (σ.1 54 7), .int (σ.1 54 8)]) := rfl
theorem pe_54_7 {cI cD : ClassId} {α : Nat → Nat} {σ : Hp} {v : Int32} : cellE cI cD α (up σ 54 7 v) 54 = .inr (6, List.set [.ref (α (30)), .ref (α (31)), .ref (α (32)), .ref (α (39)), .ref (α (41)), .ref (α (46)), .ref (α (50)), .int (σ.1 54 7), .int (σ.1 54 8)] 7 (.int v)) := by
  rw [ce_54]; simp [up]
theorem pe_54_8 {cI cD : ClassId} {α : Nat → Nat} {σ : Hp} {v : Int32} : cellE cI cD α (up σ 54 8 v) 54 = .inr (6, List.set [.ref (α (30)), .ref (α (31)), .ref (α (32)), .ref (α (39)), .ref (α (41)), .ref (α (46)), .ref (α (50)), .int (σ.1 54 7), .int (σ.1 54 8)] 8 (.int v)) := by
  rw [ce_54]; simp [up]
theorem ce_55 {cI cD : ClassId} {α : Nat → Nat} {σ : Hp} : cellE cI cD α σ 55 = .inr (7, [.int (σ.1 55 0), .int (σ.1 55 1), .int (σ.1 55 2), .ref (α (56)), .ref (α (57)), .int (σ.1 55 5), .int (σ.1 55 6), .ref (α (58)), .ref (α (59)), .int (σ.1 55 9), .int (σ.1 55 10), .int (σ.1 55 11), .ref (α (60)), .ref (α (61)), .int (σ.1 55 14), .ref (α (62)), .ref (α (63)), .ref (α (64)), .ref (α (65)), .ref (α (66)), .ref (α (67)), .ref (α (68)), .ref (α (69)), .int (σ.1 55 23), .int (σ.1 55 24), .int (σ.1 55 25), .int (σ.1 55 26), .ref (α (70)), .ref (α (71)), .ref (α (72)), .long σ.2]) := rfl
theorem pe_55_0 {cI cD : ClassId} {α : Nat → Nat} {σ : Hp} {v : Int32} : cellE cI cD α (up σ 55 0 v) 55 = .inr (7, List.set [.int (σ.1 55 0), .int (σ.1 55 1), .int (σ.1 55 2), .ref (α (56)), .ref (α (57)), .int (σ.1 55 5), .int (σ.1 55 6), .ref (α (58)), .ref (α (59)), .int (σ.1 55 9), .int (σ.1 55 10), .int (σ.1 55 11), .ref (α (60)), .ref (α (61)), .int (σ.1 55 14), .ref (α (62)), .ref (α (63)), .ref (α (64)), .ref (α (65)), .ref (α (66)), .ref (α (67)), .ref (α (68)), .ref (α (69)), .int (σ.1 55 23), .int (σ.1 55 24), .int (σ.1 55 25), .int (σ.1 55 26), .ref (α (70)), .ref (α (71)), .ref (α (72)), .long σ.2] 0 (.int v)) := by
  rw [ce_55]; simp [up]
theorem pe_55_1 {cI cD : ClassId} {α : Nat → Nat} {σ : Hp} {v : Int32} : cellE cI cD α (up σ 55 1 v) 55 = .inr (7, List.set [.int (σ.1 55 0), .int (σ.1 55 1), .int (σ.1 55 2), .ref (α (56)), .ref (α (57)), .int (σ.1 55 5), .int (σ.1 55 6), .ref (α (58)), .ref (α (59)), .int (σ.1 55 9), .int (σ.1 55 10), .int (σ.1 55 11), .ref (α (60)), .ref (α (61)), .int (σ.1 55 14), .ref (α (62)), .ref (α (63)), .ref (α (64)), .ref (α (65)), .ref (α (66)), .ref (α (67)), .ref (α (68)), .ref (α (69)), .int (σ.1 55 23), .int (σ.1 55 24), .int (σ.1 55 25), .int (σ.1 55 26), .ref (α (70)), .ref (α (71)), .ref (α (72)), .long σ.2] 1 (.int v)) := by
  rw [ce_55]; simp [up]
theorem pe_55_2 {cI cD : ClassId} {α : Nat → Nat} {σ : Hp} {v : Int32} : cellE cI cD α (up σ 55 2 v) 55 = .inr (7, List.set [.int (σ.1 55 0), .int (σ.1 55 1), .int (σ.1 55 2), .ref (α (56)), .ref (α (57)), .int (σ.1 55 5), .int (σ.1 55 6), .ref (α (58)), .ref (α (59)), .int (σ.1 55 9), .int (σ.1 55 10), .int (σ.1 55 11), .ref (α (60)), .ref (α (61)), .int (σ.1 55 14), .ref (α (62)), .ref (α (63)), .ref (α (64)), .ref (α (65)), .ref (α (66)), .ref (α (67)), .ref (α (68)), .ref (α (69)), .int (σ.1 55 23), .int (σ.1 55 24), .int (σ.1 55 25), .int (σ.1 55 26), .ref (α (70)), .ref (α (71)), .ref (α (72)), .long σ.2] 2 (.int v)) := by
  rw [ce_55]; simp [up]
theorem pe_55_5 {cI cD : ClassId} {α : Nat → Nat} {σ : Hp} {v : Int32} : cellE cI cD α (up σ 55 5 v) 55 = .inr (7, List.set [.int (σ.1 55 0), .int (σ.1 55 1), .int (σ.1 55 2), .ref (α (56)), .ref (α (57)), .int (σ.1 55 5), .int (σ.1 55 6), .ref (α (58)), .ref (α (59)), .int (σ.1 55 9), .int (σ.1 55 10), .int (σ.1 55 11), .ref (α (60)), .ref (α (61)), .int (σ.1 55 14), .ref (α (62)), .ref (α (63)), .ref (α (64)), .ref (α (65)), .ref (α (66)), .ref (α (67)), .ref (α (68)), .ref (α (69)), .int (σ.1 55 23), .int (σ.1 55 24), .int (σ.1 55 25), .int (σ.1 55 26), .ref (α (70)), .ref (α (71)), .ref (α (72)), .long σ.2] 5 (.int v)) := by
  rw [ce_55]; simp [up]
theorem pe_55_6 {cI cD : ClassId} {α : Nat → Nat} {σ : Hp} {v : Int32} : cellE cI cD α (up σ 55 6 v) 55 = .inr (7, List.set [.int (σ.1 55 0), .int (σ.1 55 1), .int (σ.1 55 2), .ref (α (56)), .ref (α (57)), .int (σ.1 55 5), .int (σ.1 55 6), .ref (α (58)), .ref (α (59)), .int (σ.1 55 9), .int (σ.1 55 10), .int (σ.1 55 11), .ref (α (60)), .ref (α (61)), .int (σ.1 55 14), .ref (α (62)), .ref (α (63)), .ref (α (64)), .ref (α (65)), .ref (α (66)), .ref (α (67)), .ref (α (68)), .ref (α (69)), .int (σ.1 55 23), .int (σ.1 55 24), .int (σ.1 55 25), .int (σ.1 55 26), .ref (α (70)), .ref (α (71)), .ref (α (72)), .long σ.2] 6 (.int v)) := by
  rw [ce_55]; simp [up]
theorem pe_55_9 {cI cD : ClassId} {α : Nat → Nat} {σ : Hp} {v : Int32} : cellE cI cD α (up σ 55 9 v) 55 = .inr (7, List.set [.int (σ.1 55 0), .int (σ.1 55 1), .int (σ.1 55 2), .ref (α (56)), .ref (α (57)), .int (σ.1 55 5), .int (σ.1 55 6), .ref (α (58)), .ref (α (59)), .int (σ.1 55 9), .int (σ.1 55 10), .int (σ.1 55 11), .ref (α (60)), .ref (α (61)), .int (σ.1 55 14), .ref (α (62)), .ref (α (63)), .ref (α (64)), .ref (α (65)), .ref (α (66)), .ref (α (67)), .ref (α (68)), .ref (α (69)), .int (σ.1 55 23), .int (σ.1 55 24), .int (σ.1 55 25), .int (σ.1 55 26), .ref (α (70)), .ref (α (71)), .ref (α (72)), .long σ.2] 9 (.int v)) := by
  rw [ce_55]; simp [up]
theorem pe_55_10 {cI cD : ClassId} {α : Nat → Nat} {σ : Hp} {v : Int32} : cellE cI cD α (up σ 55 10 v) 55 = .inr (7, List.set [.int (σ.1 55 0), .int (σ.1 55 1), .int (σ.1 55 2), .ref (α (56)), .ref (α (57)), .int (σ.1 55 5), .int (σ.1 55 6), .ref (α (58)), .ref (α (59)), .int (σ.1 55 9), .int (σ.1 55 10), .int (σ.1 55 11), .ref (α (60)), .ref (α (61)), .int (σ.1 55 14), .ref (α (62)), .ref (α (63)), .ref (α (64)), .ref (α (65)), .ref (α (66)), .ref (α (67)), .ref (α (68)), .ref (α (69)), .int (σ.1 55 23), .int (σ.1 55 24), .int (σ.1 55 25), .int (σ.1 55 26), .ref (α (70)), .ref (α (71)), .ref (α (72)), .long σ.2] 10 (.int v)) := by
  rw [ce_55]; simp [up]
theorem pe_55_11 {cI cD : ClassId} {α : Nat → Nat} {σ : Hp} {v : Int32} : cellE cI cD α (up σ 55 11 v) 55 = .inr (7, List.set [.int (σ.1 55 0), .int (σ.1 55 1), .int (σ.1 55 2), .ref (α (56)), .ref (α (57)), .int (σ.1 55 5), .int (σ.1 55 6), .ref (α (58)), .ref (α (59)), .int (σ.1 55 9), .int (σ.1 55 10), .int (σ.1 55 11), .ref (α (60)), .ref (α (61)), .int (σ.1 55 14), .ref (α (62)), .ref (α (63)), .ref (α (64)), .ref (α (65)), .ref (α (66)), .ref (α (67)), .ref (α (68)), .ref (α (69)), .int (σ.1 55 23), .int (σ.1 55 24), .int (σ.1 55 25), .int (σ.1 55 26), .ref (α (70)), .ref (α (71)), .ref (α (72)), .long σ.2] 11 (.int v)) := by
  rw [ce_55]; simp [up]
theorem pe_55_14 {cI cD : ClassId} {α : Nat → Nat} {σ : Hp} {v : Int32} : cellE cI cD α (up σ 55 14 v) 55 = .inr (7, List.set [.int (σ.1 55 0), .int (σ.1 55 1), .int (σ.1 55 2), .ref (α (56)), .ref (α (57)), .int (σ.1 55 5), .int (σ.1 55 6), .ref (α (58)), .ref (α (59)), .int (σ.1 55 9), .int (σ.1 55 10), .int (σ.1 55 11), .ref (α (60)), .ref (α (61)), .int (σ.1 55 14), .ref (α (62)), .ref (α (63)), .ref (α (64)), .ref (α (65)), .ref (α (66)), .ref (α (67)), .ref (α (68)), .ref (α (69)), .int (σ.1 55 23), .int (σ.1 55 24), .int (σ.1 55 25), .int (σ.1 55 26), .ref (α (70)), .ref (α (71)), .ref (α (72)), .long σ.2] 14 (.int v)) := by
  rw [ce_55]; simp [up]
theorem pe_55_23 {cI cD : ClassId} {α : Nat → Nat} {σ : Hp} {v : Int32} : cellE cI cD α (up σ 55 23 v) 55 = .inr (7, List.set [.int (σ.1 55 0), .int (σ.1 55 1), .int (σ.1 55 2), .ref (α (56)), .ref (α (57)), .int (σ.1 55 5), .int (σ.1 55 6), .ref (α (58)), .ref (α (59)), .int (σ.1 55 9), .int (σ.1 55 10), .int (σ.1 55 11), .ref (α (60)), .ref (α (61)), .int (σ.1 55 14), .ref (α (62)), .ref (α (63)), .ref (α (64)), .ref (α (65)), .ref (α (66)), .ref (α (67)), .ref (α (68)), .ref (α (69)), .int (σ.1 55 23), .int (σ.1 55 24), .int (σ.1 55 25), .int (σ.1 55 26), .ref (α (70)), .ref (α (71)), .ref (α (72)), .long σ.2] 23 (.int v)) := by
  rw [ce_55]; simp [up]
theorem pe_55_24 {cI cD : ClassId} {α : Nat → Nat} {σ : Hp} {v : Int32} : cellE cI cD α (up σ 55 24 v) 55 = .inr (7, List.set [.int (σ.1 55 0), .int (σ.1 55 1), .int (σ.1 55 2), .ref (α (56)), .ref (α (57)), .int (σ.1 55 5), .int (σ.1 55 6), .ref (α (58)), .ref (α (59)), .int (σ.1 55 9), .int (σ.1 55 10), .int (σ.1 55 11), .ref (α (60)), .ref (α (61)), .int (σ.1 55 14), .ref (α (62)), .ref (α (63)), .ref (α (64)), .ref (α (65)), .ref (α (66)), .ref (α (67)), .ref (α (68)), .ref (α (69)), .int (σ.1 55 23), .int (σ.1 55 24), .int (σ.1 55 25), .int (σ.1 55 26), .ref (α (70)), .ref (α (71)), .ref (α (72)), .long σ.2] 24 (.int v)) := by
  rw [ce_55]; simp [up]
theorem pe_55_25 {cI cD : ClassId} {α : Nat → Nat} {σ : Hp} {v : Int32} : cellE cI cD α (up σ 55 25 v) 55 = .inr (7, List.set [.int (σ.1 55 0), .int (σ.1 55 1), .int (σ.1 55 2), .ref (α (56)), .ref (α (57)), .int (σ.1 55 5), .int (σ.1 55 6), .ref (α (58)), .ref (α (59)), .int (σ.1 55 9), .int (σ.1 55 10), .int (σ.1 55 11), .ref (α (60)), .ref (α (61)), .int (σ.1 55 14), .ref (α (62)), .ref (α (63)), .ref (α (64)), .ref (α (65)), .ref (α (66)), .ref (α (67)), .ref (α (68)), .ref (α (69)), .int (σ.1 55 23), .int (σ.1 55 24), .int (σ.1 55 25), .int (σ.1 55 26), .ref (α (70)), .ref (α (71)), .ref (α (72)), .long σ.2] 25 (.int v)) := by
  rw [ce_55]; simp [up]
theorem pe_55_26 {cI cD : ClassId} {α : Nat → Nat} {σ : Hp} {v : Int32} : cellE cI cD α (up σ 55 26 v) 55 = .inr (7, List.set [.int (σ.1 55 0), .int (σ.1 55 1), .int (σ.1 55 2), .ref (α (56)), .ref (α (57)), .int (σ.1 55 5), .int (σ.1 55 6), .ref (α (58)), .ref (α (59)), .int (σ.1 55 9), .int (σ.1 55 10), .int (σ.1 55 11), .ref (α (60)), .ref (α (61)), .int (σ.1 55 14), .ref (α (62)), .ref (α (63)), .ref (α (64)), .ref (α (65)), .ref (α (66)), .ref (α (67)), .ref (α (68)), .ref (α (69)), .int (σ.1 55 23), .int (σ.1 55 24), .int (σ.1 55 25), .int (σ.1 55 26), .ref (α (70)), .ref (α (71)), .ref (α (72)), .long σ.2] 26 (.int v)) := by
  rw [ce_55]; simp [up]
theorem pe_55_30 {cI cD : ClassId} {α : Nat → Nat} {σ : Hp} {v : Int64} : cellE cI cD α (upl σ v) 55 = .inr (7, List.set [.int (σ.1 55 0), .int (σ.1 55 1), .int (σ.1 55 2), .ref (α (56)), .ref (α (57)), .int (σ.1 55 5), .int (σ.1 55 6), .ref (α (58)), .ref (α (59)), .int (σ.1 55 9), .int (σ.1 55 10), .int (σ.1 55 11), .ref (α (60)), .ref (α (61)), .int (σ.1 55 14), .ref (α (62)), .ref (α (63)), .ref (α (64)), .ref (α (65)), .ref (α (66)), .ref (α (67)), .ref (α (68)), .ref (α (69)), .int (σ.1 55 23), .int (σ.1 55 24), .int (σ.1 55 25), .int (σ.1 55 26), .ref (α (70)), .ref (α (71)), .ref (α (72)), .long σ.2] 30 (.long v)) := by
  rw [ce_55]; simp [upl]
theorem ce_40 {cI cD : ClassId} {α : Nat → Nat} {σ : Hp} : cellE cI cD α σ 40 = .inl (cI, 24, .inl (σ.1 40)) := rfl
theorem ce_42 {cI cD : ClassId} {α : Nat → Nat} {σ : Hp} : cellE cI cD α σ 42 = .inl (cI, 16, .inl (σ.1 42)) := rfl
theorem ce_43 {cI cD : ClassId} {α : Nat → Nat} {σ : Hp} : cellE cI cD α σ 43 = .inl (cI, 16, .inl (σ.1 43)) := rfl
theorem ce_44 {cI cD : ClassId} {α : Nat → Nat} {σ : Hp} : cellE cI cD α σ 44 = .inl (cI, 16, .inl (σ.1 44)) := rfl
theorem ce_45 {cI cD : ClassId} {α : Nat → Nat} {σ : Hp} : cellE cI cD α σ 45 = .inl (cI, 16, .inl (σ.1 45)) := rfl
theorem ce_47 {cI cD : ClassId} {α : Nat → Nat} {σ : Hp} : cellE cI cD α σ 47 = .inl (cI, 10, .inl (σ.1 47)) := rfl
theorem ce_48 {cI cD : ClassId} {α : Nat → Nat} {σ : Hp} : cellE cI cD α σ 48 = .inl (cI, 10, .inl (σ.1 48)) := rfl
theorem ce_49 {cI cD : ClassId} {α : Nat → Nat} {σ : Hp} : cellE cI cD α σ 49 = .inl (cI, 1024, .inl (σ.1 49)) := rfl
theorem ce_51 {cI cD : ClassId} {α : Nat → Nat} {σ : Hp} : cellE cI cD α σ 51 = .inl (cI, 6, .inl (σ.1 51)) := rfl
theorem ce_52 {cI cD : ClassId} {α : Nat → Nat} {σ : Hp} : cellE cI cD α σ 52 = .inl (cI, 64, .inl (σ.1 52)) := rfl
theorem ce_53 {cI cD : ClassId} {α : Nat → Nat} {σ : Hp} : cellE cI cD α σ 53 = .inl (cI, 64, .inl (σ.1 53)) := rfl
theorem ce_56 {cI cD : ClassId} {α : Nat → Nat} {σ : Hp} : cellE cI cD α σ 56 = .inl (cI, 16, .inl (σ.1 56)) := rfl
theorem ce_57 {cI cD : ClassId} {α : Nat → Nat} {σ : Hp} : cellE cI cD α σ 57 = .inl (cI, 16, .inl (σ.1 57)) := rfl
theorem ce_58 {cI cD : ClassId} {α : Nat → Nat} {σ : Hp} : cellE cI cD α σ 58 = .inl (cI, 80, .inl (σ.1 58)) := rfl
theorem ce_59 {cI cD : ClassId} {α : Nat → Nat} {σ : Hp} : cellE cI cD α σ 59 = .inl (cI, 24, .inl (σ.1 59)) := rfl
theorem ce_60 {cI cD : ClassId} {α : Nat → Nat} {σ : Hp} : cellE cI cD α σ 60 = .inl (cI, 12, .inl (σ.1 60)) := rfl
theorem ce_61 {cI cD : ClassId} {α : Nat → Nat} {σ : Hp} : cellE cI cD α σ 61 = .inl (cI, 12, .inl (σ.1 61)) := rfl
theorem ce_62 {cI cD : ClassId} {α : Nat → Nat} {σ : Hp} : cellE cI cD α σ 62 = .inl (cI, 1024, .inl (σ.1 62)) := rfl
theorem ce_63 {cI cD : ClassId} {α : Nat → Nat} {σ : Hp} : cellE cI cD α σ 63 = .inl (cI, 64, .inl (σ.1 63)) := rfl
theorem ce_64 {cI cD : ClassId} {α : Nat → Nat} {σ : Hp} : cellE cI cD α σ 64 = .inl (cI, 6, .inl (σ.1 64)) := rfl
theorem ce_65 {cI cD : ClassId} {α : Nat → Nat} {σ : Hp} : cellE cI cD α σ 65 = .inl (cI, 16, .inl (σ.1 65)) := rfl
theorem ce_66 {cI cD : ClassId} {α : Nat → Nat} {σ : Hp} : cellE cI cD α σ 66 = .inl (cI, 16, .inl (σ.1 66)) := rfl
theorem ce_67 {cI cD : ClassId} {α : Nat → Nat} {σ : Hp} : cellE cI cD α σ 67 = .inl (cI, 16, .inl (σ.1 67)) := rfl
theorem ce_68 {cI cD : ClassId} {α : Nat → Nat} {σ : Hp} : cellE cI cD α σ 68 = .inl (cI, 16, .inl (σ.1 68)) := rfl
theorem ce_69 {cI cD : ClassId} {α : Nat → Nat} {σ : Hp} : cellE cI cD α σ 69 = .inl (cI, 80, .inl (σ.1 69)) := rfl
theorem ce_70 {cI cD : ClassId} {α : Nat → Nat} {σ : Hp} : cellE cI cD α σ 70 = .inl (cI, 16, .inl (σ.1 70)) := rfl
theorem ce_71 {cI cD : ClassId} {α : Nat → Nat} {σ : Hp} : cellE cI cD α σ 71 = .inl (cI, 16, .inl (σ.1 71)) := rfl
theorem ce_72 {cI cD : ClassId} {α : Nat → Nat} {σ : Hp} : cellE cI cD α σ 72 = .inl (cI, 80, .inl (σ.1 72)) := rfl
theorem iw_X0 : ∀ w ∈ u_ws RX0 TX0 8, w ∈ gw := by decide +kernel
theorem iw_X1 : ∀ w ∈ u_ws RX1 TX1 6, w ∈ gw := by decide +kernel
theorem iw_X2 : ∀ w ∈ u_ws RX2 TX2 2, w ∈ gw := by decide +kernel
theorem iw_X3 : ∀ w ∈ u_ws RX3 TX3 3, w ∈ gw := by decide +kernel
theorem iw_X4 : ∀ w ∈ u_ws RX4 TX4 5, w ∈ gw := by decide +kernel
theorem iw_X5 : ∀ w ∈ u_ws RX5 TX5 7, w ∈ gw := by decide +kernel
theorem iw_X6 : ∀ w ∈ u_ws RX6 TX6 9, w ∈ gw := by decide +kernel
theorem iw_X7 : ∀ w ∈ u_ws RX7 TX7 31, w ∈ gw := by decide +kernel
