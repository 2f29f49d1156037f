/-- the heap of both systems: ints by cell and place, and the one long -/
abbrev Hp : Type := (Nat → Nat → Int32) × Int64
abbrev Rs : Type := Option Value × Hp
def b2i (b : Bool) : Int32 := if b then 1 else 0
def inb (i : Int32) (n : Nat) : Bool := decide (¬ (i < 0 ∨ n ≤ i.toNatClampNeg))
theorem inb_in {i : Int32} {n : Nat} (h : inb i n = true) : vp_in i n := by
  have h1 : ¬ (i < 0 ∨ n ≤ i.toNatClampNeg) := of_decide_eq_true h
  exact h1
def isB (x : Int32) : Bool := decide (x = 0 ∨ x = 1)
def imax (a b : Int32) : Int32 := if a < b then b else a
def imin (a b : Int32) : Int32 := if b < a then b else a
def up (σ : Hp) (c k : Nat) (v : Int32) : Hp := (fun c' k' => if c' = c ∧ k' = k then v else σ.1 c' k', σ.2)
def upl (σ : Hp) (v : Int64) : Hp := (σ.1, v)
def jrem (a b : Int32) : Int32 := a - a / b * b
def jreml (a b : Int64) : Int64 := a - a / b * b
def jushr (a b : Int32) : Int32 := (a.toUInt32 >>> (b.toUInt32 &&& Int32.toUInt32 31)).toInt32
def jlushr (a : Int64) (b : Int32) : Int64 := (a.toUInt64 >>> (b.toInt64.toUInt64 &&& Int64.toUInt64 63)).toInt64
def jlshl (a : Int64) (b : Int32) : Int64 := a <<< (b.toInt64 &&& 63)
def gw : List Cond := lw_tbl.filter goodWord
theorem gd {w : Cond} (i : Nat) (h : lw_tbl[i]? = some w) (g : goodWord w = true) : w ∈ gw := List.mem_filter.mpr ⟨List.mem_of_getElem? h, g⟩
theorem gw_good {w : Cond} (h : w ∈ gw) : (w.onTables && w.keeps) = true ∨ ∃ ty, w = .arrayClass ty := good_of_word (List.mem_filter.mp h).2
def wsU (y : MethodName) (b : ByteArray) (n : Nat) (r : Option FieldType) : List Cond := Cond.code y b n r :: gw
def clz : List vw_C := [(RX0, TX0, 8), (RX1, TX1, 6), (RX2, TX2, 2), (RX3, TX3, 3), (RX4, TX4, 5), (RX5, TX5, 7), (RX6, TX6, 9), (RX7, TX7, 31)]
/-- lengths of the rows of ints -/
def alen (k : Nat) : Nat := if k = 40 then 24 else if k < 46 then 16 else if k < 49 then 10 else if k = 49 then 1024 else if k = 51 then 6 else if k < 54 then 64 else if k < 58 then 16 else if k = 58 then 80 else if k = 59 then 24 else if k < 62 then 12 else if k = 62 then 1024 else if k = 63 then 64 else if k = 64 then 6 else if k < 69 then 16 else if k = 69 then 80 else if k < 72 then 16 else 80
/-- the cells: 10 t + i DEBT i of town t, 30 + t a town, 33 + t its ice, 36 + t its row of debts, 39 the page (40 codes), 41 the skater (42 steps, 43 gain, 44 readable, 45 queue), 46 the loading (47 weight, 48 worth, 49 packed), 50 the settling (51 rests, 52 together, 53 groups), 54 the object, 55 the reference (56 ice .. 72 keptRows) -/
def cellE (cI cD : ClassId) (α : Nat → Nat) (σ : Hp) (k : Nat) : va_E :=
  if k < 30 then .inr (0, [.int (σ.1 k 0), .int (σ.1 k 1), .int (σ.1 k 2), .int (σ.1 k 3), .int (σ.1 k 4), .int (σ.1 k 5), .int (σ.1 k 6), .int (σ.1 k 7)])
  else if k < 33 then .inr (5, [.int (σ.1 k 0), .int (σ.1 k 1), .int (σ.1 k 2), .int (σ.1 k 3), .int (σ.1 k 4), .ref (α (k + 3)), .ref (α (k + 6))])
  else if k < 36 then .inl (cI, 16, .inl (σ.1 k))
  else if k < 39 then .inl (cD, 10, .inr (.inr (.inr (.inr (fun i => some (α (10 * (k - 36) + i)))))))
  else if k = 39 then .inr (2, [.ref (α 40), .int (σ.1 39 1)])
  else if k = 41 then .inr (4, [.ref (α 42), .ref (α 43), .ref (α 44), .ref (α 45), .int (σ.1 41 4)])
  else if k = 46 then .inr (1, [.int (σ.1 46 0), .int (σ.1 46 1), .int (σ.1 46 2), .ref (α 47), .ref (α 48), .ref (α 49)])
  else if k = 50 then .inr (3, [.ref (α 51), .ref (α 52), .ref (α 53)])
  else if k = 54 then .inr (6, [.ref (α 30), .ref (α 31), .ref (α 32), .ref (α 39), .ref (α 41), .ref (α 46), .ref (α 50), .int (σ.1 54 7), .int (σ.1 54 8)])
  else if k = 55 then .inr (7, [.int (σ.1 55 0), .int (σ.1 55 1), .int (σ.1 55 2), .ref (α 56), .ref (α 57), .int (σ.1 55 5), .int (σ.1 55 6), .ref (α 58), .ref (α 59), .int (σ.1 55 9), .int (σ.1 55 10), .int (σ.1 55 11), .ref (α 60), .ref (α 61), .int (σ.1 55 14), .ref (α 62), .ref (α 63), .ref (α 64), .ref (α 65), .ref (α 66), .ref (α 67), .ref (α 68), .ref (α 69), .int (σ.1 55 23), .int (σ.1 55 24), .int (σ.1 55 25), .int (σ.1 55 26), .ref (α 70), .ref (α 71), .ref (α 72), .long σ.2])
  else .inl (cI, alen k, .inl (σ.1 k))
def cells (cI cD : ClassId) (α : Nat → Nat) (σ : Hp) : va_W := (List.range 73).map (fun k => (α k, cellE cI cD α σ k))
theorem cells_at {cI cD : ClassId} {α : Nat → Nat} {σ : Hp} {k : Nat} (h : k < 73) : (cells cI cD α σ)[k]? = some (α k, cellE cI cD α σ k) := by
  simp [cells, h]
theorem cells_of {cI cD : ClassId} {α : Nat → Nat} {σ : Hp} {k : Nat} {q : Nat × va_E} (h : (cells cI cD α σ)[k]? = some q) : k < 73 ∧ q = (α k, cellE cI cD α σ k) := by
  have hk : k < 73 := by
    have h1 := (List.getElem?_eq_some_iff.mp h).1
    simpa [cells] using h1
  rw [cells_at hk] at h
  exact ⟨hk, (Option.some.inj h).symm⟩
theorem cellE_congr {cI cD : ClassId} {α : Nat → Nat} {σ τ : Hp} {k : Nat} (h : τ.1 k = σ.1 k) (h2 : k = 55 → τ.2 = σ.2) : cellE cI cD α τ k = cellE cI cD α σ k := by
  by_cases h39 : k = 39
  · subst h39; simp [cellE, h]
  by_cases h41 : k = 41
  · subst h41; simp [cellE, h]
  by_cases h46 : k = 46
  · subst h46; simp [cellE, h]
  by_cases h50 : k = 50
  · subst h50; simp [cellE]
  by_cases h54 : k = 54
  · subst h54; simp [cellE, h]
  by_cases h55 : k = 55
  · subst h55; simp [cellE, h, h2]
  simp only [cellE, h, if_neg h39, if_neg h41, if_neg h46, if_neg h50, if_neg h54, if_neg h55]
theorem cells_set {cI cD : ClassId} {α : Nat → Nat} {σ τ : Hp} {k : Nat} {E : va_E} (hk : k < 73) (h1 : cellE cI cD α τ k = E) (h2 : ∀ j, j ≠ k → cellE cI cD α τ j = cellE cI cD α σ j) : (cells cI cD α σ).set k (α k, E) = cells cI cD α τ := by
  apply List.ext_getElem?
  intro j
  by_cases hj : j = k
  · subst hj
    rw [List.getElem?_set_self (by simpa [cells] using hk), cells_at hk, h1]
  · rw [List.getElem?_set_ne (Ne.symm hj)]
    by_cases h73 : j < 73
    · rw [cells_at h73, cells_at h73, h2 j hj]
    · have a : (cells cI cD α σ)[j]? = none := by simp [cells]; omega
      have b : (cells cI cD α τ)[j]? = none := by simp [cells]; omega
      rw [a, b]
theorem up_off {σ : Hp} {c k j : Nat} {v : Int32} (h : j ≠ c) : (up σ c k v).1 j = σ.1 j := by
  funext q
  simp [up, h]
theorem up_row {σ : Hp} {c k : Nat} {v : Int32} : (up σ c k v).1 c = upd (σ.1 c) k v := by
  funext q
  simp [up, upd]
theorem cellE_up {cI cD : ClassId} {α : Nat → Nat} {σ : Hp} {c k j : Nat} {v : Int32} (h : j ≠ c) : cellE cI cD α (up σ c k v) j = cellE cI cD α σ j := cellE_congr (up_off h) (fun _ => rfl)
theorem cellE_upl {cI cD : ClassId} {α : Nat → Nat} {σ : Hp} {j : Nat} {v : Int64} (h : j ≠ 55) : cellE cI cD α (upl σ v) j = cellE cI cD α σ j := cellE_congr rfl (fun e => absurd e h)
def Inj (α : Nat → Nat) : Prop := ∀ i j, i < 73 → j < 73 → α i = α j → i = j
theorem cells_D {cI cD : ClassId} {α : Nat → Nat} {σ : Hp} {A : Nat → Prop} (hi : Inj α) (hA : ∀ k, k < 73 → A (α k)) : va_D A (cells cI cD α σ) := by
  refine ⟨fun i j p q h1 h2 h => ?_, fun k q h => ?_⟩
  · obtain ⟨a1, a2⟩ := cells_of h1
    obtain ⟨b1, b2⟩ := cells_of h2
    subst a2; subst b2
    exact hi i j a1 b1 h
  · obtain ⟨a1, a2⟩ := cells_of h
    subst a2
    exact hA k a1
def nw1 : Cond := .methodLinkNest RX5 78 yX6_iceBehind RX6
def nw2 : Cond := .methodLinkNest RX2 46 yX6_iceBehind RX6
def Nwz (U : State) : Prop := va_Nw nw1 U ∧ va_Nw nw2 U
theorem Nwz.warm {s U : State} (hW : s.WarmedH U.vm) (h : Nwz s) : Nwz U := ⟨va_Nw.warmM hW h.1, va_Nw.warmM hW h.2⟩
theorem Nwz.same {u U : State} (h : u.vm = U.vm) (hz : Nwz u) : Nwz U := ⟨va_Nw.same rfl h hz.1, va_Nw.same rfl h hz.2⟩
def tyz (cI cD : ClassId) : List (ClassId × FieldType) := [(cI, .int), (cD, .object RX0)]
def AA (α : Nat → Nat) (sz : Nat) : Nat → Prop := fun q => (∃ k, k < 73 ∧ q = α k) ∨ sz ≤ q
/-- a method's start: the world σ -/
def Wd (D : va_G) (cI cD : ClassId) (α : Nat → Nat) (σ : Hp) (sz : Nat) (U : State) : Prop := U.heap.size = sz ∧ va_P D clz (cells cI cD α σ) U.heap ∧ va_K D clz (tyz cI cD) U ∧ Inj α ∧ Nwz U
/-- a method's end: it returned r, the world is r's -/
def Qw (D : va_G) (cI cD : ClassId) (α : Nat → Nat) (A : Nat → Prop) (r : Rs) : Array Value → State → Outcome → State → Prop := fun _ st oc t => oc = .returned r.1 ∧ va_P D clz (cells cI cD α r.2) t.heap ∧ va_F A st t
/-- a method's contract: from the world σ with these arguments it returns what ex says -/
def Ct (y : MethodName) (b : ByteArray) (n : Nat) (ret : Option FieldType) (fr lo : Nat) (α : Nat → Nat) (as : List Value) (σ : Hp) (ex : Option Rs) : Prop :=
  ∀ (l : Launch) (D : va_G) (cI cD : ClassId) (r : Rs), ex = some r → ∀ sz : Nat, Met l y (wsU y b n ret) { frames := fr, cells := 0, slots := 0, locals := lo } (va_Pc as (Wd D cI cD α σ sz)) (Qw D cI cD α (AA α sz) r) 0 0 (AA α sz)
abbrev Gm : Type := Program × Launch × Env × Room × State × MethodId × Array Value × List Frame × Method × Code × va_G × ClassId × ClassId × (Nat → Prop) × Nat × Nat × (Rs → State → Prop)
/-- from here the machine comes to the end that x tells -/
def V {X : Type} (G : Gm) (α : Nat → Nat) (nL : Nat) (κ : X → Option Rs) (pc : Nat) (ls : List (Nat × Value)) (stk : List Value) (σ : Hp) (x : X) : Prop :=
  match G with
  | (p, l, e, R, s, m, args, below, meth, c, D, cI, cD, A, cs, sl, Qr) =>
    ∀ r : Rs, κ x = some r → ∀ (H : Heap) (locs : List Loc) (la : Array Slot), va_P D clz (cells cI cD α σ) H → va_S A s.heap H locs → lv_has la nL ls → W p l e R s m args below meth c H locs cs sl (Qr r) (F0 m pc la stk)
def Ok (G : Gm) (α : Nat → Nat) (cc : ByteArray) (nL : Nat) (own : String) (fr lo : Nat) : Prop :=
  match G with
  | (p, _, _, R, s, m, args, _, _, c, D, cI, cD, A, cs, sl, _) =>
    p.tables.exec = Jvm.exec ∧ c.code = cc ∧ c.maxLocals = nL ∧ s.vm.findClass own = some m.cls ∧ (∀ w ∈ gw, w.before args s = true) ∧ va_K D clz (tyz cI cD) s ∧ Inj α ∧ Nwz s ∧ (∀ k, k < 73 → A (α k)) ∧ (∀ q, s.heap.size ≤ q → A q) ∧ (R.frames = fr ∧ R.locals = lo) ∧ (cs ≤ R.cells ∧ sl ≤ R.slots)
def Rt (G : Gm) (α : Nat → Nat) (ret : Option FieldType) : Prop :=
  match G with
  | (_, _, _, _, s, _, args, below, meth, _, D, cI, cD, A, cs, sl, Qr) =>
    meth.sig.returnType = ret ∧ meth.locks = false ∧ cs = 0 ∧ sl = 0 ∧ Qr = fun r => MQ below (Qw D cI cD α A r) args s 0 0 A
theorem V_iload_n {X : Type} {G : Gm} {α : Nat → Nat} {nL : Nat} {κ : X → Option Rs} {pc : Nat} {ls : List (Nat × Value)} {stk : List Value} {σ : Hp} {x : X} {cc : ByteArray} {own : String} {fr lo : Nat} (hO : Ok G α cc nL own fr lo) (pl : Nat) {j : Fin 4} {i : Nat} {v : Int32} (d : decode cc pc = .ok (.iload_n j, 1)) (hi : (j : Nat) = i) (h : ls[pl]? = some (i, .int v)) (k : V G α nL κ (pc + 1) ls (.int v :: stk) σ x) : V G α nL κ pc ls stk σ x := by
  obtain ⟨p, l, e, R, s, m, args, below, meth, c, D, cI, cD, A, cs, sl, Qr⟩ := G
  obtain ⟨hx, hb, hml, hown, hts, hK, hinj, hnw, hAk, hAz, hR, hcs⟩ := hO
  intro r hr H locs la hP hS hl
  exact lv_iload_n hx hb d hi (lv_at hl pl h) (k r hr H locs la hP hS hl)
theorem V_iload {X : Type} {G : Gm} {α : Nat → Nat} {nL : Nat} {κ : X → Option Rs} {pc : Nat} {ls : List (Nat × Value)} {stk : List Value} {σ : Hp} {x : X} {cc : ByteArray} {own : String} {fr lo : Nat} (hO : Ok G α cc nL own fr lo) (pl : Nat) {i : Nat} {v : Int32} (d : decode cc pc = .ok (.iload i, 2)) (h : ls[pl]? = some (i, .int v)) (k : V G α nL κ (pc + 2) ls (.int v :: stk) σ x) : V G α nL κ pc ls stk σ x := by
  obtain ⟨p, l, e, R, s, m, args, below, meth, c, D, cI, cD, A, cs, sl, Qr⟩ := G
  obtain ⟨hx, hb, hml, hown, hts, hK, hinj, hnw, hAk, hAz, hR, hcs⟩ := hO
  intro r hr H locs la hP hS hl
  exact lv_iload hx hb d (lv_at hl pl h) (k r hr H locs la hP hS hl)
theorem V_istore_n {X : Type} {G : Gm} {α : Nat → Nat} {nL : Nat} {κ : X → Option Rs} {pc : Nat} {ls : List (Nat × Value)} {stk : List Value} {σ : Hp} {x : X} {cc : ByteArray} {own : String} {fr lo : Nat} (hO : Ok G α cc nL own fr lo) {ls2 : List (Nat × Value)} {j : Fin 4} {i : Nat} {v : Int32} (d : decode cc pc = .ok (.istore_n j, 1)) (hi : (j : Nat) = i) (hn : i < nL) (h : (i, Value.int v) :: ls.filter (fun q => !(q.1 == i) && !(q.1 + 1 == i && q.2.category == 2)) = ls2) (k : V G α nL κ (pc + 1) ls2 stk σ x) : V G α nL κ pc ls (.int v :: stk) σ x := by
  obtain ⟨p, l, e, R, s, m, args, below, meth, c, D, cI, cD, A, cs, sl, Qr⟩ := G
  obtain ⟨hx, hb, hml, hown, hts, hK, hinj, hnw, hAk, hAz, hR, hcs⟩ := hO
  intro r hr H locs la hP hS hl
  exact lv_istore_n hx hb d hi hl hn h (fun la2 hl2 => k r hr H locs la2 hP hS hl2)
theorem V_istore {X : Type} {G : Gm} {α : Nat → Nat} {nL : Nat} {κ : X → Option Rs} {pc : Nat} {ls : List (Nat × Value)} {stk : List Value} {σ : Hp} {x : X} {cc : ByteArray} {own : String} {fr lo : Nat} (hO : Ok G α cc nL own fr lo) {ls2 : List (Nat × Value)} {i : Nat} {v : Int32} (d : decode cc pc = .ok (.istore i, 2)) (hn : i < nL) (h : (i, Value.int v) :: ls.filter (fun q => !(q.1 == i) && !(q.1 + 1 == i && q.2.category == 2)) = ls2) (k : V G α nL κ (pc + 2) ls2 stk σ x) : V G α nL κ pc ls (.int v :: stk) σ x := by
  obtain ⟨p, l, e, R, s, m, args, below, meth, c, D, cI, cD, A, cs, sl, Qr⟩ := G
  obtain ⟨hx, hb, hml, hown, hts, hK, hinj, hnw, hAk, hAz, hR, hcs⟩ := hO
  intro r hr H locs la hP hS hl
  exact lv_istore hx hb d hl hn h (fun la2 hl2 => k r hr H locs la2 hP hS hl2)
theorem V_lload_n {X : Type} {G : Gm} {α : Nat → Nat} {nL : Nat} {κ : X → Option Rs} {pc : Nat} {ls : List (Nat × Value)} {stk : List Value} {σ : Hp} {x : X} {cc : ByteArray} {own : String} {fr lo : Nat} (hO : Ok G α cc nL own fr lo) (pl : Nat) {j : Fin 4} {i : Nat} {v : Int64} (d : decode cc pc = .ok (.lload_n j, 1)) (hi : (j : Nat) = i) (h : ls[pl]? = some (i, .long v)) (k : V G α nL κ (pc + 1) ls (.long v :: stk) σ x) : V G α nL κ pc ls stk σ x := by
  obtain ⟨p, l, e, R, s, m, args, below, meth, c, D, cI, cD, A, cs, sl, Qr⟩ := G
  obtain ⟨hx, hb, hml, hown, hts, hK, hinj, hnw, hAk, hAz, hR, hcs⟩ := hO
  intro r hr H locs la hP hS hl
  exact lv_lload_n hx hb d hi (lv_at hl pl h) (k r hr H locs la hP hS hl)
theorem V_lload {X : Type} {G : Gm} {α : Nat → Nat} {nL : Nat} {κ : X → Option Rs} {pc : Nat} {ls : List (Nat × Value)} {stk : List Value} {σ : Hp} {x : X} {cc : ByteArray} {own : String} {fr lo : Nat} (hO : Ok G α cc nL own fr lo) (pl : Nat) {i : Nat} {v : Int64} (d : decode cc pc = .ok (.lload i, 2)) (h : ls[pl]? = some (i, .long v)) (k : V G α nL κ (pc + 2) ls (.long v :: stk) σ x) : V G α nL κ pc ls stk σ x := by
  obtain ⟨p, l, e, R, s, m, args, below, meth, c, D, cI, cD, A, cs, sl, Qr⟩ := G
  obtain ⟨hx, hb, hml, hown, hts, hK, hinj, hnw, hAk, hAz, hR, hcs⟩ := hO
  intro r hr H locs la hP hS hl
  exact lv_lload hx hb d (lv_at hl pl h) (k r hr H locs la hP hS hl)
theorem V_lstore_n {X : Type} {G : Gm} {α : Nat → Nat} {nL : Nat} {κ : X → Option Rs} {pc : Nat} {ls : List (Nat × Value)} {stk : List Value} {σ : Hp} {x : X} {cc : ByteArray} {own : String} {fr lo : Nat} (hO : Ok G α cc nL own fr lo) {ls2 : List (Nat × Value)} {j : Fin 4} {i : Nat} {v : Int64} (d : decode cc pc = .ok (.lstore_n j, 1)) (hi : (j : Nat) = i) (hn : i + 1 < nL) (h : (i, Value.long v) :: ls.filter (fun q => !(q.1 == i) && (!(q.1 == i + 1) && !(q.1 + 1 == i && q.2.category == 2))) = ls2) (k : V G α nL κ (pc + 1) ls2 stk σ x) : V G α nL κ pc ls (.long v :: stk) σ x := by
  obtain ⟨p, l, e, R, s, m, args, below, meth, c, D, cI, cD, A, cs, sl, Qr⟩ := G
  obtain ⟨hx, hb, hml, hown, hts, hK, hinj, hnw, hAk, hAz, hR, hcs⟩ := hO
  intro r hr H locs la hP hS hl
  exact lv_lstore_n hx hb d hi hl hn h (fun la2 hl2 => k r hr H locs la2 hP hS hl2)
theorem V_lstore {X : Type} {G : Gm} {α : Nat → Nat} {nL : Nat} {κ : X → Option Rs} {pc : Nat} {ls : List (Nat × Value)} {stk : List Value} {σ : Hp} {x : X} {cc : ByteArray} {own : String} {fr lo : Nat} (hO : Ok G α cc nL own fr lo) {ls2 : List (Nat × Value)} {i : Nat} {v : Int64} (d : decode cc pc = .ok (.lstore i, 2)) (hn : i + 1 < nL) (h : (i, Value.long v) :: ls.filter (fun q => !(q.1 == i) && (!(q.1 == i + 1) && !(q.1 + 1 == i && q.2.category == 2))) = ls2) (k : V G α nL κ (pc + 2) ls2 stk σ x) : V G α nL κ pc ls (.long v :: stk) σ x := by
  obtain ⟨p, l, e, R, s, m, args, below, meth, c, D, cI, cD, A, cs, sl, Qr⟩ := G
  obtain ⟨hx, hb, hml, hown, hts, hK, hinj, hnw, hAk, hAz, hR, hcs⟩ := hO
  intro r hr H locs la hP hS hl
  exact lv_lstore hx hb d hl hn h (fun la2 hl2 => k r hr H locs la2 hP hS hl2)
theorem V_aload_n {X : Type} {G : Gm} {α : Nat → Nat} {nL : Nat} {κ : X → Option Rs} {pc : Nat} {ls : List (Nat × Value)} {stk : List Value} {σ : Hp} {x : X} {cc : ByteArray} {own : String} {fr lo : Nat} (hO : Ok G α cc nL own fr lo) (pl : Nat) {j : Fin 4} {i : Nat} {v : Nat} (d : decode cc pc = .ok (.aload_n j, 1)) (hi : (j : Nat) = i) (h : ls[pl]? = some (i, .ref v)) (k : V G α nL κ (pc + 1) ls (.ref v :: stk) σ x) : V G α nL κ pc ls stk σ x := by
  obtain ⟨p, l, e, R, s, m, args, below, meth, c, D, cI, cD, A, cs, sl, Qr⟩ := G
  obtain ⟨hx, hb, hml, hown, hts, hK, hinj, hnw, hAk, hAz, hR, hcs⟩ := hO
  intro r hr H locs la hP hS hl
  exact lv_aload_n hx hb d hi (lv_at hl pl h) (k r hr H locs la hP hS hl)
theorem V_aload {X : Type} {G : Gm} {α : Nat → Nat} {nL : Nat} {κ : X → Option Rs} {pc : Nat} {ls : List (Nat × Value)} {stk : List Value} {σ : Hp} {x : X} {cc : ByteArray} {own : String} {fr lo : Nat} (hO : Ok G α cc nL own fr lo) (pl : Nat) {i : Nat} {v : Nat} (d : decode cc pc = .ok (.aload i, 2)) (h : ls[pl]? = some (i, .ref v)) (k : V G α nL κ (pc + 2) ls (.ref v :: stk) σ x) : V G α nL κ pc ls stk σ x := by
  obtain ⟨p, l, e, R, s, m, args, below, meth, c, D, cI, cD, A, cs, sl, Qr⟩ := G
  obtain ⟨hx, hb, hml, hown, hts, hK, hinj, hnw, hAk, hAz, hR, hcs⟩ := hO
  intro r hr H locs la hP hS hl
  exact lv_aload hx hb d (lv_at hl pl h) (k r hr H locs la hP hS hl)
theorem V_astore_n {X : Type} {G : Gm} {α : Nat → Nat} {nL : Nat} {κ : X → Option Rs} {pc : Nat} {ls : List (Nat × Value)} {stk : List Value} {σ : Hp} {x : X} {cc : ByteArray} {own : String} {fr lo : Nat} (hO : Ok G α cc nL own fr lo) {ls2 : List (Nat × Value)} {j : Fin 4} {i : Nat} {v : Nat} (d : decode cc pc = .ok (.astore_n j, 1)) (hi : (j : Nat) = i) (hn : i < nL) (h : (i, Value.ref v) :: ls.filter (fun q => !(q.1 == i) && !(q.1 + 1 == i && q.2.category == 2)) = ls2) (k : V G α nL κ (pc + 1) ls2 stk σ x) : V G α nL κ pc ls (.ref v :: stk) σ x := by
  obtain ⟨p, l, e, R, s, m, args, below, meth, c, D, cI, cD, A, cs, sl, Qr⟩ := G
  obtain ⟨hx, hb, hml, hown, hts, hK, hinj, hnw, hAk, hAz, hR, hcs⟩ := hO
  intro r hr H locs la hP hS hl
  exact lv_astore_n hx hb d hi hl hn h (fun la2 hl2 => k r hr H locs la2 hP hS hl2)
theorem V_astore {X : Type} {G : Gm} {α : Nat → Nat} {nL : Nat} {κ : X → Option Rs} {pc : Nat} {ls : List (Nat × Value)} {stk : List Value} {σ : Hp} {x : X} {cc : ByteArray} {own : String} {fr lo : Nat} (hO : Ok G α cc nL own fr lo) {ls2 : List (Nat × Value)} {i : Nat} {v : Nat} (d : decode cc pc = .ok (.astore i, 2)) (hn : i < nL) (h : (i, Value.ref v) :: ls.filter (fun q => !(q.1 == i) && !(q.1 + 1 == i && q.2.category == 2)) = ls2) (k : V G α nL κ (pc + 2) ls2 stk σ x) : V G α nL κ pc ls (.ref v :: stk) σ x := by
  obtain ⟨p, l, e, R, s, m, args, below, meth, c, D, cI, cD, A, cs, sl, Qr⟩ := G
  obtain ⟨hx, hb, hml, hown, hts, hK, hinj, hnw, hAk, hAz, hR, hcs⟩ := hO
  intro r hr H locs la hP hS hl
  exact lv_astore hx hb d hl hn h (fun la2 hl2 => k r hr H locs la2 hP hS hl2)
theorem V_iinc {X : Type} {G : Gm} {α : Nat → Nat} {nL : Nat} {κ : X → Option Rs} {pc : Nat} {ls : List (Nat × Value)} {stk : List Value} {σ : Hp} {x : X} {cc : ByteArray} {own : String} {fr lo : Nat} (hO : Ok G α cc nL own fr lo) {ls2 : List (Nat × Value)} (pl : Nat) {i : Nat} {n : Int} {v z : Int32} (d : decode cc pc = .ok (.iinc i n, 3)) (hk : ls[pl]? = some (i, .int v)) (hz : Int32.ofInt n = z) (hn : i < nL) (h : (i, Value.int (v + z)) :: ls.filter (fun q => !(q.1 == i) && !(q.1 + 1 == i && q.2.category == 2)) = ls2) (k : V G α nL κ (pc + 3) ls2 stk σ x) : V G α nL κ pc ls stk σ x := by
  obtain ⟨p, l, e, R, s, m, args, below, meth, c, D, cI, cD, A, cs, sl, Qr⟩ := G
  obtain ⟨hx, hb, hml, hown, hts, hK, hinj, hnw, hAk, hAz, hR, hcs⟩ := hO
  intro r hr H locs la hP hS hl
  exact lv_iinc hx hb d hl hk (by rw [hz]) hn h (fun la2 hl2 => k r hr H locs la2 hP hS hl2)
theorem V_iconst {X : Type} {G : Gm} {α : Nat → Nat} {nL : Nat} {κ : X → Option Rs} {pc : Nat} {ls : List (Nat × Value)} {stk : List Value} {σ : Hp} {x : X} {cc : ByteArray} {own : String} {fr lo : Nat} (hO : Ok G α cc nL own fr lo) {n : Int} (v : Int32) (d : decode cc pc = .ok (.iconst n, 1)) (hv : Int32.ofInt n = v) (k : V G α nL κ (pc + 1) ls (.int v :: stk) σ x) : V G α nL κ pc ls stk σ x := by
  obtain ⟨p, l, e, R, s, m, args, below, meth, c, D, cI, cD, A, cs, sl, Qr⟩ := G
  obtain ⟨hx, hb, hml, hown, hts, hK, hinj, hnw, hAk, hAz, hR, hcs⟩ := hO
  intro r hr H locs la hP hS hl
  exact lv_iconst hx hb d hv (k r hr H locs la hP hS hl)
theorem V_bipush {X : Type} {G : Gm} {α : Nat → Nat} {nL : Nat} {κ : X → Option Rs} {pc : Nat} {ls : List (Nat × Value)} {stk : List Value} {σ : Hp} {x : X} {cc : ByteArray} {own : String} {fr lo : Nat} (hO : Ok G α cc nL own fr lo) {n : Int} (v : Int32) (d : decode cc pc = .ok (.bipush n, 2)) (hv : (Int8.ofInt n).toInt32 = v) (k : V G α nL κ (pc + 2) ls (.int v :: stk) σ x) : V G α nL κ pc ls stk σ x := by
  obtain ⟨p, l, e, R, s, m, args, below, meth, c, D, cI, cD, A, cs, sl, Qr⟩ := G
  obtain ⟨hx, hb, hml, hown, hts, hK, hinj, hnw, hAk, hAz, hR, hcs⟩ := hO
  intro r hr H locs la hP hS hl
  exact lv_bipush hx hb d hv (k r hr H locs la hP hS hl)
theorem V_sipush {X : Type} {G : Gm} {α : Nat → Nat} {nL : Nat} {κ : X → Option Rs} {pc : Nat} {ls : List (Nat × Value)} {stk : List Value} {σ : Hp} {x : X} {cc : ByteArray} {own : String} {fr lo : Nat} (hO : Ok G α cc nL own fr lo) {n : Int} (v : Int32) (d : decode cc pc = .ok (.sipush n, 3)) (hv : (Int16.ofInt n).toInt32 = v) (k : V G α nL κ (pc + 3) ls (.int v :: stk) σ x) : V G α nL κ pc ls stk σ x := by
  obtain ⟨p, l, e, R, s, m, args, below, meth, c, D, cI, cD, A, cs, sl, Qr⟩ := G
  obtain ⟨hx, hb, hml, hown, hts, hK, hinj, hnw, hAk, hAz, hR, hcs⟩ := hO
  intro r hr H locs la hP hS hl
  exact lv_sipush hx hb d hv (k r hr H locs la hP hS hl)
theorem V_lconst {X : Type} {G : Gm} {α : Nat → Nat} {nL : Nat} {κ : X → Option Rs} {pc : Nat} {ls : List (Nat × Value)} {stk : List Value} {σ : Hp} {x : X} {cc : ByteArray} {own : String} {fr lo : Nat} (hO : Ok G α cc nL own fr lo) {n : Fin 2} (v : Int64) (d : decode cc pc = .ok (.lconst n, 1)) (hv : Int64.ofNat (n : Nat) = v) (k : V G α nL κ (pc + 1) ls (.long v :: stk) σ x) : V G α nL κ pc ls stk σ x := by
  obtain ⟨p, l, e, R, s, m, args, below, meth, c, D, cI, cD, A, cs, sl, Qr⟩ := G
  obtain ⟨hx, hb, hml, hown, hts, hK, hinj, hnw, hAk, hAz, hR, hcs⟩ := hO
  intro r hr H locs la hP hS hl
  exact lv_lconst hx hb d hv (k r hr H locs la hP hS hl)
theorem V_ldc {X : Type} {G : Gm} {α : Nat → Nat} {nL : Nat} {κ : X → Option Rs} {pc : Nat} {ls : List (Nat × Value)} {stk : List Value} {σ : Hp} {x : X} {cc : ByteArray} {own : String} {fr lo : Nat} (hO : Ok G α cc nL own fr lo) {n : Nat} {v : Int32} (d : decode cc pc = .ok (.ldc n, 2)) (hv : Cond.constant own n v ∈ gw) (k : V G α nL κ (pc + 2) ls (.int v :: stk) σ x) : V G α nL κ pc ls stk σ x := by
  obtain ⟨p, l, e, R, s, m, args, below, meth, c, D, cI, cD, A, cs, sl, Qr⟩ := G
  obtain ⟨hx, hb, hml, hown, hts, hK, hinj, hnw, hAk, hAz, hR, hcs⟩ := hO
  intro r hr H locs la hP hS hl
  exact lv_ldc hx hb hown (hts _ hv) d (k r hr H locs la hP hS hl)
theorem V_ldcw {X : Type} {G : Gm} {α : Nat → Nat} {nL : Nat} {κ : X → Option Rs} {pc : Nat} {ls : List (Nat × Value)} {stk : List Value} {σ : Hp} {x : X} {cc : ByteArray} {own : String} {fr lo : Nat} (hO : Ok G α cc nL own fr lo) {n : Nat} {v : Int32} (d : decode cc pc = .ok (.ldc_w n, 3)) (hv : Cond.constant own n v ∈ gw) (k : V G α nL κ (pc + 3) ls (.int v :: stk) σ x) : V G α nL κ pc ls stk σ x := by
  obtain ⟨p, l, e, R, s, m, args, below, meth, c, D, cI, cD, A, cs, sl, Qr⟩ := G
  obtain ⟨hx, hb, hml, hown, hts, hK, hinj, hnw, hAk, hAz, hR, hcs⟩ := hO
  intro r hr H locs la hP hS hl
  exact lv_ldcw hx hb hown (hts _ hv) d (k r hr H locs la hP hS hl)
theorem V_ldc2 {X : Type} {G : Gm} {α : Nat → Nat} {nL : Nat} {κ : X → Option Rs} {pc : Nat} {ls : List (Nat × Value)} {stk : List Value} {σ : Hp} {x : X} {cc : ByteArray} {own : String} {fr lo : Nat} (hO : Ok G α cc nL own fr lo) {n : Nat} {v : Int64} (d : decode cc pc = .ok (.ldc2_w n, 3)) (hv : Cond.constantLong own n v ∈ gw) (k : V G α nL κ (pc + 3) ls (.long v :: stk) σ x) : V G α nL κ pc ls stk σ x := by
  obtain ⟨p, l, e, R, s, m, args, below, meth, c, D, cI, cD, A, cs, sl, Qr⟩ := G
  obtain ⟨hx, hb, hml, hown, hts, hK, hinj, hnw, hAk, hAz, hR, hcs⟩ := hO
  intro r hr H locs la hP hS hl
  exact lv_ldc2 hx hb hown (hts _ hv) d (k r hr H locs la hP hS hl)
theorem V_iadd {X : Type} {G : Gm} {α : Nat → Nat} {nL : Nat} {κ : X → Option Rs} {pc : Nat} {ls : List (Nat × Value)} {stk : List Value} {σ : Hp} {x : X} {cc : ByteArray} {own : String} {fr lo : Nat} (hO : Ok G α cc nL own fr lo) {a b : Int32} (d : decode cc pc = .ok (.iadd, 1))  (k : V G α nL κ (pc + 1) ls (.int (a + b) :: stk) σ x) : V G α nL κ pc ls (.int b :: .int a :: stk) σ x := by
  obtain ⟨p, l, e, R, s, m, args, below, meth, c, D, cI, cD, A, cs, sl, Qr⟩ := G
  obtain ⟨hx, hb, hml, hown, hts, hK, hinj, hnw, hAk, hAz, hR, hcs⟩ := hO
  intro r hr H locs la hP hS hl
  exact lv_iadd hx hb d (k r hr H locs la hP hS hl)
theorem V_isub {X : Type} {G : Gm} {α : Nat → Nat} {nL : Nat} {κ : X → Option Rs} {pc : Nat} {ls : List (Nat × Value)} {stk : List Value} {σ : Hp} {x : X} {cc : ByteArray} {own : String} {fr lo : Nat} (hO : Ok G α cc nL own fr lo) {a b : Int32} (d : decode cc pc = .ok (.isub, 1))  (k : V G α nL κ (pc + 1) ls (.int (a - b) :: stk) σ x) : V G α nL κ pc ls (.int b :: .int a :: stk) σ x := by
  obtain ⟨p, l, e, R, s, m, args, below, meth, c, D, cI, cD, A, cs, sl, Qr⟩ := G
  obtain ⟨hx, hb, hml, hown, hts, hK, hinj, hnw, hAk, hAz, hR, hcs⟩ := hO
  intro r hr H locs la hP hS hl
  exact lv_isub hx hb d (k r hr H locs la hP hS hl)
theorem V_imul {X : Type} {G : Gm} {α : Nat → Nat} {nL : Nat} {κ : X → Option Rs} {pc : Nat} {ls : List (Nat × Value)} {stk : List Value} {σ : Hp} {x : X} {cc : ByteArray} {own : String} {fr lo : Nat} (hO : Ok G α cc nL own fr lo) {a b : Int32} (d : decode cc pc = .ok (.imul, 1))  (k : V G α nL κ (pc + 1) ls (.int (a * b) :: stk) σ x) : V G α nL κ pc ls (.int b :: .int a :: stk) σ x := by
  obtain ⟨p, l, e, R, s, m, args, below, meth, c, D, cI, cD, A, cs, sl, Qr⟩ := G
  obtain ⟨hx, hb, hml, hown, hts, hK, hinj, hnw, hAk, hAz, hR, hcs⟩ := hO
  intro r hr H locs la hP hS hl
  exact lv_imul hx hb d (k r hr H locs la hP hS hl)
theorem V_iand {X : Type} {G : Gm} {α : Nat → Nat} {nL : Nat} {κ : X → Option Rs} {pc : Nat} {ls : List (Nat × Value)} {stk : List Value} {σ : Hp} {x : X} {cc : ByteArray} {own : String} {fr lo : Nat} (hO : Ok G α cc nL own fr lo) {a b : Int32} (d : decode cc pc = .ok (.iand, 1))  (k : V G α nL κ (pc + 1) ls (.int (a &&& b) :: stk) σ x) : V G α nL κ pc ls (.int b :: .int a :: stk) σ x := by
  obtain ⟨p, l, e, R, s, m, args, below, meth, c, D, cI, cD, A, cs, sl, Qr⟩ := G
  obtain ⟨hx, hb, hml, hown, hts, hK, hinj, hnw, hAk, hAz, hR, hcs⟩ := hO
  intro r hr H locs la hP hS hl
  exact lv_iand hx hb d (k r hr H locs la hP hS hl)
theorem V_ixor {X : Type} {G : Gm} {α : Nat → Nat} {nL : Nat} {κ : X → Option Rs} {pc : Nat} {ls : List (Nat × Value)} {stk : List Value} {σ : Hp} {x : X} {cc : ByteArray} {own : String} {fr lo : Nat} (hO : Ok G α cc nL own fr lo) {a b : Int32} (d : decode cc pc = .ok (.ixor, 1))  (k : V G α nL κ (pc + 1) ls (.int (a ^^^ b) :: stk) σ x) : V G α nL κ pc ls (.int b :: .int a :: stk) σ x := by
  obtain ⟨p, l, e, R, s, m, args, below, meth, c, D, cI, cD, A, cs, sl, Qr⟩ := G
  obtain ⟨hx, hb, hml, hown, hts, hK, hinj, hnw, hAk, hAz, hR, hcs⟩ := hO
  intro r hr H locs la hP hS hl
  exact lv_ixor hx hb d (k r hr H locs la hP hS hl)
theorem V_ishl {X : Type} {G : Gm} {α : Nat → Nat} {nL : Nat} {κ : X → Option Rs} {pc : Nat} {ls : List (Nat × Value)} {stk : List Value} {σ : Hp} {x : X} {cc : ByteArray} {own : String} {fr lo : Nat} (hO : Ok G α cc nL own fr lo) {a b : Int32} (d : decode cc pc = .ok (.ishl, 1))  (k : V G α nL κ (pc + 1) ls (.int (a <<< (b &&& 31)) :: stk) σ x) : V G α nL κ pc ls (.int b :: .int a :: stk) σ x := by
  obtain ⟨p, l, e, R, s, m, args, below, meth, c, D, cI, cD, A, cs, sl, Qr⟩ := G
  obtain ⟨hx, hb, hml, hown, hts, hK, hinj, hnw, hAk, hAz, hR, hcs⟩ := hO
  intro r hr H locs la hP hS hl
  exact lv_ishl hx hb d (k r hr H locs la hP hS hl)
theorem V_ishr {X : Type} {G : Gm} {α : Nat → Nat} {nL : Nat} {κ : X → Option Rs} {pc : Nat} {ls : List (Nat × Value)} {stk : List Value} {σ : Hp} {x : X} {cc : ByteArray} {own : String} {fr lo : Nat} (hO : Ok G α cc nL own fr lo) {a b : Int32} (d : decode cc pc = .ok (.ishr, 1))  (k : V G α nL κ (pc + 1) ls (.int (a >>> (b &&& 31)) :: stk) σ x) : V G α nL κ pc ls (.int b :: .int a :: stk) σ x := by
  obtain ⟨p, l, e, R, s, m, args, below, meth, c, D, cI, cD, A, cs, sl, Qr⟩ := G
  obtain ⟨hx, hb, hml, hown, hts, hK, hinj, hnw, hAk, hAz, hR, hcs⟩ := hO
  intro r hr H locs la hP hS hl
  exact lv_ishr hx hb d (k r hr H locs la hP hS hl)
theorem V_ladd {X : Type} {G : Gm} {α : Nat → Nat} {nL : Nat} {κ : X → Option Rs} {pc : Nat} {ls : List (Nat × Value)} {stk : List Value} {σ : Hp} {x : X} {cc : ByteArray} {own : String} {fr lo : Nat} (hO : Ok G α cc nL own fr lo) {a b : Int64} (d : decode cc pc = .ok (.ladd, 1))  (k : V G α nL κ (pc + 1) ls (.long (a + b) :: stk) σ x) : V G α nL κ pc ls (.long b :: .long a :: stk) σ x := by
  obtain ⟨p, l, e, R, s, m, args, below, meth, c, D, cI, cD, A, cs, sl, Qr⟩ := G
  obtain ⟨hx, hb, hml, hown, hts, hK, hinj, hnw, hAk, hAz, hR, hcs⟩ := hO
  intro r hr H locs la hP hS hl
  exact lv_ladd hx hb d (k r hr H locs la hP hS hl)
theorem V_lmul {X : Type} {G : Gm} {α : Nat → Nat} {nL : Nat} {κ : X → Option Rs} {pc : Nat} {ls : List (Nat × Value)} {stk : List Value} {σ : Hp} {x : X} {cc : ByteArray} {own : String} {fr lo : Nat} (hO : Ok G α cc nL own fr lo) {a b : Int64} (d : decode cc pc = .ok (.lmul, 1))  (k : V G α nL κ (pc + 1) ls (.long (a * b) :: stk) σ x) : V G α nL κ pc ls (.long b :: .long a :: stk) σ x := by
  obtain ⟨p, l, e, R, s, m, args, below, meth, c, D, cI, cD, A, cs, sl, Qr⟩ := G
  obtain ⟨hx, hb, hml, hown, hts, hK, hinj, hnw, hAk, hAz, hR, hcs⟩ := hO
  intro r hr H locs la hP hS hl
  exact lv_lmul hx hb d (k r hr H locs la hP hS hl)
theorem V_land {X : Type} {G : Gm} {α : Nat → Nat} {nL : Nat} {κ : X → Option Rs} {pc : Nat} {ls : List (Nat × Value)} {stk : List Value} {σ : Hp} {x : X} {cc : ByteArray} {own : String} {fr lo : Nat} (hO : Ok G α cc nL own fr lo) {a b : Int64} (d : decode cc pc = .ok (.land, 1))  (k : V G α nL κ (pc + 1) ls (.long (a &&& b) :: stk) σ x) : V G α nL κ pc ls (.long b :: .long a :: stk) σ x := by
  obtain ⟨p, l, e, R, s, m, args, below, meth, c, D, cI, cD, A, cs, sl, Qr⟩ := G
  obtain ⟨hx, hb, hml, hown, hts, hK, hinj, hnw, hAk, hAz, hR, hcs⟩ := hO
  intro r hr H locs la hP hS hl
  exact lv_land hx hb d (k r hr H locs la hP hS hl)
theorem V_lor {X : Type} {G : Gm} {α : Nat → Nat} {nL : Nat} {κ : X → Option Rs} {pc : Nat} {ls : List (Nat × Value)} {stk : List Value} {σ : Hp} {x : X} {cc : ByteArray} {own : String} {fr lo : Nat} (hO : Ok G α cc nL own fr lo) {a b : Int64} (d : decode cc pc = .ok (.lor, 1))  (k : V G α nL κ (pc + 1) ls (.long (a ||| b) :: stk) σ x) : V G α nL κ pc ls (.long b :: .long a :: stk) σ x := by
  obtain ⟨p, l, e, R, s, m, args, below, meth, c, D, cI, cD, A, cs, sl, Qr⟩ := G
  obtain ⟨hx, hb, hml, hown, hts, hK, hinj, hnw, hAk, hAz, hR, hcs⟩ := hO
  intro r hr H locs la hP hS hl
  exact lv_lor hx hb d (k r hr H locs la hP hS hl)
theorem V_iushr {X : Type} {G : Gm} {α : Nat → Nat} {nL : Nat} {κ : X → Option Rs} {pc : Nat} {ls : List (Nat × Value)} {stk : List Value} {σ : Hp} {x : X} {cc : ByteArray} {own : String} {fr lo : Nat} (hO : Ok G α cc nL own fr lo) {a b : Int32} (d : decode cc pc = .ok (.iushr, 1))  (k : V G α nL κ (pc + 1) ls (.int (jushr a b) :: stk) σ x) : V G α nL κ pc ls (.int b :: .int a :: stk) σ x := by
  obtain ⟨p, l, e, R, s, m, args, below, meth, c, D, cI, cD, A, cs, sl, Qr⟩ := G
  obtain ⟨hx, hb, hml, hown, hts, hK, hinj, hnw, hAk, hAz, hR, hcs⟩ := hO
  intro r hr H locs la hP hS hl
  exact lv_iushr hx hb d rfl (k r hr H locs la hP hS hl)
theorem V_lushr {X : Type} {G : Gm} {α : Nat → Nat} {nL : Nat} {κ : X → Option Rs} {pc : Nat} {ls : List (Nat × Value)} {stk : List Value} {σ : Hp} {x : X} {cc : ByteArray} {own : String} {fr lo : Nat} (hO : Ok G α cc nL own fr lo) {a : Int64} {b : Int32} (d : decode cc pc = .ok (.lushr, 1))  (k : V G α nL κ (pc + 1) ls (.long (jlushr a b) :: stk) σ x) : V G α nL κ pc ls (.int b :: .long a :: stk) σ x := by
  obtain ⟨p, l, e, R, s, m, args, below, meth, c, D, cI, cD, A, cs, sl, Qr⟩ := G
  obtain ⟨hx, hb, hml, hown, hts, hK, hinj, hnw, hAk, hAz, hR, hcs⟩ := hO
  intro r hr H locs la hP hS hl
  exact lv_lushr hx hb d rfl (k r hr H locs la hP hS hl)
theorem V_lshl {X : Type} {G : Gm} {α : Nat → Nat} {nL : Nat} {κ : X → Option Rs} {pc : Nat} {ls : List (Nat × Value)} {stk : List Value} {σ : Hp} {x : X} {cc : ByteArray} {own : String} {fr lo : Nat} (hO : Ok G α cc nL own fr lo) {a : Int64} {b : Int32} (d : decode cc pc = .ok (.lshl, 1))  (k : V G α nL κ (pc + 1) ls (.long (jlshl a b) :: stk) σ x) : V G α nL κ pc ls (.int b :: .long a :: stk) σ x := by
  obtain ⟨p, l, e, R, s, m, args, below, meth, c, D, cI, cD, A, cs, sl, Qr⟩ := G
  obtain ⟨hx, hb, hml, hown, hts, hK, hinj, hnw, hAk, hAz, hR, hcs⟩ := hO
  intro r hr H locs la hP hS hl
  exact lv_lshl hx hb d rfl (k r hr H locs la hP hS hl)
theorem V_i2l {X : Type} {G : Gm} {α : Nat → Nat} {nL : Nat} {κ : X → Option Rs} {pc : Nat} {ls : List (Nat × Value)} {stk : List Value} {σ : Hp} {x : X} {cc : ByteArray} {own : String} {fr lo : Nat} (hO : Ok G α cc nL own fr lo) {a : Int32} (d : decode cc pc = .ok (.i2l, 1))  (k : V G α nL κ (pc + 1) ls (.long a.toInt64 :: stk) σ x) : V G α nL κ pc ls (.int a :: stk) σ x := by
  obtain ⟨p, l, e, R, s, m, args, below, meth, c, D, cI, cD, A, cs, sl, Qr⟩ := G
  obtain ⟨hx, hb, hml, hown, hts, hK, hinj, hnw, hAk, hAz, hR, hcs⟩ := hO
  intro r hr H locs la hP hS hl
  exact lv_i2l hx hb d rfl (k r hr H locs la hP hS hl)
theorem V_l2i {X : Type} {G : Gm} {α : Nat → Nat} {nL : Nat} {κ : X → Option Rs} {pc : Nat} {ls : List (Nat × Value)} {stk : List Value} {σ : Hp} {x : X} {cc : ByteArray} {own : String} {fr lo : Nat} (hO : Ok G α cc nL own fr lo) {a : Int64} (d : decode cc pc = .ok (.l2i, 1))  (k : V G α nL κ (pc + 1) ls (.int a.toInt32 :: stk) σ x) : V G α nL κ pc ls (.long a :: stk) σ x := by
  obtain ⟨p, l, e, R, s, m, args, below, meth, c, D, cI, cD, A, cs, sl, Qr⟩ := G
  obtain ⟨hx, hb, hml, hown, hts, hK, hinj, hnw, hAk, hAz, hR, hcs⟩ := hO
  intro r hr H locs la hP hS hl
  exact lv_l2i hx hb d rfl (k r hr H locs la hP hS hl)
theorem V_idiv {X : Type} {G : Gm} {α : Nat → Nat} {nL : Nat} {κ : X → Option Rs} {pc : Nat} {ls : List (Nat × Value)} {stk : List Value} {σ : Hp} {x : X} {cc : ByteArray} {own : String} {fr lo : Nat} (hO : Ok G α cc nL own fr lo) {a b : Int32} (d : decode cc pc = .ok (.idiv, 1)) (hne : ¬ b = 0) (k : V G α nL κ (pc + 1) ls (.int (a / b) :: stk) σ x) : V G α nL κ pc ls (.int b :: .int a :: stk) σ x := by
  obtain ⟨p, l, e, R, s, m, args, below, meth, c, D, cI, cD, A, cs, sl, Qr⟩ := G
  obtain ⟨hx, hb, hml, hown, hts, hK, hinj, hnw, hAk, hAz, hR, hcs⟩ := hO
  intro r hr H locs la hP hS hl
  exact lv_idiv hx hb d hne (k r hr H locs la hP hS hl)
theorem V_irem {X : Type} {G : Gm} {α : Nat → Nat} {nL : Nat} {κ : X → Option Rs} {pc : Nat} {ls : List (Nat × Value)} {stk : List Value} {σ : Hp} {x : X} {cc : ByteArray} {own : String} {fr lo : Nat} (hO : Ok G α cc nL own fr lo) {a b : Int32} (d : decode cc pc = .ok (.irem, 1)) (hne : ¬ b = 0) (k : V G α nL κ (pc + 1) ls (.int (jrem a b) :: stk) σ x) : V G α nL κ pc ls (.int b :: .int a :: stk) σ x := by
  obtain ⟨p, l, e, R, s, m, args, below, meth, c, D, cI, cD, A, cs, sl, Qr⟩ := G
  obtain ⟨hx, hb, hml, hown, hts, hK, hinj, hnw, hAk, hAz, hR, hcs⟩ := hO
  intro r hr H locs la hP hS hl
  exact lv_irem hx hb d hne (k r hr H locs la hP hS hl)
theorem V_ldiv {X : Type} {G : Gm} {α : Nat → Nat} {nL : Nat} {κ : X → Option Rs} {pc : Nat} {ls : List (Nat × Value)} {stk : List Value} {σ : Hp} {x : X} {cc : ByteArray} {own : String} {fr lo : Nat} (hO : Ok G α cc nL own fr lo) {a b : Int64} (d : decode cc pc = .ok (.ldiv, 1)) (hne : ¬ b = 0) (k : V G α nL κ (pc + 1) ls (.long (a / b) :: stk) σ x) : V G α nL κ pc ls (.long b :: .long a :: stk) σ x := by
  obtain ⟨p, l, e, R, s, m, args, below, meth, c, D, cI, cD, A, cs, sl, Qr⟩ := G
  obtain ⟨hx, hb, hml, hown, hts, hK, hinj, hnw, hAk, hAz, hR, hcs⟩ := hO
  intro r hr H locs la hP hS hl
  exact lv_ldiv hx hb d hne (k r hr H locs la hP hS hl)
theorem V_lrem {X : Type} {G : Gm} {α : Nat → Nat} {nL : Nat} {κ : X → Option Rs} {pc : Nat} {ls : List (Nat × Value)} {stk : List Value} {σ : Hp} {x : X} {cc : ByteArray} {own : String} {fr lo : Nat} (hO : Ok G α cc nL own fr lo) {a b : Int64} (d : decode cc pc = .ok (.lrem, 1)) (hne : ¬ b = 0) (k : V G α nL κ (pc + 1) ls (.long (jreml a b) :: stk) σ x) : V G α nL κ pc ls (.long b :: .long a :: stk) σ x := by
  obtain ⟨p, l, e, R, s, m, args, below, meth, c, D, cI, cD, A, cs, sl, Qr⟩ := G
  obtain ⟨hx, hb, hml, hown, hts, hK, hinj, hnw, hAk, hAz, hR, hcs⟩ := hO
  intro r hr H locs la hP hS hl
  exact lv_lrem hx hb d hne (k r hr H locs la hP hS hl)
theorem V_dup {X : Type} {G : Gm} {α : Nat → Nat} {nL : Nat} {κ : X → Option Rs} {pc : Nat} {ls : List (Nat × Value)} {stk : List Value} {σ : Hp} {x : X} {cc : ByteArray} {own : String} {fr lo : Nat} (hO : Ok G α cc nL own fr lo) {v : Value} (d : decode cc pc = .ok (.dup, 1)) (hv : v.category = 1) (k : V G α nL κ (pc + 1) ls (v :: v :: stk) σ x) : V G α nL κ pc ls (v :: stk) σ x := by
  obtain ⟨p, l, e, R, s, m, args, below, meth, c, D, cI, cD, A, cs, sl, Qr⟩ := G
  obtain ⟨hx, hb, hml, hown, hts, hK, hinj, hnw, hAk, hAz, hR, hcs⟩ := hO
  intro r hr H locs la hP hS hl
  exact lv_dup hx hb d hv (k r hr H locs la hP hS hl)
theorem V_pop {X : Type} {G : Gm} {α : Nat → Nat} {nL : Nat} {κ : X → Option Rs} {pc : Nat} {ls : List (Nat × Value)} {stk : List Value} {σ : Hp} {x : X} {cc : ByteArray} {own : String} {fr lo : Nat} (hO : Ok G α cc nL own fr lo) {v : Value} (d : decode cc pc = .ok (.pop, 1)) (hv : v.category = 1) (k : V G α nL κ (pc + 1) ls stk σ x) : V G α nL κ pc ls (v :: stk) σ x := by
  obtain ⟨p, l, e, R, s, m, args, below, meth, c, D, cI, cD, A, cs, sl, Qr⟩ := G
  obtain ⟨hx, hb, hml, hown, hts, hK, hinj, hnw, hAk, hAz, hR, hcs⟩ := hO
  intro r hr H locs la hP hS hl
  exact lv_pop hx hb d hv (k r hr H locs la hP hS hl)
theorem V_dup2 {X : Type} {G : Gm} {α : Nat → Nat} {nL : Nat} {κ : X → Option Rs} {pc : Nat} {ls : List (Nat × Value)} {stk : List Value} {σ : Hp} {x : X} {cc : ByteArray} {own : String} {fr lo : Nat} (hO : Ok G α cc nL own fr lo) {v u : Value} (d : decode cc pc = .ok (.dup2, 1)) (hv : v.category = 1) (hu : u.category = 1) (k : V G α nL κ (pc + 1) ls (v :: u :: v :: u :: stk) σ x) : V G α nL κ pc ls (v :: u :: stk) σ x := by
  obtain ⟨p, l, e, R, s, m, args, below, meth, c, D, cI, cD, A, cs, sl, Qr⟩ := G
  obtain ⟨hx, hb, hml, hown, hts, hK, hinj, hnw, hAk, hAz, hR, hcs⟩ := hO
  intro r hr H locs la hP hS hl
  exact lv_dup2_11 hx hb d hv hu (k r hr H locs la hP hS hl)
theorem V_goto {X : Type} {G : Gm} {α : Nat → Nat} {nL : Nat} {κ : X → Option Rs} {pc : Nat} {ls : List (Nat × Value)} {stk : List Value} {σ : Hp} {x : X} {cc : ByteArray} {own : String} {fr lo : Nat} (hO : Ok G α cc nL own fr lo) {off : Int} (tgt : Nat) (d : decode cc pc = .ok (.goto off, 3)) (ht : (pc : Int) + off = (tgt : Int)) (k : V G α nL κ tgt ls stk σ x) : V G α nL κ pc ls stk σ x := by
  obtain ⟨p, l, e, R, s, m, args, below, meth, c, D, cI, cD, A, cs, sl, Qr⟩ := G
  obtain ⟨hx, hb, hml, hown, hts, hK, hinj, hnw, hAk, hAz, hR, hcs⟩ := hO
  intro r hr H locs la hP hS hl
  exact lv_goto hx hb d ht (k r hr H locs la hP hS hl)
theorem V_icmp_eq {X : Type} {G : Gm} {α : Nat → Nat} {nL : Nat} {κ : X → Option Rs} {pc : Nat} {ls : List (Nat × Value)} {stk : List Value} {σ : Hp} {xt xf : X} {cc : ByteArray} {own : String} {fr lo : Nat} (hO : Ok G α cc nL own fr lo) {a b : Int32} {off : Int} (tgt : Nat) {inst : Decidable (a = b)} (d : decode cc pc = .ok (.if_icmp .eq off, 3)) (ht : (pc : Int) + off = (tgt : Int)) (kt : V G α nL κ tgt ls stk σ xt) (kf : V G α nL κ (pc + 3) ls stk σ xf) : V G α nL κ pc ls (.int b :: .int a :: stk) σ (@ite X (a = b) inst xt xf) := by
  obtain ⟨p, l, e, R, s, m, args, below, meth, c, D, cI, cD, A, cs, sl, Qr⟩ := G
  obtain ⟨hx, hb, hml, hown, hts, hK, hinj, hnw, hAk, hAz, hR, hcs⟩ := hO
  intro r hr H locs la hP hS hl
  refine lv_icmp_eq hx hb d ht (fun hc => kt r (by first | rwa [if_pos hc] at hr | rwa [if_neg hc] at hr) H locs la hP hS hl) (fun hc => kf r (by first | rwa [if_pos hc] at hr | rwa [if_neg hc] at hr) H locs la hP hS hl)
theorem V_icmp_ne {X : Type} {G : Gm} {α : Nat → Nat} {nL : Nat} {κ : X → Option Rs} {pc : Nat} {ls : List (Nat × Value)} {stk : List Value} {σ : Hp} {xt xf : X} {cc : ByteArray} {own : String} {fr lo : Nat} (hO : Ok G α cc nL own fr lo) {a b : Int32} {off : Int} (tgt : Nat) {inst : Decidable (a = b)} (d : decode cc pc = .ok (.if_icmp .ne off, 3)) (ht : (pc : Int) + off = (tgt : Int)) (kt : V G α nL κ tgt ls stk σ xt) (kf : V G α nL κ (pc + 3) ls stk σ xf) : V G α nL κ pc ls (.int b :: .int a :: stk) σ (@ite X (a = b) inst xf xt) := by
  obtain ⟨p, l, e, R, s, m, args, below, meth, c, D, cI, cD, A, cs, sl, Qr⟩ := G
  obtain ⟨hx, hb, hml, hown, hts, hK, hinj, hnw, hAk, hAz, hR, hcs⟩ := hO
  intro r hr H locs la hP hS hl
  refine lv_icmp_ne hx hb d ht (fun hc => kt r (by first | rwa [if_pos hc] at hr | rwa [if_neg hc] at hr) H locs la hP hS hl) (fun hc => kf r (by first | rwa [if_pos hc] at hr | rwa [if_neg hc] at hr) H locs la hP hS hl)
theorem V_icmp_lt {X : Type} {G : Gm} {α : Nat → Nat} {nL : Nat} {κ : X → Option Rs} {pc : Nat} {ls : List (Nat × Value)} {stk : List Value} {σ : Hp} {xt xf : X} {cc : ByteArray} {own : String} {fr lo : Nat} (hO : Ok G α cc nL own fr lo) {a b : Int32} {off : Int} (tgt : Nat) {inst : Decidable (a < b)} (d : decode cc pc = .ok (.if_icmp .lt off, 3)) (ht : (pc : Int) + off = (tgt : Int)) (kt : V G α nL κ tgt ls stk σ xt) (kf : V G α nL κ (pc + 3) ls stk σ xf) : V G α nL κ pc ls (.int b :: .int a :: stk) σ (@ite X (a < b) inst xt xf) := by
  obtain ⟨p, l, e, R, s, m, args, below, meth, c, D, cI, cD, A, cs, sl, Qr⟩ := G
  obtain ⟨hx, hb, hml, hown, hts, hK, hinj, hnw, hAk, hAz, hR, hcs⟩ := hO
  intro r hr H locs la hP hS hl
  refine lv_icmp_lt hx hb d ht (fun hc => kt r (by first | rwa [if_pos hc] at hr | rwa [if_neg hc] at hr) H locs la hP hS hl) (fun hc => kf r (by first | rwa [if_pos hc] at hr | rwa [if_neg hc] at hr) H locs la hP hS hl)
theorem V_icmp_ge {X : Type} {G : Gm} {α : Nat → Nat} {nL : Nat} {κ : X → Option Rs} {pc : Nat} {ls : List (Nat × Value)} {stk : List Value} {σ : Hp} {xt xf : X} {cc : ByteArray} {own : String} {fr lo : Nat} (hO : Ok G α cc nL own fr lo) {a b : Int32} {off : Int} (tgt : Nat) {inst : Decidable (b ≤ a)} (d : decode cc pc = .ok (.if_icmp .ge off, 3)) (ht : (pc : Int) + off = (tgt : Int)) (kt : V G α nL κ tgt ls stk σ xt) (kf : V G α nL κ (pc + 3) ls stk σ xf) : V G α nL κ pc ls (.int b :: .int a :: stk) σ (@ite X (b ≤ a) inst xt xf) := by
  obtain ⟨p, l, e, R, s, m, args, below, meth, c, D, cI, cD, A, cs, sl, Qr⟩ := G
  obtain ⟨hx, hb, hml, hown, hts, hK, hinj, hnw, hAk, hAz, hR, hcs⟩ := hO
  intro r hr H locs la hP hS hl
  refine lv_icmp_ge hx hb d ht (fun hc => kt r (by first | rwa [if_pos hc] at hr | rwa [if_neg hc] at hr) H locs la hP hS hl) (fun hc => kf r (by first | rwa [if_pos hc] at hr | rwa [if_neg hc] at hr) H locs la hP hS hl)
theorem V_icmp_gt {X : Type} {G : Gm} {α : Nat → Nat} {nL : Nat} {κ : X → Option Rs} {pc : Nat} {ls : List (Nat × Value)} {stk : List Value} {σ : Hp} {xt xf : X} {cc : ByteArray} {own : String} {fr lo : Nat} (hO : Ok G α cc nL own fr lo) {a b : Int32} {off : Int} (tgt : Nat) {inst : Decidable (b < a)} (d : decode cc pc = .ok (.if_icmp .gt off, 3)) (ht : (pc : Int) + off = (tgt : Int)) (kt : V G α nL κ tgt ls stk σ xt) (kf : V G α nL κ (pc + 3) ls stk σ xf) : V G α nL κ pc ls (.int b :: .int a :: stk) σ (@ite X (b < a) inst xt xf) := by
  obtain ⟨p, l, e, R, s, m, args, below, meth, c, D, cI, cD, A, cs, sl, Qr⟩ := G
  obtain ⟨hx, hb, hml, hown, hts, hK, hinj, hnw, hAk, hAz, hR, hcs⟩ := hO
  intro r hr H locs la hP hS hl
  refine lv_icmp_gt hx hb d ht (fun hc => kt r (by first | rwa [if_pos hc] at hr | rwa [if_neg hc] at hr) H locs la hP hS hl) (fun hc => kf r (by first | rwa [if_pos hc] at hr | rwa [if_neg hc] at hr) H locs la hP hS hl)
theorem V_icmp_le {X : Type} {G : Gm} {α : Nat → Nat} {nL : Nat} {κ : X → Option Rs} {pc : Nat} {ls : List (Nat × Value)} {stk : List Value} {σ : Hp} {xt xf : X} {cc : ByteArray} {own : String} {fr lo : Nat} (hO : Ok G α cc nL own fr lo) {a b : Int32} {off : Int} (tgt : Nat) {inst : Decidable (a ≤ b)} (d : decode cc pc = .ok (.if_icmp .le off, 3)) (ht : (pc : Int) + off = (tgt : Int)) (kt : V G α nL κ tgt ls stk σ xt) (kf : V G α nL κ (pc + 3) ls stk σ xf) : V G α nL κ pc ls (.int b :: .int a :: stk) σ (@ite X (a ≤ b) inst xt xf) := by
  obtain ⟨p, l, e, R, s, m, args, below, meth, c, D, cI, cD, A, cs, sl, Qr⟩ := G
  obtain ⟨hx, hb, hml, hown, hts, hK, hinj, hnw, hAk, hAz, hR, hcs⟩ := hO
  intro r hr H locs la hP hS hl
  refine lv_icmp_le hx hb d ht (fun hc => kt r (by first | rwa [if_pos hc] at hr | rwa [if_neg hc] at hr) H locs la hP hS hl) (fun hc => kf r (by first | rwa [if_pos hc] at hr | rwa [if_neg hc] at hr) H locs la hP hS hl)
theorem V_if_eq {X : Type} {G : Gm} {α : Nat → Nat} {nL : Nat} {κ : X → Option Rs} {pc : Nat} {ls : List (Nat × Value)} {stk : List Value} {σ : Hp} {xt xf : X} {cc : ByteArray} {own : String} {fr lo : Nat} (hO : Ok G α cc nL own fr lo) {a : Int32} {off : Int} (tgt : Nat) {inst : Decidable (a = 0)} (d : decode cc pc = .ok (.ifCond .eq off, 3)) (ht : (pc : Int) + off = (tgt : Int)) (kt : V G α nL κ tgt ls stk σ xt) (kf : V G α nL κ (pc + 3) ls stk σ xf) : V G α nL κ pc ls (.int a :: stk) σ (@ite X (a = 0) inst xt xf) := by
  obtain ⟨p, l, e, R, s, m, args, below, meth, c, D, cI, cD, A, cs, sl, Qr⟩ := G
  obtain ⟨hx, hb, hml, hown, hts, hK, hinj, hnw, hAk, hAz, hR, hcs⟩ := hO
  intro r hr H locs la hP hS hl
  refine lv_if_eq hx hb d ht (fun hc => kt r (by first | rwa [if_pos hc] at hr | rwa [if_neg hc] at hr) H locs la hP hS hl) (fun hc => kf r (by first | rwa [if_pos hc] at hr | rwa [if_neg hc] at hr) H locs la hP hS hl)
theorem V_if_ne {X : Type} {G : Gm} {α : Nat → Nat} {nL : Nat} {κ : X → Option Rs} {pc : Nat} {ls : List (Nat × Value)} {stk : List Value} {σ : Hp} {xt xf : X} {cc : ByteArray} {own : String} {fr lo : Nat} (hO : Ok G α cc nL own fr lo) {a : Int32} {off : Int} (tgt : Nat) {inst : Decidable (a = 0)} (d : decode cc pc = .ok (.ifCond .ne off, 3)) (ht : (pc : Int) + off = (tgt : Int)) (kt : V G α nL κ tgt ls stk σ xt) (kf : V G α nL κ (pc + 3) ls stk σ xf) : V G α nL κ pc ls (.int a :: stk) σ (@ite X (a = 0) inst xf xt) := by
  obtain ⟨p, l, e, R, s, m, args, below, meth, c, D, cI, cD, A, cs, sl, Qr⟩ := G
  obtain ⟨hx, hb, hml, hown, hts, hK, hinj, hnw, hAk, hAz, hR, hcs⟩ := hO
  intro r hr H locs la hP hS hl
  refine lv_if_ne hx hb d ht (fun hc => kt r (by first | rwa [if_pos hc] at hr | rwa [if_neg hc] at hr) H locs la hP hS hl) (fun hc => kf r (by first | rwa [if_pos hc] at hr | rwa [if_neg hc] at hr) H locs la hP hS hl)
theorem V_if_lt {X : Type} {G : Gm} {α : Nat → Nat} {nL : Nat} {κ : X → Option Rs} {pc : Nat} {ls : List (Nat × Value)} {stk : List Value} {σ : Hp} {xt xf : X} {cc : ByteArray} {own : String} {fr lo : Nat} (hO : Ok G α cc nL own fr lo) {a : Int32} {off : Int} (tgt : Nat) {inst : Decidable (a < 0)} (d : decode cc pc = .ok (.ifCond .lt off, 3)) (ht : (pc : Int) + off = (tgt : Int)) (kt : V G α nL κ tgt ls stk σ xt) (kf : V G α nL κ (pc + 3) ls stk σ xf) : V G α nL κ pc ls (.int a :: stk) σ (@ite X (a < 0) inst xt xf) := by
  obtain ⟨p, l, e, R, s, m, args, below, meth, c, D, cI, cD, A, cs, sl, Qr⟩ := G
  obtain ⟨hx, hb, hml, hown, hts, hK, hinj, hnw, hAk, hAz, hR, hcs⟩ := hO
  intro r hr H locs la hP hS hl
  refine lv_if_lt hx hb d ht (fun hc => kt r (by first | rwa [if_pos hc] at hr | rwa [if_neg hc] at hr) H locs la hP hS hl) (fun hc => kf r (by first | rwa [if_pos hc] at hr | rwa [if_neg hc] at hr) H locs la hP hS hl)
theorem V_if_ge {X : Type} {G : Gm} {α : Nat → Nat} {nL : Nat} {κ : X → Option Rs} {pc : Nat} {ls : List (Nat × Value)} {stk : List Value} {σ : Hp} {xt xf : X} {cc : ByteArray} {own : String} {fr lo : Nat} (hO : Ok G α cc nL own fr lo) {a : Int32} {off : Int} (tgt : Nat) {inst : Decidable (0 ≤ a)} (d : decode cc pc = .ok (.ifCond .ge off, 3)) (ht : (pc : Int) + off = (tgt : Int)) (kt : V G α nL κ tgt ls stk σ xt) (kf : V G α nL κ (pc + 3) ls stk σ xf) : V G α nL κ pc ls (.int a :: stk) σ (@ite X (0 ≤ a) inst xt xf) := by
  obtain ⟨p, l, e, R, s, m, args, below, meth, c, D, cI, cD, A, cs, sl, Qr⟩ := G
  obtain ⟨hx, hb, hml, hown, hts, hK, hinj, hnw, hAk, hAz, hR, hcs⟩ := hO
  intro r hr H locs la hP hS hl
  refine lv_if_ge hx hb d ht (fun hc => kt r (by first | rwa [if_pos hc] at hr | rwa [if_neg hc] at hr) H locs la hP hS hl) (fun hc => kf r (by first | rwa [if_pos hc] at hr | rwa [if_neg hc] at hr) H locs la hP hS hl)
theorem V_if_gt {X : Type} {G : Gm} {α : Nat → Nat} {nL : Nat} {κ : X → Option Rs} {pc : Nat} {ls : List (Nat × Value)} {stk : List Value} {σ : Hp} {xt xf : X} {cc : ByteArray} {own : String} {fr lo : Nat} (hO : Ok G α cc nL own fr lo) {a : Int32} {off : Int} (tgt : Nat) {inst : Decidable (0 < a)} (d : decode cc pc = .ok (.ifCond .gt off, 3)) (ht : (pc : Int) + off = (tgt : Int)) (kt : V G α nL κ tgt ls stk σ xt) (kf : V G α nL κ (pc + 3) ls stk σ xf) : V G α nL κ pc ls (.int a :: stk) σ (@ite X (0 < a) inst xt xf) := by
  obtain ⟨p, l, e, R, s, m, args, below, meth, c, D, cI, cD, A, cs, sl, Qr⟩ := G
  obtain ⟨hx, hb, hml, hown, hts, hK, hinj, hnw, hAk, hAz, hR, hcs⟩ := hO
  intro r hr H locs la hP hS hl
  refine lv_if_gt hx hb d ht (fun hc => kt r (by first | rwa [if_pos hc] at hr | rwa [if_neg hc] at hr) H locs la hP hS hl) (fun hc => kf r (by first | rwa [if_pos hc] at hr | rwa [if_neg hc] at hr) H locs la hP hS hl)
theorem V_if_le {X : Type} {G : Gm} {α : Nat → Nat} {nL : Nat} {κ : X → Option Rs} {pc : Nat} {ls : List (Nat × Value)} {stk : List Value} {σ : Hp} {xt xf : X} {cc : ByteArray} {own : String} {fr lo : Nat} (hO : Ok G α cc nL own fr lo) {a : Int32} {off : Int} (tgt : Nat) {inst : Decidable (a ≤ 0)} (d : decode cc pc = .ok (.ifCond .le off, 3)) (ht : (pc : Int) + off = (tgt : Int)) (kt : V G α nL κ tgt ls stk σ xt) (kf : V G α nL κ (pc + 3) ls stk σ xf) : V G α nL κ pc ls (.int a :: stk) σ (@ite X (a ≤ 0) inst xt xf) := by
  obtain ⟨p, l, e, R, s, m, args, below, meth, c, D, cI, cD, A, cs, sl, Qr⟩ := G
  obtain ⟨hx, hb, hml, hown, hts, hK, hinj, hnw, hAk, hAz, hR, hcs⟩ := hO
  intro r hr H locs la hP hS hl
  refine lv_if_le hx hb d ht (fun hc => kt r (by first | rwa [if_pos hc] at hr | rwa [if_neg hc] at hr) H locs la hP hS hl) (fun hc => kf r (by first | rwa [if_pos hc] at hr | rwa [if_neg hc] at hr) H locs la hP hS hl)
theorem b2i_0 {b : Bool} : b2i b = 0 ↔ b = false := by cases b <;> decide
theorem V_ifeqZ {X : Type} {G : Gm} {α : Nat → Nat} {nL : Nat} {κ : X → Option Rs} {pc : Nat} {ls : List (Nat × Value)} {stk : List Value} {σ : Hp} {xt xf : X} {cc : ByteArray} {own : String} {fr lo : Nat} (hO : Ok G α cc nL own fr lo) {b : Bool} {off : Int} (tgt : Nat) {inst : Decidable (b = true)} (d : decode cc pc = .ok (.ifCond .eq off, 3)) (ht : (pc : Int) + off = (tgt : Int)) (kt : V G α nL κ tgt ls stk σ xt) (kf : V G α nL κ (pc + 3) ls stk σ xf) : V G α nL κ pc ls (.int (b2i b) :: stk) σ (@ite X (b = true) inst xf xt) := by
  obtain ⟨p, l, e, R, s, m, args, below, meth, c, D, cI, cD, A, cs, sl, Qr⟩ := G
  obtain ⟨hx, hb, hml, hown, hts, hK, hinj, hnw, hAk, hAz, hR, hcs⟩ := hO
  intro r hr H locs la hP hS hl
  refine lv_if_eq hx hb d ht (fun hc => kt r ?_ H locs la hP hS hl) (fun hc => kf r ?_ H locs la hP hS hl)
  · have h1 := b2i_0.mp hc
    rw [if_neg (by rw [h1]; decide)] at hr
    exact hr
  · have h1 : b = true := by
      cases b
      · exact absurd rfl hc
      · rfl
    rw [if_pos h1] at hr
    exact hr
theorem V_ifneZ {X : Type} {G : Gm} {α : Nat → Nat} {nL : Nat} {κ : X → Option Rs} {pc : Nat} {ls : List (Nat × Value)} {stk : List Value} {σ : Hp} {xt xf : X} {cc : ByteArray} {own : String} {fr lo : Nat} (hO : Ok G α cc nL own fr lo) {b : Bool} {off : Int} (tgt : Nat) {inst : Decidable (b = true)} (d : decode cc pc = .ok (.ifCond .ne off, 3)) (ht : (pc : Int) + off = (tgt : Int)) (kt : V G α nL κ tgt ls stk σ xt) (kf : V G α nL κ (pc + 3) ls stk σ xf) : V G α nL κ pc ls (.int (b2i b) :: stk) σ (@ite X (b = true) inst xt xf) := by
  obtain ⟨p, l, e, R, s, m, args, below, meth, c, D, cI, cD, A, cs, sl, Qr⟩ := G
  obtain ⟨hx, hb, hml, hown, hts, hK, hinj, hnw, hAk, hAz, hR, hcs⟩ := hO
  intro r hr H locs la hP hS hl
  refine lv_if_ne hx hb d ht (fun hc => kt r ?_ H locs la hP hS hl) (fun hc => kf r ?_ H locs la hP hS hl)
  · have h1 : b = true := by
      cases b
      · exact absurd rfl hc
      · rfl
    rw [if_pos h1] at hr
    exact hr
  · have h1 := b2i_0.mp hc
    rw [if_neg (by rw [h1]; decide)] at hr
    exact hr
theorem V_lcmp_lt {X : Type} {G : Gm} {α : Nat → Nat} {nL : Nat} {κ : X → Option Rs} {pc : Nat} {ls : List (Nat × Value)} {stk : List Value} {σ : Hp} {xt xf : X} {cc : ByteArray} {own : String} {fr lo : Nat} (hO : Ok G α cc nL own fr lo) {a b : Int64} {off : Int} (tgt : Nat) {inst : Decidable (a < b)} (d0 : decode cc pc = .ok (.lcmp, 1)) (d : decode cc (pc + 1) = .ok (.ifCond .lt off, 3)) (ht : ((pc + 1 : Nat) : Int) + off = (tgt : Int)) (kt : V G α nL κ tgt ls stk σ xt) (kf : V G α nL κ (pc + 1 + 3) ls stk σ xf) : V G α nL κ pc ls (.long b :: .long a :: stk) σ (@ite X (a < b) inst xt xf) := by
  obtain ⟨p, l, e, R, s, m, args, below, meth, c, D, cI, cD, A, cs, sl, Qr⟩ := G
  obtain ⟨hx, hb, hml, hown, hts, hK, hinj, hnw, hAk, hAz, hR, hcs⟩ := hO
  intro r hr H locs la hP hS hl
  refine W.lcmp hx hb d0 (lv_if_lt hx hb d ht (fun hc => kt r (by rwa [if_pos ((lg_cmp_lt _ _).mp hc)] at hr) H locs la hP hS hl) (fun hc => kf r (by rwa [if_neg (fun z => hc ((lg_cmp_lt _ _).mpr z))] at hr) H locs la hP hS hl))
theorem V_lcmp_ge {X : Type} {G : Gm} {α : Nat → Nat} {nL : Nat} {κ : X → Option Rs} {pc : Nat} {ls : List (Nat × Value)} {stk : List Value} {σ : Hp} {xt xf : X} {cc : ByteArray} {own : String} {fr lo : Nat} (hO : Ok G α cc nL own fr lo) {a b : Int64} {off : Int} (tgt : Nat) {inst : Decidable (b ≤ a)} (d0 : decode cc pc = .ok (.lcmp, 1)) (d : decode cc (pc + 1) = .ok (.ifCond .ge off, 3)) (ht : ((pc + 1 : Nat) : Int) + off = (tgt : Int)) (kt : V G α nL κ tgt ls stk σ xt) (kf : V G α nL κ (pc + 1 + 3) ls stk σ xf) : V G α nL κ pc ls (.long b :: .long a :: stk) σ (@ite X (b ≤ a) inst xt xf) := by
  obtain ⟨p, l, e, R, s, m, args, below, meth, c, D, cI, cD, A, cs, sl, Qr⟩ := G
  obtain ⟨hx, hb, hml, hown, hts, hK, hinj, hnw, hAk, hAz, hR, hcs⟩ := hO
  intro r hr H locs la hP hS hl
  refine W.lcmp hx hb d0 (lv_if_ge hx hb d ht (fun hc => kt r (by rwa [if_pos ((lg_cmp_ge _ _).mp hc)] at hr) H locs la hP hS hl) (fun hc => kf r (by rwa [if_neg (fun z => hc ((lg_cmp_ge _ _).mpr z))] at hr) H locs la hP hS hl))
theorem V_lcmp_gt {X : Type} {G : Gm} {α : Nat → Nat} {nL : Nat} {κ : X → Option Rs} {pc : Nat} {ls : List (Nat × Value)} {stk : List Value} {σ : Hp} {xt xf : X} {cc : ByteArray} {own : String} {fr lo : Nat} (hO : Ok G α cc nL own fr lo) {a b : Int64} {off : Int} (tgt : Nat) {inst : Decidable (b < a)} (d0 : decode cc pc = .ok (.lcmp, 1)) (d : decode cc (pc + 1) = .ok (.ifCond .gt off, 3)) (ht : ((pc + 1 : Nat) : Int) + off = (tgt : Int)) (kt : V G α nL κ tgt ls stk σ xt) (kf : V G α nL κ (pc + 1 + 3) ls stk σ xf) : V G α nL κ pc ls (.long b :: .long a :: stk) σ (@ite X (b < a) inst xt xf) := by
  obtain ⟨p, l, e, R, s, m, args, below, meth, c, D, cI, cD, A, cs, sl, Qr⟩ := G
  obtain ⟨hx, hb, hml, hown, hts, hK, hinj, hnw, hAk, hAz, hR, hcs⟩ := hO
  intro r hr H locs la hP hS hl
  refine W.lcmp hx hb d0 (lv_if_gt hx hb d ht (fun hc => kt r (by rwa [if_pos ((lg_cmp_gt _ _).mp hc)] at hr) H locs la hP hS hl) (fun hc => kf r (by rwa [if_neg (fun z => hc ((lg_cmp_gt _ _).mpr z))] at hr) H locs la hP hS hl))
theorem V_lcmp_le {X : Type} {G : Gm} {α : Nat → Nat} {nL : Nat} {κ : X → Option Rs} {pc : Nat} {ls : List (Nat × Value)} {stk : List Value} {σ : Hp} {xt xf : X} {cc : ByteArray} {own : String} {fr lo : Nat} (hO : Ok G α cc nL own fr lo) {a b : Int64} {off : Int} (tgt : Nat) {inst : Decidable (a ≤ b)} (d0 : decode cc pc = .ok (.lcmp, 1)) (d : decode cc (pc + 1) = .ok (.ifCond .le off, 3)) (ht : ((pc + 1 : Nat) : Int) + off = (tgt : Int)) (kt : V G α nL κ tgt ls stk σ xt) (kf : V G α nL κ (pc + 1 + 3) ls stk σ xf) : V G α nL κ pc ls (.long b :: .long a :: stk) σ (@ite X (a ≤ b) inst xt xf) := by
  obtain ⟨p, l, e, R, s, m, args, below, meth, c, D, cI, cD, A, cs, sl, Qr⟩ := G
  obtain ⟨hx, hb, hml, hown, hts, hK, hinj, hnw, hAk, hAz, hR, hcs⟩ := hO
  intro r hr H locs la hP hS hl
  refine W.lcmp hx hb d0 (lv_if_le hx hb d ht (fun hc => kt r (by rwa [if_pos ((lg_cmp_le _ _).mp hc)] at hr) H locs la hP hS hl) (fun hc => kf r (by rwa [if_neg (fun z => hc ((lg_cmp_le _ _).mpr z))] at hr) H locs la hP hS hl))
theorem V_lcmp_eq {X : Type} {G : Gm} {α : Nat → Nat} {nL : Nat} {κ : X → Option Rs} {pc : Nat} {ls : List (Nat × Value)} {stk : List Value} {σ : Hp} {xt xf : X} {cc : ByteArray} {own : String} {fr lo : Nat} (hO : Ok G α cc nL own fr lo) {a b : Int64} {off : Int} (tgt : Nat) {inst : Decidable (a = b)} (d0 : decode cc pc = .ok (.lcmp, 1)) (d : decode cc (pc + 1) = .ok (.ifCond .eq off, 3)) (ht : ((pc + 1 : Nat) : Int) + off = (tgt : Int)) (kt : V G α nL κ tgt ls stk σ xt) (kf : V G α nL κ (pc + 1 + 3) ls stk σ xf) : V G α nL κ pc ls (.long b :: .long a :: stk) σ (@ite X (a = b) inst xt xf) := by
  obtain ⟨p, l, e, R, s, m, args, below, meth, c, D, cI, cD, A, cs, sl, Qr⟩ := G
  obtain ⟨hx, hb, hml, hown, hts, hK, hinj, hnw, hAk, hAz, hR, hcs⟩ := hO
  intro r hr H locs la hP hS hl
  refine W.lcmp hx hb d0 (lv_if_eq hx hb d ht (fun hc => kt r (by rwa [if_pos ((lg_cmp_eq _ _).mp hc)] at hr) H locs la hP hS hl) (fun hc => kf r (by rwa [if_neg (fun z => hc ((lg_cmp_eq _ _).mpr z))] at hr) H locs la hP hS hl))
theorem V_lcmp_ne {X : Type} {G : Gm} {α : Nat → Nat} {nL : Nat} {κ : X → Option Rs} {pc : Nat} {ls : List (Nat × Value)} {stk : List Value} {σ : Hp} {xt xf : X} {cc : ByteArray} {own : String} {fr lo : Nat} (hO : Ok G α cc nL own fr lo) {a b : Int64} {off : Int} (tgt : Nat) {inst : Decidable (a = b)} (d0 : decode cc pc = .ok (.lcmp, 1)) (d : decode cc (pc + 1) = .ok (.ifCond .ne off, 3)) (ht : ((pc + 1 : Nat) : Int) + off = (tgt : Int)) (kt : V G α nL κ tgt ls stk σ xt) (kf : V G α nL κ (pc + 1 + 3) ls stk σ xf) : V G α nL κ pc ls (.long b :: .long a :: stk) σ (@ite X (a = b) inst xf xt) := by
  obtain ⟨p, l, e, R, s, m, args, below, meth, c, D, cI, cD, A, cs, sl, Qr⟩ := G
  obtain ⟨hx, hb, hml, hown, hts, hK, hinj, hnw, hAk, hAz, hR, hcs⟩ := hO
  intro r hr H locs la hP hS hl
  refine W.lcmp hx hb d0 (lv_if_ne hx hb d ht (fun hc => kt r (by rwa [if_neg (fun z => hc ((lg_cmp_eq _ _).mpr z))] at hr) H locs la hP hS hl) (fun hc => kf r (by rwa [if_pos ((lg_cmp_eq _ _).mp hc)] at hr) H locs la hP hS hl))
theorem V_tsIn {X : Type} {G : Gm} {α : Nat → Nat} {nL : Nat} {κ : X → Option Rs} {pc : Nat} {ls : List (Nat × Value)} {stk : List Value} {σ : Hp} {x : X} {cc : ByteArray} {own : String} {fr lo : Nat} (hO : Ok G α cc nL own fr lo) {dflt lo9 hi9 : Int} {offs : Array Int} {len : Nat} {a : Int32} {off : Int} (tgt : Nat) (d : decode cc pc = .ok (.tableswitch dflt lo9 hi9 offs, len)) (h1 : ¬ a.toInt < lo9) (h2 : ¬ hi9 < a.toInt) (ho : offs[(a.toInt - lo9).toNat]? = some off) (ht : (pc : Int) + off = (tgt : Int)) (k : V G α nL κ tgt ls stk σ x) : V G α nL κ pc ls (.int a :: stk) σ x := by
  obtain ⟨p, l, e, R, s, m, args, below, meth, c, D, cI, cD, A, cs, sl, Qr⟩ := G
  obtain ⟨hx, hb, hml, hown, hts, hK, hinj, hnw, hAk, hAz, hR, hcs⟩ := hO
  intro r hr H locs la hP hS hl
  exact lv_tableIn hx hb d h1 h2 ho ht (k r hr H locs la hP hS hl)
theorem V_tsOut {X : Type} {G : Gm} {α : Nat → Nat} {nL : Nat} {κ : X → Option Rs} {pc : Nat} {ls : List (Nat × Value)} {stk : List Value} {σ : Hp} {x : X} {cc : ByteArray} {own : String} {fr lo : Nat} (hO : Ok G α cc nL own fr lo) {dflt lo9 hi9 : Int} {offs : Array Int} {len : Nat} {a : Int32} (tgt : Nat) (d : decode cc pc = .ok (.tableswitch dflt lo9 hi9 offs, len)) (h : a.toInt < lo9 ∨ hi9 < a.toInt) (ht : (pc : Int) + dflt = (tgt : Int)) (k : V G α nL κ tgt ls stk σ x) : V G α nL κ pc ls (.int a :: stk) σ x := by
  obtain ⟨p, l, e, R, s, m, args, below, meth, c, D, cI, cD, A, cs, sl, Qr⟩ := G
  obtain ⟨hx, hb, hml, hown, hts, hK, hinj, hnw, hAk, hAz, hR, hcs⟩ := hO
  intro r hr H locs la hP hS hl
  exact lv_tableOut hx hb d h ht (k r hr H locs la hP hS hl)
theorem V_lsw {X : Type} {G : Gm} {α : Nat → Nat} {nL : Nat} {κ : X → Option Rs} {pc : Nat} {ls : List (Nat × Value)} {stk : List Value} {σ : Hp} {x : X} {cc : ByteArray} {own : String} {fr lo : Nat} (hO : Ok G α cc nL own fr lo) {dflt : Int} {ps : Array (Int × Int)} {len : Nat} {a : Int32} {off : Int} (tgt : Nat) (d : decode cc pc = .ok (.lookupswitch dflt ps, len)) (hp : (ps.toList.zip (ps.toList.drop 1)).all (fun (a, next) => a.1 < next.1) = true) (ho : Op.lookupswitch.offset ps.toList dflt a.toInt = off) (ht : (pc : Int) + off = (tgt : Int)) (k : V G α nL κ tgt ls stk σ x) : V G α nL κ pc ls (.int a :: stk) σ x := by
  obtain ⟨p, l, e, R, s, m, args, below, meth, c, D, cI, cD, A, cs, sl, Qr⟩ := G
  obtain ⟨hx, hb, hml, hown, hts, hK, hinj, hnw, hAk, hAz, hR, hcs⟩ := hO
  intro r hr H locs la hP hS hl
  exact lv_lookup hx hb d hp ho ht (k r hr H locs la hP hS hl)
theorem V_case {X : Type} {G : Gm} {α : Nat → Nat} {nL : Nat} {κ : X → Option Rs} {pc : Nat} {ls : List (Nat × Value)} {stk : List Value} {σ : Hp} {xt xf : X} {c : Prop} {inst : Decidable c} (kt : c → V G α nL κ pc ls stk σ xt) (kf : ¬ c → V G α nL κ pc ls stk σ xf) : V G α nL κ pc ls stk σ (@ite X c inst xt xf) := by
  by_cases h : c
  · rw [if_pos h]; exact kt h
  · rw [if_neg h]; exact kf h
theorem ts_out {a : Int32} (n : Nat) (h : ∀ j, j < n → ¬ a = Int32.ofNat j) (hn : n < 2 ^ 31) : a.toInt < 0 ∨ ((n : Int) - 1) < a.toInt := by
  rcases Int.lt_or_le a.toInt 0 with h0 | h0
  · exact Or.inl h0
  · right
    rcases Int.lt_or_le (↑n - 1) a.toInt with h1 | h1
    · exact h1
    · exfalso
      have hj : a.toInt.toNat < n := by omega
      apply h _ hj
      apply Int32.toInt_inj.mp
      rw [show Int32.ofNat a.toInt.toNat = nI a.toInt.toNat from rfl, nI_toInt (by omega)]
      omega
theorem V_sub {X : Type} {G : Gm} {α : Nat → Nat} {nL : Nat} {κ : X → Option Rs} {pc : Nat} {ls ls2 : List (Nat × Value)} {stk : List Value} {σ : Hp} {x : X} (ks : List Nat) (h : lv_pick ls ks = ls2) (k : V G α nL κ pc ls2 stk σ x) : V G α nL κ pc ls stk σ x := by
  obtain ⟨p, l, e, R, s, m, args, below, meth, c, D, cI, cD, A, cs, sl, Qr⟩ := G
  intro r hr H locs la hP hS hl
  exact k r hr H locs la hP hS (lv_sub hl ks h)
theorem V_none {X : Type} {G : Gm} {α : Nat → Nat} {nL : Nat} {κ : X → Option Rs} {pc : Nat} {ls : List (Nat × Value)} {stk : List Value} {σ : Hp} {x : X} (h : κ x = none) : V G α nL κ pc ls stk σ x := by
  obtain ⟨p, l, e, R, s, m, args, below, meth, c, D, cI, cD, A, cs, sl, Qr⟩ := G
  intro r hr
  rw [h] at hr
  cases hr
theorem V_chk {X : Type} {G : Gm} {α : Nat → Nat} {nL : Nat} {κ : X → Option Rs} {pc : Nat} {ls : List (Nat × Value)} {stk : List Value} {σ : Hp} {xt xf : X} {c : Prop} {inst : Decidable c} (hz : κ xf = none) (kt : c → V G α nL κ pc ls stk σ xt) : V G α nL κ pc ls stk σ (@ite X c inst xt xf) := V_case kt (fun _ => V_none hz)
def FL (own : String) (idx ci j : Nat) : Prop := ∃ (C : String) (T : u_T) (N : Nat), clz[ci]? = some (C, T, N) ∧ j < N ∧ (∀ w ∈ u_ws C T N, w ∈ gw) ∧ Cond.fieldLink own idx (T j).1 (T j).2.1 (T j).2.2.1 ∈ gw
def FP (own : String) (idx ci j : Nat) (ty : FieldType) : Prop := ∃ (C : String) (T : u_T) (N : Nat) (ty0 : Nat → FieldType), clz[ci]? = some (C, T, N) ∧ j < N ∧ (∀ w ∈ u_ws C T N, w ∈ gw) ∧ Cond.fieldLink own idx (T j).1 (T j).2.1 (T j).2.2.1 ∈ gw ∧ (∀ k, k < N → parseFieldDescriptor (T k).2.2.1 = some (ty0 k)) ∧ (∀ a, a < N → ∀ b, b < N → a ≠ b → (T a).2.1 ≠ (T b).2.1) ∧ (T j).2.2.2 = false ∧ parseFieldDescriptor (T j).2.2.1 = some ty
theorem V_get {X : Type} {G : Gm} {α : Nat → Nat} {nL : Nat} {κ : X → Option Rs} {pc : Nat} {ls : List (Nat × Value)} {stk : List Value} {σ : Hp} {x : X} {cc : ByteArray} {own : String} {fr lo : Nat} (hO : Ok G α cc nL own fr lo) {idx ci j kc : Nat} {fs : List Value} {v : Value} (hF : FL own idx ci j) (hk : kc < 73) (he : ∀ cI cD, cellE cI cD α σ kc = .inr (ci, fs)) (hv : fs[j]? = some v) (d : decode cc pc = .ok (.getfield idx, 3)) (k : V G α nL κ (pc + 3) ls (v :: stk) σ x) : V G α nL κ pc ls (.ref (α kc) :: stk) σ x := by
  obtain ⟨p, l, e, R, s, m, args, below, meth, c, D, cI, cD, A, cs, sl, Qr⟩ := G
  obtain ⟨hx, hb, hml, hown, hts, hK, hinj, hnw, hAk, hAz, hR, hcs⟩ := hO
  obtain ⟨C, T, N, h1, h2, h3, h4⟩ := hF
  intro r hr H locs la hP hS hl
  exact va_get (D := D) hx hb hts h3 hown hK hP kc (by rw [cells_at hk, he]) h1 j h2 (hts _ h4) (fun _ h => h) hv d (k r hr H locs la hP hS hl)
theorem V_put {X : Type} {G : Gm} {α : Nat → Nat} {nL : Nat} {κ : X → Option Rs} {pc : Nat} {ls : List (Nat × Value)} {stk : List Value} {σ : Hp} {x : X} {cc : ByteArray} {own : String} {fr lo : Nat} (hO : Ok G α cc nL own fr lo) {idx ci j kc : Nat} {fs : List Value} {v : Value} {ty : FieldType} {τ : Hp} (hF : FP own idx ci j ty) (hk : kc < 73) (he : ∀ cI cD, cellE cI cD α σ kc = .inr (ci, fs)) (hl9 : j < fs.length) (hn : narrow ty v = v) (hf : fits ty v = true) (h1 : ∀ cI cD, cellE cI cD α τ kc = .inr (ci, fs.set j v)) (h2 : ∀ cI cD i, i ≠ kc → cellE cI cD α τ i = cellE cI cD α σ i) (d : decode cc pc = .ok (.putfield idx, 3)) (k : V G α nL κ (pc + 3) ls stk τ x) : V G α nL κ pc ls (v :: .ref (α kc) :: stk) σ x := by
  obtain ⟨p, l, e, R, s, m, args, below, meth, c, D, cI, cD, A, cs, sl, Qr⟩ := G
  obtain ⟨hx, hb, hml, hown, hts, hK, hinj, hnw, hAk, hAz, hR, hcs⟩ := hO
  obtain ⟨C, T, N, ty0, a1, a2, a3, a4, a5, a6, a7, a8⟩ := hF
  intro r hr H locs la hP hS hl
  refine va_put (D := D) hx hb hts a3 ty0 a5 a6 hown hK hP (cells_D hinj hAk) hS kc (by rw [cells_at hk, he]) a1 j a2 (hts _ a4) (fun _ h => h) a7 a8 hn hf hl9 d (fun H1 locs1 hP1 _ hS1 => ?_)
  rw [cells_set hk (h1 cI cD) (h2 cI cD)] at hP1
  exact k r hr H1 locs1 la hP1 hS1 hl
theorem V_puti {X : Type} {G : Gm} {α : Nat → Nat} {nL : Nat} {κ : X → Option Rs} {pc : Nat} {ls : List (Nat × Value)} {stk : List Value} {σ : Hp} {x : X} {cc : ByteArray} {own : String} {fr lo : Nat} (hO : Ok G α cc nL own fr lo) {idx ci j kc : Nat} {fs : List Value} {v : Int32} (hF : FP own idx ci j .int) (hk : kc < 73) (he : ∀ cI cD, cellE cI cD α σ kc = .inr (ci, fs)) (hl9 : j < fs.length) (h1 : ∀ cI cD, cellE cI cD α (up σ kc j v) kc = .inr (ci, fs.set j (.int v))) (d : decode cc pc = .ok (.putfield idx, 3)) (k : V G α nL κ (pc + 3) ls stk (up σ kc j v) x) : V G α nL κ pc ls (.int v :: .ref (α kc) :: stk) σ x :=
  V_put hO hF hk he hl9 (by rfl) (by rfl) h1 (fun _ _ i hi => cellE_up hi) d k
theorem V_putz {X : Type} {G : Gm} {α : Nat → Nat} {nL : Nat} {κ : X → Option Rs} {pc : Nat} {ls : List (Nat × Value)} {stk : List Value} {σ : Hp} {x : X} {cc : ByteArray} {own : String} {fr lo : Nat} (hO : Ok G α cc nL own fr lo) {idx ci j kc : Nat} {fs : List Value} {v : Int32} (hF : FP own idx ci j .boolean) (hk : kc < 73) (he : ∀ cI cD, cellE cI cD α σ kc = .inr (ci, fs)) (hl9 : j < fs.length) (hv : v = 0 ∨ v = 1) (h1 : ∀ cI cD, cellE cI cD α (up σ kc j v) kc = .inr (ci, fs.set j (.int v))) (d : decode cc pc = .ok (.putfield idx, 3)) (k : V G α nL κ (pc + 3) ls stk (up σ kc j v) x) : V G α nL κ pc ls (.int v :: .ref (α kc) :: stk) σ x :=
  V_put hO hF hk he hl9 (by rcases hv with rfl | rfl <;> rfl) (by rcases hv with rfl | rfl <;> rfl) h1 (fun _ _ i hi => cellE_up hi) d k
theorem b2i_01 (b : Bool) : b2i b = 0 ∨ b2i b = 1 := by cases b <;> decide
theorem isB_01 {x : Int32} (h : isB x = true) : x = 0 ∨ x = 1 := of_decide_eq_true h
theorem V_putl {X : Type} {G : Gm} {α : Nat → Nat} {nL : Nat} {κ : X → Option Rs} {pc : Nat} {ls : List (Nat × Value)} {stk : List Value} {σ : Hp} {x : X} {cc : ByteArray} {own : String} {fr lo : Nat} (hO : Ok G α cc nL own fr lo) {idx ci j : Nat} {fs : List Value} {v : Int64} (hF : FP own idx ci j .long) (he : ∀ cI cD, cellE cI cD α σ 55 = .inr (ci, fs)) (hl9 : j < fs.length) (h1 : ∀ cI cD, cellE cI cD α (upl σ v) 55 = .inr (ci, fs.set j (.long v))) (d : decode cc pc = .ok (.putfield idx, 3)) (k : V G α nL κ (pc + 3) ls stk (upl σ v) x) : V G α nL κ pc ls (.long v :: .ref (α 55) :: stk) σ x :=
  V_put hO hF (by decide) he hl9 (by rfl) (by rfl) h1 (fun _ _ i hi => cellE_upl hi) d k
theorem V_iald {X : Type} {G : Gm} {α : Nat → Nat} {nL : Nat} {κ : X → Option Rs} {pc : Nat} {ls : List (Nat × Value)} {stk : List Value} {σ : Hp} {x : X} {cc : ByteArray} {own : String} {fr lo : Nat} (hO : Ok G α cc nL own fr lo) {n kc : Nat} {i : Int32} (hk : kc < 73) (he : ∀ cI cD, cellE cI cD α σ kc = .inl (cI, n, .inl (σ.1 kc))) (hin : vp_in i n) (d : decode cc pc = .ok (.iaload, 1)) (k : V G α nL κ (pc + 1) ls (.int (σ.1 kc i.toNatClampNeg) :: stk) σ x) : V G α nL κ pc ls (.int i :: .ref (α kc) :: stk) σ x := by
  obtain ⟨p, l, e, R, s, m, args, below, meth, c, D, cI, cD, A, cs, sl, Qr⟩ := G
  obtain ⟨hx, hb, hml, hown, hts, hK, hinj, hnw, hAk, hAz, hR, hcs⟩ := hO
  intro r hr H locs la hP hS hl
  exact va_iald hx hb hK hP kc 0 (by rw [cells_at hk, he]) rfl hin d (k r hr H locs la hP hS hl)
theorem V_iast {X : Type} {G : Gm} {α : Nat → Nat} {nL : Nat} {κ : X → Option Rs} {pc : Nat} {ls : List (Nat × Value)} {stk : List Value} {σ : Hp} {x : X} {cc : ByteArray} {own : String} {fr lo : Nat} (hO : Ok G α cc nL own fr lo) {n kc : Nat} {i v : Int32} (hk : kc < 73) (he : ∀ cI cD (τ : Hp), cellE cI cD α τ kc = .inl (cI, n, .inl (τ.1 kc))) (hin : vp_in i n) (d : decode cc pc = .ok (.iastore, 1)) (k : V G α nL κ (pc + 1) ls stk (up σ kc i.toNatClampNeg v) x) : V G α nL κ pc ls (.int v :: .int i :: .ref (α kc) :: stk) σ x := by
  obtain ⟨p, l, e, R, s, m, args, below, meth, c, D, cI, cD, A, cs, sl, Qr⟩ := G
  obtain ⟨hx, hb, hml, hown, hts, hK, hinj, hnw, hAk, hAz, hR, hcs⟩ := hO
  intro r hr H locs la hP hS hl
  refine va_iast hx hb hK hP (cells_D hinj hAk) hS kc 0 (by rw [cells_at hk, he]) rfl hin d (fun H1 locs1 hP1 _ hS1 => ?_)
  rw [cells_set (τ := up σ kc i.toNatClampNeg v) hk (by rw [he, up_row]) (fun j hj => cellE_up hj)] at hP1
  exact k r hr H1 locs1 la hP1 hS1 hl
theorem V_aald {X : Type} {G : Gm} {α : Nat → Nat} {nL : Nat} {κ : X → Option Rs} {pc : Nat} {ls : List (Nat × Value)} {stk : List Value} {σ : Hp} {x : X} {cc : ByteArray} {own : String} {fr lo : Nat} (hO : Ok G α cc nL own fr lo) {kc : Nat} {i : Int32} {f : Nat → Nat} (hk : kc < 73) (he : ∀ cI cD, cellE cI cD α σ kc = .inl (cD, 10, .inr (.inr (.inr (.inr (fun i => some (α (f i)))))))) (hin : vp_in i 10) (d : decode cc pc = .ok (.aaload, 1)) (k : V G α nL κ (pc + 1) ls (.ref (α (f i.toNatClampNeg)) :: stk) σ x) : V G α nL κ pc ls (.int i :: .ref (α kc) :: stk) σ x := by
  obtain ⟨p, l, e, R, s, m, args, below, meth, c, D, cI, cD, A, cs, sl, Qr⟩ := G
  obtain ⟨hx, hb, hml, hown, hts, hK, hinj, hnw, hAk, hAz, hR, hcs⟩ := hO
  intro r hr H locs la hP hS hl
  exact va_aldq (C := RX0) (f := fun i => some (α (f i))) hx hb hK hP kc 1 (by rw [cells_at hk, he]) rfl hin d (k r hr H locs la hP hS hl)
theorem V_alen {X : Type} {G : Gm} {α : Nat → Nat} {nL : Nat} {κ : X → Option Rs} {pc : Nat} {ls : List (Nat × Value)} {stk : List Value} {σ : Hp} {x : X} {cc : ByteArray} {own : String} {fr lo : Nat} (hO : Ok G α cc nL own fr lo) {kc n : Nat} {v : Int32} (hk : kc < 73) (he : ∀ cI cD, cellE cI cD α σ kc = .inl (cI, n, .inl (σ.1 kc))) (hv : Int32.ofNat n = v) (d : decode cc pc = .ok (.arraylength, 1)) (k : V G α nL κ (pc + 1) ls (.int v :: stk) σ x) : V G α nL κ pc ls (.ref (α kc) :: stk) σ x := by
  obtain ⟨p, l, e, R, s, m, args, below, meth, c, D, cI, cD, A, cs, sl, Qr⟩ := G
  obtain ⟨hx, hb, hml, hown, hts, hK, hinj, hnw, hAk, hAz, hR, hcs⟩ := hO
  intro r hr H locs la hP hS hl
  exact va_alen hx hb hK hP kc 0 (by rw [cells_at hk, he]) rfl hv d (k r hr H locs la hP hS hl)
theorem ce_debt {cI cD : ClassId} {α : Nat → Nat} {σ : Hp} {c : Nat} (h : c < 30) : cellE cI cD α σ c = .inr (0, [.int (σ.1 c 0), .int (σ.1 c 1), .int (σ.1 c 2), .int (σ.1 c 3), .int (σ.1 c 4), .int (σ.1 c 5), .int (σ.1 c 6), .int (σ.1 c 7)]) := by
  unfold cellE; rw [if_pos h]
theorem ce_town {cI cD : ClassId} {α : Nat → Nat} {σ : Hp} {t : Nat} (h : t < 3) : cellE cI cD α σ (30 + t) = .inr (5, [.int (σ.1 (30 + t) 0), .int (σ.1 (30 + t) 1), .int (σ.1 (30 + t) 2), .int (σ.1 (30 + t) 3), .int (σ.1 (30 + t) 4), .ref (α (33 + t)), .ref (α (36 + t))]) := by
  unfold cellE; rw [if_neg (by omega), if_pos (by omega), show 30 + t + 3 = 33 + t by omega, show 30 + t + 6 = 36 + t by omega]
theorem ce_ice {cI cD : ClassId} {α : Nat → Nat} {σ : Hp} {t : Nat} (h : t < 3) : cellE cI cD α σ (33 + t) = .inl (cI, 16, .inl (σ.1 (33 + t))) := by
  unfold cellE; rw [if_neg (by omega), if_neg (by omega), if_pos (by omega)]
theorem ce_da {cI cD : ClassId} {α : Nat → Nat} {σ : Hp} {t : Nat} (h : t < 3) : cellE cI cD α σ (36 + t) = .inl (cD, 10, .inr (.inr (.inr (.inr (fun i => some (α (10 * t + i))))))) := by
  unfold cellE; rw [if_neg (by omega), if_neg (by omega), if_neg (by omega), if_pos (by omega), show 36 + t - 36 = t by omega]
theorem cd_lt {t : Nat} {i : Int32} (ht : t < 3) (hi : vp_in i 10) : 10 * t + i.toNatClampNeg < 30 := by
  have : i.toNatClampNeg < 10 := Nat.not_le.mp fun q => hi (Or.inr q)
  omega
theorem pe_debt0 {cI cD : ClassId} {α : Nat → Nat} {σ : Hp} {c : Nat} {v : Int32} (h : c < 30) : cellE cI cD α (up σ c 0 v) c = .inr (0, List.set [.int (σ.1 c 0), .int (σ.1 c 1), .int (σ.1 c 2), .int (σ.1 c 3), .int (σ.1 c 4), .int (σ.1 c 5), .int (σ.1 c 6), .int (σ.1 c 7)] 0 (.int v)) := by
  rw [ce_debt h]; simp [up]
theorem pe_debt1 {cI cD : ClassId} {α : Nat → Nat} {σ : Hp} {c : Nat} {v : Int32} (h : c < 30) : cellE cI cD α (up σ c 1 v) c = .inr (0, List.set [.int (σ.1 c 0), .int (σ.1 c 1), .int (σ.1 c 2), .int (σ.1 c 3), .int (σ.1 c 4), .int (σ.1 c 5), .int (σ.1 c 6), .int (σ.1 c 7)] 1 (.int v)) := by
  rw [ce_debt h]; simp [up]
theorem pe_debt2 {cI cD : ClassId} {α : Nat → Nat} {σ : Hp} {c : Nat} {v : Int32} (h : c < 30) : cellE cI cD α (up σ c 2 v) c = .inr (0, List.set [.int (σ.1 c 0), .int (σ.1 c 1), .int (σ.1 c 2), .int (σ.1 c 3), .int (σ.1 c 4), .int (σ.1 c 5), .int (σ.1 c 6), .int (σ.1 c 7)] 2 (.int v)) := by
  rw [ce_debt h]; simp [up]
theorem pe_debt3 {cI cD : ClassId} {α : Nat → Nat} {σ : Hp} {c : Nat} {v : Int32} (h : c < 30) : cellE cI cD α (up σ c 3 v) c = .inr (0, List.set [.int (σ.1 c 0), .int (σ.1 c 1), .int (σ.1 c 2), .int (σ.1 c 3), .int (σ.1 c 4), .int (σ.1 c 5), .int (σ.1 c 6), .int (σ.1 c 7)] 3 (.int v)) := by
  rw [ce_debt h]; simp [up]
theorem pe_debt4 {cI cD : ClassId} {α : Nat → Nat} {σ : Hp} {c : Nat} {v : Int32} (h : c < 30) : cellE cI cD α (up σ c 4 v) c = .inr (0, List.set [.int (σ.1 c 0), .int (σ.1 c 1), .int (σ.1 c 2), .int (σ.1 c 3), .int (σ.1 c 4), .int (σ.1 c 5), .int (σ.1 c 6), .int (σ.1 c 7)] 4 (.int v)) := by
  rw [ce_debt h]; simp [up]
theorem pe_debt5 {cI cD : ClassId} {α : Nat → Nat} {σ : Hp} {c : Nat} {v : Int32} (h : c < 30) : cellE cI cD α (up σ c 5 v) c = .inr (0, List.set [.int (σ.1 c 0), .int (σ.1 c 1), .int (σ.1 c 2), .int (σ.1 c 3), .int (σ.1 c 4), .int (σ.1 c 5), .int (σ.1 c 6), .int (σ.1 c 7)] 5 (.int v)) := by
  rw [ce_debt h]; simp [up]
theorem pe_debt6 {cI cD : ClassId} {α : Nat → Nat} {σ : Hp} {c : Nat} {v : Int32} (h : c < 30) : cellE cI cD α (up σ c 6 v) c = .inr (0, List.set [.int (σ.1 c 0), .int (σ.1 c 1), .int (σ.1 c 2), .int (σ.1 c 3), .int (σ.1 c 4), .int (σ.1 c 5), .int (σ.1 c 6), .int (σ.1 c 7)] 6 (.int v)) := by
  rw [ce_debt h]; simp [up]
theorem pe_debt7 {cI cD : ClassId} {α : Nat → Nat} {σ : Hp} {c : Nat} {v : Int32} (h : c < 30) : cellE cI cD α (up σ c 7 v) c = .inr (0, List.set [.int (σ.1 c 0), .int (σ.1 c 1), .int (σ.1 c 2), .int (σ.1 c 3), .int (σ.1 c 4), .int (σ.1 c 5), .int (σ.1 c 6), .int (σ.1 c 7)] 7 (.int v)) := by
  rw [ce_debt h]; simp [up]
theorem pe_town0 {cI cD : ClassId} {α : Nat → Nat} {σ : Hp} {t : Nat} {v : Int32} (h : t < 3) : cellE cI cD α (up σ (30 + t) 0 v) (30 + t) = .inr (5, List.set [.int (σ.1 (30 + t) 0), .int (σ.1 (30 + t) 1), .int (σ.1 (30 + t) 2), .int (σ.1 (30 + t) 3), .int (σ.1 (30 + t) 4), .ref (α (33 + t)), .ref (α (36 + t))] 0 (.int v)) := by
  rw [ce_town h]; simp [up]
theorem pe_town1 {cI cD : ClassId} {α : Nat → Nat} {σ : Hp} {t : Nat} {v : Int32} (h : t < 3) : cellE cI cD α (up σ (30 + t) 1 v) (30 + t) = .inr (5, List.set [.int (σ.1 (30 + t) 0), .int (σ.1 (30 + t) 1), .int (σ.1 (30 + t) 2), .int (σ.1 (30 + t) 3), .int (σ.1 (30 + t) 4), .ref (α (33 + t)), .ref (α (36 + t))] 1 (.int v)) := by
  rw [ce_town h]; simp [up]
theorem pe_town2 {cI cD : ClassId} {α : Nat → Nat} {σ : Hp} {t : Nat} {v : Int32} (h : t < 3) : cellE cI cD α (up σ (30 + t) 2 v) (30 + t) = .inr (5, List.set [.int (σ.1 (30 + t) 0), .int (σ.1 (30 + t) 1), .int (σ.1 (30 + t) 2), .int (σ.1 (30 + t) 3), .int (σ.1 (30 + t) 4), .ref (α (33 + t)), .ref (α (36 + t))] 2 (.int v)) := by
  rw [ce_town h]; simp [up]
theorem pe_town3 {cI cD : ClassId} {α : Nat → Nat} {σ : Hp} {t : Nat} {v : Int32} (h : t < 3) : cellE cI cD α (up σ (30 + t) 3 v) (30 + t) = .inr (5, List.set [.int (σ.1 (30 + t) 0), .int (σ.1 (30 + t) 1), .int (σ.1 (30 + t) 2), .int (σ.1 (30 + t) 3), .int (σ.1 (30 + t) 4), .ref (α (33 + t)), .ref (α (36 + t))] 3 (.int v)) := by
  rw [ce_town h]; simp [up]
theorem pe_town4 {cI cD : ClassId} {α : Nat → Nat} {σ : Hp} {t : Nat} {v : Int32} (h : t < 3) : cellE cI cD α (up σ (30 + t) 4 v) (30 + t) = .inr (5, List.set [.int (σ.1 (30 + t) 0), .int (σ.1 (30 + t) 1), .int (σ.1 (30 + t) 2), .int (σ.1 (30 + t) 3), .int (σ.1 (30 + t) 4), .ref (α (33 + t)), .ref (α (36 + t))] 4 (.int v)) := by
  rw [ce_town h]; simp [up]
theorem V_iret {X : Type} {G : Gm} {α : Nat → Nat} {nL : Nat} {κ : X → Option Rs} {pc : Nat} {ls : List (Nat × Value)} {σ : Hp} {x : X} {cc : ByteArray} {own : String} {fr lo : Nat} (hO : Ok G α cc nL own fr lo) {v : Int32} (hr9 : Rt G α (some .int)) (hx9 : κ x = some (some (.int v), σ)) (d : decode cc pc = .ok (.ireturn, 1)) : V G α nL κ pc ls [.int v] σ x := by
  obtain ⟨p, l, e, R, s, m, args, below, meth, c, D, cI, cD, A, cs, sl, Qr⟩ := G
  obtain ⟨hx, hb, hml, hown, hts, hK, hinj, hnw, hAk, hAz, hR, hcs⟩ := hO
  obtain ⟨q1, q2, q3, q4, q5⟩ := hr9
  intro r hr H locs la hP hS hl
  obtain rfl := Option.some.inj (hx9.symm.trans hr)
  subst q3; subst q4; subst q5
  exact W.iret hx hb q1 (fun t ht hW => ⟨rfl, by rw [ht]; exact hP, hS.F ht⟩) hS.2.2 d q2
theorem V_zret {X : Type} {G : Gm} {α : Nat → Nat} {nL : Nat} {κ : X → Option Rs} {pc : Nat} {ls : List (Nat × Value)} {σ : Hp} {x : X} {cc : ByteArray} {own : String} {fr lo : Nat} (hO : Ok G α cc nL own fr lo) {v : Int32} (hr9 : Rt G α (some .boolean)) (hv : v = 0 ∨ v = 1) (hx9 : κ x = some (some (.int v), σ)) (d : decode cc pc = .ok (.ireturn, 1)) : V G α nL κ pc ls [.int v] σ x := by
  obtain ⟨p, l, e, R, s, m, args, below, meth, c, D, cI, cD, A, cs, sl, Qr⟩ := G
  obtain ⟨hx, hb, hml, hown, hts, hK, hinj, hnw, hAk, hAz, hR, hcs⟩ := hO
  obtain ⟨q1, q2, q3, q4, q5⟩ := hr9
  intro r hr H locs la hP hS hl
  obtain rfl := Option.some.inj (hx9.symm.trans hr)
  subst q3; subst q4; subst q5
  exact W.zret hx hb q1 (by rcases hv with rfl | rfl <;> rfl) (fun t ht hW => ⟨rfl, by rw [ht]; exact hP, hS.F ht⟩) hS.2.2 d q2
theorem V_lret {X : Type} {G : Gm} {α : Nat → Nat} {nL : Nat} {κ : X → Option Rs} {pc : Nat} {ls : List (Nat × Value)} {σ : Hp} {x : X} {cc : ByteArray} {own : String} {fr lo : Nat} (hO : Ok G α cc nL own fr lo) {v : Int64} (hr9 : Rt G α (some .long)) (hx9 : κ x = some (some (.long v), σ)) (d : decode cc pc = .ok (.lreturn, 1)) : V G α nL κ pc ls [.long v] σ x := by
  obtain ⟨p, l, e, R, s, m, args, below, meth, c, D, cI, cD, A, cs, sl, Qr⟩ := G
  obtain ⟨hx, hb, hml, hown, hts, hK, hinj, hnw, hAk, hAz, hR, hcs⟩ := hO
  obtain ⟨q1, q2, q3, q4, q5⟩ := hr9
  intro r hr H locs la hP hS hl
  obtain rfl := Option.some.inj (hx9.symm.trans hr)
  subst q3; subst q4; subst q5
  exact W.lret hx hb q1 (fun t ht hW => ⟨rfl, by rw [ht]; exact hP, hS.F ht⟩) hS.2.2 d q2
theorem V_vret {X : Type} {G : Gm} {α : Nat → Nat} {nL : Nat} {κ : X → Option Rs} {pc : Nat} {ls : List (Nat × Value)} {σ : Hp} {x : X} {cc : ByteArray} {own : String} {fr lo : Nat} (hO : Ok G α cc nL own fr lo) (hr9 : Rt G α none) (hx9 : κ x = some (none, σ)) (d : decode cc pc = .ok (.return_, 1)) : V G α nL κ pc ls [] σ x := by
  obtain ⟨p, l, e, R, s, m, args, below, meth, c, D, cI, cD, A, cs, sl, Qr⟩ := G
  obtain ⟨hx, hb, hml, hown, hts, hK, hinj, hnw, hAk, hAz, hR, hcs⟩ := hO
  obtain ⟨q1, q2, q3, q4, q5⟩ := hr9
  intro r hr H locs la hP hS hl
  obtain rfl := Option.some.inj (hx9.symm.trans hr)
  subst q3; subst q4; subst q5
  exact W.vret hx hb q1 (fun t ht hW => ⟨rfl, by rw [ht]; exact hP, hS.F ht⟩) hS.2.2 d q2
