abbrev Gn : Type := Program × Launch × Env × Room × State × MethodId × Array Value × List Frame × Method × Code × va_G × (Nat → Prop) × (State → Prop)
def nc1 : Cond := .methodLinkNest RX6 24 yX2_init RX6
def nc2 : Cond := .methodLinkNest RX6 31 yX4_init RX6
def nc3 : Cond := .methodLinkNest RX6 38 yX1_init RX6
def nc4 : Cond := .methodLinkNest RX6 45 yX3_init RX6
def nc5 : Cond := .methodLinkNest RX5 21 yX0_init RX6
def NwC (U : State) : Prop := va_AO RX0 U ∧ va_Nw nc1 U ∧ va_Nw nc2 U ∧ va_Nw nc3 U ∧ va_Nw nc4 U ∧ va_Nw nc5 U
theorem NwC.warm {s U : State} (hW : s.WarmedH U.vm) (h : NwC s) : NwC U := ⟨va_AO.moved hW.alike h.1, va_Nw.warmM hW h.2.1, va_Nw.warmM hW h.2.2.1, va_Nw.warmM hW h.2.2.2.1, va_Nw.warmM hW h.2.2.2.2.1, va_Nw.warmM hW h.2.2.2.2.2⟩
theorem NwC.same {u U : State} (h : u.vm = U.vm) (hz : NwC u) : NwC U := ⟨va_AO.moved (h ▸ Vm.Alike.refl u.vm) hz.1, va_Nw.same rfl h hz.2.1, va_Nw.same rfl h hz.2.2.1, va_Nw.same rfl h hz.2.2.2.1, va_Nw.same rfl h hz.2.2.2.2.1, va_Nw.same rfl h hz.2.2.2.2.2⟩
/-- a constructor's end -/
def Qn (D : va_G) (wp : (Nat → Nat) → va_W) (A : Nat → Prop) : Array Value → State → Outcome → State → Prop := fun _ st oc t => oc = .returned none ∧ (∃ f, va_P D clz (wp f) t.heap ∧ va_D A (wp f)) ∧ va_F A st t
def Wn (D : va_G) (cI cD : ClassId) (w0 : va_W) (sz : Nat) (U : State) : Prop := U.heap.size = sz ∧ va_P D clz w0 U.heap ∧ va_K D clz (tyz cI cD) U ∧ va_D (fun _ => True) w0 ∧ NwC U
def CtN (y : MethodName) (b : ByteArray) (n fr lo mc ms : Nat) (cI cD : ClassId) (as : List Value) (w0 : va_W) (wp : (Nat → Nat) → va_W) : Prop :=
  ∀ (l : Launch) (D : va_G) (sz : Nat), Met l y (wsU y b n none) { frames := fr, cells := mc, slots := ms, locals := lo } (va_Pc as (Wn D cI cD w0 sz)) (Qn D wp (va_A w0 sz)) mc ms (va_A w0 sz)
def N (G : Gn) (nL pc : Nat) (ls : List (Nat × Value)) (stk : List Value) (ws : va_W) (cs sl : Nat) : Prop :=
  match G with
  | (p, l, e, R, s, m, args, below, meth, c, D, A, Q) =>
    ∀ (H : Heap) (locs : List Loc) (la : Array Slot), va_P D clz ws H → va_D A ws → va_S A s.heap H locs → lv_has la nL ls → W p l e R s m args below meth c H locs cs sl Q (F0 m pc la stk)
def OkN (G : Gn) (cI cD : ClassId) (cc : ByteArray) (nL : Nat) (own : String) (fr lo mc ms : Nat) : Prop :=
  match G with
  | (p, _, _, R, s, m, args, _, _, c, D, A, _) =>
    p.tables.exec = Jvm.exec ∧ c.code = cc ∧ c.maxLocals = nL ∧ s.vm.findClass own = some m.cls ∧ (∀ w ∈ gw, w.before args s = true) ∧ va_K D clz (tyz cI cD) s ∧ NwC s ∧ (∀ q, s.heap.size ≤ q → A q) ∧ (R.frames = fr ∧ R.locals = lo) ∧ (R.cells = mc ∧ R.slots = ms)
def RtN (G : Gn) (wp : (Nat → Nat) → va_W) (mc ms : Nat) : Prop :=
  match G with
  | (_, _, _, _, s, _, args, below, meth, _, D, A, Q) => meth.sig.returnType = none ∧ meth.locks = false ∧ Q = MQ below (Qn D wp A) args s mc ms A
def InN (G : Gn) : Prop :=
  match G with
  | (_, _, _, _, _, _, _, _, meth, _, _, _, _) => meth.name = "<init>"
theorem tyz_int {cI cD cA : ClassId} {D : va_G} {s : State} (hK : va_K D clz (tyz cI cD) s) (h : va_RA s cA .int) : cA = cI := by
  have h1 := (hK.2 0 (cI, .int) rfl).2
  exact Option.some.inj (Eq.trans (Eq.symm h) h1)
theorem tyz_obj {cI cD cA : ClassId} {D : va_G} {s : State} (hK : va_K D clz (tyz cI cD) s) (h : va_RA s cA (.object RX0)) : cA = cD := by
  obtain ⟨_, _, _, _, _, h4⟩ := (hK.2 1 (cD, .object RX0) rfl).2
  obtain ⟨_, _, _, _, _, g4⟩ := h
  exact Option.some.inj (Eq.trans (Eq.symm g4) h4)
theorem N_iload_n {G : Gn} {cI cD : ClassId} {nL : Nat} {pc : Nat} {ls : List (Nat × Value)} {stk : List Value} {ws : va_W} {cs sl : Nat} {cc : ByteArray} {own : String} {fr lo mc ms : Nat} (hO : OkN G cI cD cc nL own fr lo mc ms) (pl : Nat) {j : Fin 4} {i : Nat} {v : Int32} (d : decode cc pc = .ok (.iload_n j, 1)) (hi : (j : Nat) = i) (h : ls[pl]? = some (i, .int v)) (k : N G nL (pc + 1) ls (.int v :: stk) ws cs sl) : N G nL pc ls stk ws cs sl := by
  obtain ⟨p, l, e, R, s, m, args, below, meth, c, D, A, Q⟩ := G
  obtain ⟨hx, hb, hml, hown, hts, hK, hnw, hAz, ⟨hR1, hR2⟩, ⟨hR3, hR4⟩⟩ := hO
  intro H locs la hP hD hS hl
  exact lv_iload_n hx hb d hi (lv_at hl pl h) (k H locs la hP hD hS hl)
theorem N_aload_n {G : Gn} {cI cD : ClassId} {nL : Nat} {pc : Nat} {ls : List (Nat × Value)} {stk : List Value} {ws : va_W} {cs sl : Nat} {cc : ByteArray} {own : String} {fr lo mc ms : Nat} (hO : OkN G cI cD cc nL own fr lo mc ms) (pl : Nat) {j : Fin 4} {i : Nat} {v : Nat} (d : decode cc pc = .ok (.aload_n j, 1)) (hi : (j : Nat) = i) (h : ls[pl]? = some (i, .ref v)) (k : N G nL (pc + 1) ls (.ref v :: stk) ws cs sl) : N G nL pc ls stk ws cs sl := by
  obtain ⟨p, l, e, R, s, m, args, below, meth, c, D, A, Q⟩ := G
  obtain ⟨hx, hb, hml, hown, hts, hK, hnw, hAz, ⟨hR1, hR2⟩, ⟨hR3, hR4⟩⟩ := hO
  intro H locs la hP hD hS hl
  exact lv_aload_n hx hb d hi (lv_at hl pl h) (k H locs la hP hD hS hl)
theorem N_istore_n {G : Gn} {cI cD : ClassId} {nL : Nat} {pc : Nat} {ls : List (Nat × Value)} {stk : List Value} {ws : va_W} {cs sl : Nat} {cc : ByteArray} {own : String} {fr lo mc ms : Nat} (hO : OkN G cI cD cc nL own fr lo mc ms) {ls2 : List (Nat × Value)} {j : Fin 4} {i : Nat} {v : Int32} (d : decode cc pc = .ok (.istore_n j, 1)) (hi : (j : Nat) = i) (hn : i < nL) (h : (i, Value.int v) :: ls.filter (fun q => !(q.1 == i) && !(q.1 + 1 == i && q.2.category == 2)) = ls2) (k : N G nL (pc + 1) ls2 stk ws cs sl) : N G nL pc ls (.int v :: stk) ws cs sl := by
  obtain ⟨p, l, e, R, s, m, args, below, meth, c, D, A, Q⟩ := G
  obtain ⟨hx, hb, hml, hown, hts, hK, hnw, hAz, ⟨hR1, hR2⟩, ⟨hR3, hR4⟩⟩ := hO
  intro H locs la hP hD hS hl
  exact lv_istore_n hx hb d hi hl hn h (fun la2 hl2 => k H locs la2 hP hD hS hl2)
theorem N_astore_n {G : Gn} {cI cD : ClassId} {nL : Nat} {pc : Nat} {ls : List (Nat × Value)} {stk : List Value} {ws : va_W} {cs sl : Nat} {cc : ByteArray} {own : String} {fr lo mc ms : Nat} (hO : OkN G cI cD cc nL own fr lo mc ms) {ls2 : List (Nat × Value)} {j : Fin 4} {i : Nat} {v : Nat} (d : decode cc pc = .ok (.astore_n j, 1)) (hi : (j : Nat) = i) (hn : i < nL) (h : (i, Value.ref v) :: ls.filter (fun q => !(q.1 == i) && !(q.1 + 1 == i && q.2.category == 2)) = ls2) (k : N G nL (pc + 1) ls2 stk ws cs sl) : N G nL pc ls (.ref v :: stk) ws cs sl := by
  obtain ⟨p, l, e, R, s, m, args, below, meth, c, D, A, Q⟩ := G
  obtain ⟨hx, hb, hml, hown, hts, hK, hnw, hAz, ⟨hR1, hR2⟩, ⟨hR3, hR4⟩⟩ := hO
  intro H locs la hP hD hS hl
  exact lv_astore_n hx hb d hi hl hn h (fun la2 hl2 => k H locs la2 hP hD hS hl2)
theorem N_iinc {G : Gn} {cI cD : ClassId} {nL : Nat} {pc : Nat} {ls : List (Nat × Value)} {stk : List Value} {ws : va_W} {cs sl : Nat} {cc : ByteArray} {own : String} {fr lo mc ms : Nat} (hO : OkN G cI cD cc nL own fr lo mc ms) {ls2 : List (Nat × Value)} (pl : Nat) {i : Nat} {n : Int} {v z : Int32} (d : decode cc pc = .ok (.iinc i n, 3)) (hk : ls[pl]? = some (i, .int v)) (hz : v + Int32.ofInt n = z) (hn : i < nL) (h : (i, Value.int z) :: ls.filter (fun q => !(q.1 == i) && !(q.1 + 1 == i && q.2.category == 2)) = ls2) (k : N G nL (pc + 3) ls2 stk ws cs sl) : N G nL pc ls stk ws cs sl := by
  obtain ⟨p, l, e, R, s, m, args, below, meth, c, D, A, Q⟩ := G
  obtain ⟨hx, hb, hml, hown, hts, hK, hnw, hAz, ⟨hR1, hR2⟩, ⟨hR3, hR4⟩⟩ := hO
  intro H locs la hP hD hS hl
  exact lv_iinc hx hb d hl hk hz hn h (fun la2 hl2 => k H locs la2 hP hD hS hl2)
theorem N_iconst {G : Gn} {cI cD : ClassId} {nL : Nat} {pc : Nat} {ls : List (Nat × Value)} {stk : List Value} {ws : va_W} {cs sl : Nat} {cc : ByteArray} {own : String} {fr lo mc ms : Nat} (hO : OkN G cI cD cc nL own fr lo mc ms) {n : Int} (v : Int32) (d : decode cc pc = .ok (.iconst n, 1)) (hv : Int32.ofInt n = v) (k : N G nL (pc + 1) ls (.int v :: stk) ws cs sl) : N G nL pc ls stk ws cs sl := by
  obtain ⟨p, l, e, R, s, m, args, below, meth, c, D, A, Q⟩ := G
  obtain ⟨hx, hb, hml, hown, hts, hK, hnw, hAz, ⟨hR1, hR2⟩, ⟨hR3, hR4⟩⟩ := hO
  intro H locs la hP hD hS hl
  exact lv_iconst hx hb d hv (k H locs la hP hD hS hl)
theorem N_bipush {G : Gn} {cI cD : ClassId} {nL : Nat} {pc : Nat} {ls : List (Nat × Value)} {stk : List Value} {ws : va_W} {cs sl : Nat} {cc : ByteArray} {own : String} {fr lo mc ms : Nat} (hO : OkN G cI cD cc nL own fr lo mc ms) {n : Int} (v : Int32) (d : decode cc pc = .ok (.bipush n, 2)) (hv : (Int8.ofInt n).toInt32 = v) (k : N G nL (pc + 2) ls (.int v :: stk) ws cs sl) : N G nL pc ls stk ws cs sl := by
  obtain ⟨p, l, e, R, s, m, args, below, meth, c, D, A, Q⟩ := G
  obtain ⟨hx, hb, hml, hown, hts, hK, hnw, hAz, ⟨hR1, hR2⟩, ⟨hR3, hR4⟩⟩ := hO
  intro H locs la hP hD hS hl
  exact lv_bipush hx hb d hv (k H locs la hP hD hS hl)
theorem N_sipush {G : Gn} {cI cD : ClassId} {nL : Nat} {pc : Nat} {ls : List (Nat × Value)} {stk : List Value} {ws : va_W} {cs sl : Nat} {cc : ByteArray} {own : String} {fr lo mc ms : Nat} (hO : OkN G cI cD cc nL own fr lo mc ms) {n : Int} (v : Int32) (d : decode cc pc = .ok (.sipush n, 3)) (hv : (Int16.ofInt n).toInt32 = v) (k : N G nL (pc + 3) ls (.int v :: stk) ws cs sl) : N G nL pc ls stk ws cs sl := by
  obtain ⟨p, l, e, R, s, m, args, below, meth, c, D, A, Q⟩ := G
  obtain ⟨hx, hb, hml, hown, hts, hK, hnw, hAz, ⟨hR1, hR2⟩, ⟨hR3, hR4⟩⟩ := hO
  intro H locs la hP hD hS hl
  exact lv_sipush hx hb d hv (k H locs la hP hD hS hl)
theorem N_dup {G : Gn} {cI cD : ClassId} {nL : Nat} {pc : Nat} {ls : List (Nat × Value)} {stk : List Value} {ws : va_W} {cs sl : Nat} {cc : ByteArray} {own : String} {fr lo mc ms : Nat} (hO : OkN G cI cD cc nL own fr lo mc ms) {v : Value} (d : decode cc pc = .ok (.dup, 1)) (hv : v.category = 1) (k : N G nL (pc + 1) ls (v :: v :: stk) ws cs sl) : N G nL pc ls (v :: stk) ws cs sl := by
  obtain ⟨p, l, e, R, s, m, args, below, meth, c, D, A, Q⟩ := G
  obtain ⟨hx, hb, hml, hown, hts, hK, hnw, hAz, ⟨hR1, hR2⟩, ⟨hR3, hR4⟩⟩ := hO
  intro H locs la hP hD hS hl
  exact lv_dup hx hb d hv (k H locs la hP hD hS hl)
theorem N_imul {G : Gn} {cI cD : ClassId} {nL : Nat} {pc : Nat} {ls : List (Nat × Value)} {stk : List Value} {ws : va_W} {cs sl : Nat} {cc : ByteArray} {own : String} {fr lo mc ms : Nat} (hO : OkN G cI cD cc nL own fr lo mc ms) {a b : Int32} (v : Int32) (d : decode cc pc = .ok (.imul, 1)) (hv : a * b = v) (k : N G nL (pc + 1) ls (.int v :: stk) ws cs sl) : N G nL pc ls (.int b :: .int a :: stk) ws cs sl := by
  obtain ⟨p, l, e, R, s, m, args, below, meth, c, D, A, Q⟩ := G
  obtain ⟨hx, hb, hml, hown, hts, hK, hnw, hAz, ⟨hR1, hR2⟩, ⟨hR3, hR4⟩⟩ := hO
  intro H locs la hP hD hS hl
  exact lv_imul hx hb d (by rw [hv]; exact k H locs la hP hD hS hl)
theorem N_goto {G : Gn} {cI cD : ClassId} {nL : Nat} {pc : Nat} {ls : List (Nat × Value)} {stk : List Value} {ws : va_W} {cs sl : Nat} {cc : ByteArray} {own : String} {fr lo mc ms : Nat} (hO : OkN G cI cD cc nL own fr lo mc ms) {off : Int} (tgt : Nat) (d : decode cc pc = .ok (.goto off, 3)) (ht : (pc : Int) + off = (tgt : Int)) (k : N G nL tgt ls stk ws cs sl) : N G nL pc ls stk ws cs sl := by
  obtain ⟨p, l, e, R, s, m, args, below, meth, c, D, A, Q⟩ := G
  obtain ⟨hx, hb, hml, hown, hts, hK, hnw, hAz, ⟨hR1, hR2⟩, ⟨hR3, hR4⟩⟩ := hO
  intro H locs la hP hD hS hl
  exact lv_goto hx hb d ht (k H locs la hP hD hS hl)
theorem N_geT {G : Gn} {cI cD : ClassId} {nL : Nat} {pc : Nat} {ls : List (Nat × Value)} {stk : List Value} {ws : va_W} {cs sl : Nat} {cc : ByteArray} {own : String} {fr lo mc ms : Nat} (hO : OkN G cI cD cc nL own fr lo mc ms) {a b : Int32} {off : Int} (tgt : Nat) (d : decode cc pc = .ok (.if_icmp .ge off, 3)) (ht : (pc : Int) + off = (tgt : Int)) (hc : b ≤ a) (k : N G nL tgt ls stk ws cs sl) : N G nL pc ls (.int b :: .int a :: stk) ws cs sl := by
  obtain ⟨p, l, e, R, s, m, args, below, meth, c, D, A, Q⟩ := G
  obtain ⟨hx, hb, hml, hown, hts, hK, hnw, hAz, ⟨hR1, hR2⟩, ⟨hR3, hR4⟩⟩ := hO
  intro H locs la hP hD hS hl
  exact lv_icmp_ge hx hb d ht (fun _ => (k H locs la hP hD hS hl)) (fun h => absurd hc h)
theorem N_geF {G : Gn} {cI cD : ClassId} {nL : Nat} {pc : Nat} {ls : List (Nat × Value)} {stk : List Value} {ws : va_W} {cs sl : Nat} {cc : ByteArray} {own : String} {fr lo mc ms : Nat} (hO : OkN G cI cD cc nL own fr lo mc ms) {a b : Int32} {off : Int} (tgt : Nat) (d : decode cc pc = .ok (.if_icmp .ge off, 3)) (ht : (pc : Int) + off = (tgt : Int)) (hc : ¬ b ≤ a) (k : N G nL (pc + 3) ls stk ws cs sl) : N G nL pc ls (.int b :: .int a :: stk) ws cs sl := by
  obtain ⟨p, l, e, R, s, m, args, below, meth, c, D, A, Q⟩ := G
  obtain ⟨hx, hb, hml, hown, hts, hK, hnw, hAz, ⟨hR1, hR2⟩, ⟨hR3, hR4⟩⟩ := hO
  intro H locs la hP hD hS hl
  exact lv_icmp_ge hx hb d ht (fun h => absurd h hc) (fun _ => (k H locs la hP hD hS hl))
theorem N_new {G : Gn} {cI cD : ClassId} {nL : Nat} {pc : Nat} {ls : List (Nat × Value)} {stk : List Value} {ws : va_W} {cs sl : Nat} {cc : ByteArray} {own : String} {fr lo mc ms : Nat} (hO : OkN G cI cD cc nL own fr lo mc ms) {idx ci NN : Nat} {C : String} {T : u_T} {fs : List Value} {ty : Nat → FieldType} {ws2 : Nat → va_W} (h1 : clz[ci]? = some (C, T, NN)) (h2 : ∀ w ∈ u_ws C T NN, w ∈ gw) (h3 : ∀ k, k < NN → parseFieldDescriptor (T k).2.2.1 = some (ty k)) (h4 : Cond.classLink own idx C ∈ gw) (h5 : Cond.instantiable C NN ∈ gw) (h6 : Cond.initialized C ∈ gw) (h7 : ∀ j, j < NN → defaultValue (ty j) = vp_V fs j) (h8 : cs + 1 ≤ mc) (h9 : sl + NN ≤ ms) (hw : ∀ q, ws ++ [(q, .inr (ci, fs))] = ws2 q) (d : decode cc pc = .ok (.new idx, 3)) (k : ∀ q, N G nL (pc + 3) ls (.ref q :: stk) (ws2 q) (cs + 1) (sl + NN)) : N G nL pc ls stk ws cs sl := by
  obtain ⟨p, l, e, R, s, m, args, below, meth, c, D, A, Q⟩ := G
  obtain ⟨hx, hb, hml, hown, hts, hK, hnw, hAz, ⟨hR1, hR2⟩, ⟨hR3, hR4⟩⟩ := hO
  intro H locs la hP hD hS hl
  refine va_new hx hb hts h2 ty h3 hown (hts _ h4) (hts _ h5) (hts _ h6) hK hP hD hS hAz h1 h7 (by rw [hR3]; exact h8) (by rw [hR4]; exact h9) d (fun q H1 hP1 hD1 hS1 => ?_)
  rw [hw q] at hP1 hD1
  exact k q H1 locs la hP1 hD1 hS1 hl
theorem N_newa {G : Gn} {cI cD : ClassId} {nL : Nat} {pc : Nat} {ls : List (Nat × Value)} {stk : List Value} {ws : va_W} {cs sl : Nat} {cc : ByteArray} {own : String} {fr lo mc ms : Nat} (hO : OkN G cI cD cc nL own fr lo mc ms) {n : Int32} {NN : Nat} {ws2 : Nat → va_W} (hn : ¬ n < 0) (hN : n.toNatClampNeg = NN) (hbt : NN * componentBytes .int ≤ 536870912) (h0 : Cond.arrayClass .int ∈ gw) (h8 : cs + 1 ≤ mc) (h9 : sl + NN ≤ ms) (hw : ∀ q, ws ++ [(q, .inl (cI, NN, .inl (fun _ => 0)))] = ws2 q) (d : decode cc pc = .ok (.newarray .int, 2)) (k : ∀ q, N G nL (pc + 2) ls (.ref q :: stk) (ws2 q) (cs + 1) (sl + NN)) : N G nL pc ls (.int n :: stk) ws cs sl := by
  obtain ⟨p, l, e, R, s, m, args, below, meth, c, D, A, Q⟩ := G
  obtain ⟨hx, hb, hml, hown, hts, hK, hnw, hAz, ⟨hR1, hR2⟩, ⟨hR3, hR4⟩⟩ := hO
  intro H locs la hP hD hS hl
  refine va_newa (atype := .int) (ty := .int) (N' := NN) (a0 := (NN, .inl (fun _ => 0))) hx hb (hts _ h0) rfl hK hP hD hS hAz (fun cA => rfl) hn hN hbt (by rw [hR3]; exact h8) (by rw [hR4]; exact h9) d (fun q cA H1 hK1 hP1 hD1 hS1 => ?_)
  have hc : cA = cI := tyz_int hK (hK1.2 2 (cA, .int) rfl).2
  subst hc
  rw [hw q] at hP1 hD1
  exact k q H1 locs la hP1 hD1 hS1 hl
theorem N_newq {G : Gn} {cI cD : ClassId} {nL : Nat} {pc : Nat} {ls : List (Nat × Value)} {stk : List Value} {ws : va_W} {cs sl : Nat} {cc : ByteArray} {own : String} {fr lo mc ms : Nat} (hO : OkN G cI cD cc nL own fr lo mc ms) {idx : Nat} {n : Int32} {NN : Nat} {ws2 : Nat → va_W} (hn : ¬ n < 0) (hN : n.toNatClampNeg = NN) (hbt : NN * 4 ≤ 536870912) (h0 : Cond.classLink own idx RX0 ∈ gw) (h8 : cs + 1 ≤ mc) (h9 : sl + NN ≤ ms) (hw : ∀ q, ws ++ [(q, .inl (cD, NN, .inr (.inr (.inr (.inr (fun _ => none))))))] = ws2 q) (d : decode cc pc = .ok (.anewarray idx, 3)) (k : ∀ q, N G nL (pc + 3) ls (.ref q :: stk) (ws2 q) (cs + 1) (sl + NN)) : N G nL pc ls (.int n :: stk) ws cs sl := by
  obtain ⟨p, l, e, R, s, m, args, below, meth, c, D, A, Q⟩ := G
  obtain ⟨hx, hb, hml, hown, hts, hK, hnw, hAz, ⟨hR1, hR2⟩, ⟨hR3, hR4⟩⟩ := hO
  intro H locs la hP hD hS hl
  refine va_newq (N' := NN) hx hb hown (hts _ h0) hnw.1 hK hP hD hS hAz hn hN hbt (by rw [hR3]; exact h8) (by rw [hR4]; exact h9) d (fun q cA H1 hK1 hP1 hD1 hS1 => ?_)
  have hc : cA = cD := tyz_obj hK (hK1.2 2 (cA, .object RX0) rfl).2
  subst hc
  rw [hw q] at hP1 hD1
  exact k q H1 locs la hP1 hD1 hS1 hl
def FPF (own : String) (idx ci j : Nat) (ty : FieldType) : Prop := ∃ (C : String) (T : u_T) (NN : Nat) (ty0 : Nat → FieldType), clz[ci]? = some (C, T, NN) ∧ j < NN ∧ (∀ w ∈ u_ws C T NN, w ∈ gw) ∧ Cond.fieldLink own idx (T j).1 (T j).2.1 (T j).2.2.1 ∈ gw ∧ (∀ k, k < NN → parseFieldDescriptor (T k).2.2.1 = some (ty0 k)) ∧ (∀ a, a < NN → ∀ b, b < NN → a ≠ b → (T a).2.1 ≠ (T b).2.1) ∧ (T j).2.2.2 = true ∧ (T j).1 = own ∧ parseFieldDescriptor (T j).2.2.1 = some ty
theorem N_putF {G : Gn} {cI cD : ClassId} {nL : Nat} {pc : Nat} {ls : List (Nat × Value)} {stk : List Value} {ws : va_W} {cs sl : Nat} {cc : ByteArray} {own : String} {fr lo mc ms : Nat} (hO : OkN G cI cD cc nL own fr lo mc ms) {idx ci j a kp : Nat} {fs : List Value} {v : Value} {ty : FieldType} {ws2 : va_W} (hI : InN G) (hF : FPF own idx ci j ty) (he : ws[kp]? = some (a, .inr (ci, fs))) (hn : narrow ty v = v) (hf : fits ty v = true) (hl9 : j < fs.length) (hw : ws.set kp (a, .inr (ci, fs.set j v)) = ws2) (d : decode cc pc = .ok (.putfield idx, 3)) (k : N G nL (pc + 3) ls stk ws2 cs sl) : N G nL pc ls (v :: .ref a :: stk) ws cs sl := by
  obtain ⟨p, l, e, R, s, m, args, below, meth, c, D, A, Q⟩ := G
  obtain ⟨hx, hb, hml, hown, hts, hK, hnw, hAz, ⟨hR1, hR2⟩, ⟨hR3, hR4⟩⟩ := hO
  obtain ⟨C, T, NN, ty0, a1, a2, a3, a4, a5, a6, a7, a8, a9⟩ := hF
  intro H locs la hP hD hS hl
  refine va_putF (D := D) hx hb hts a3 ty0 a5 a6 hown hK hP hD hS kp he a1 j a2 (hts _ a4) (fun _ h => h) a7 hI a8 a9 hn hf hl9 d (fun H1 locs1 hP1 hD1 hS1 => ?_)
  rw [hw] at hP1 hD1
  exact k H1 locs1 la hP1 hD1 hS1 hl
theorem N_put {G : Gn} {cI cD : ClassId} {nL : Nat} {pc : Nat} {ls : List (Nat × Value)} {stk : List Value} {ws : va_W} {cs sl : Nat} {cc : ByteArray} {own : String} {fr lo mc ms : Nat} (hO : OkN G cI cD cc nL own fr lo mc ms) {idx ci j a kp : Nat} {fs : List Value} {v : Value} {ty : FieldType} {ws2 : va_W} (hF : FP own idx ci j ty) (he : ws[kp]? = some (a, .inr (ci, fs))) (hn : narrow ty v = v) (hf : fits ty v = true) (hl9 : j < fs.length) (hw : ws.set kp (a, .inr (ci, fs.set j v)) = ws2) (d : decode cc pc = .ok (.putfield idx, 3)) (k : N G nL (pc + 3) ls stk ws2 cs sl) : N G nL pc ls (v :: .ref a :: stk) ws cs sl := by
  obtain ⟨p, l, e, R, s, m, args, below, meth, c, D, A, Q⟩ := G
  obtain ⟨hx, hb, hml, hown, hts, hK, hnw, hAz, ⟨hR1, hR2⟩, ⟨hR3, hR4⟩⟩ := hO
  obtain ⟨C, T, NN, ty0, a1, a2, a3, a4, a5, a6, a7, a8⟩ := hF
  intro H locs la hP hD hS hl
  refine va_put (D := D) hx hb hts a3 ty0 a5 a6 hown hK hP hD hS kp he a1 j a2 (hts _ a4) (fun _ h => h) a7 a8 hn hf hl9 d (fun H1 locs1 hP1 hD1 hS1 => ?_)
  rw [hw] at hP1 hD1
  exact k H1 locs1 la hP1 hD1 hS1 hl
theorem N_get {G : Gn} {cI cD : ClassId} {nL : Nat} {pc : Nat} {ls : List (Nat × Value)} {stk : List Value} {ws : va_W} {cs sl : Nat} {cc : ByteArray} {own : String} {fr lo mc ms : Nat} (hO : OkN G cI cD cc nL own fr lo mc ms) {idx ci j a kp : Nat} {fs : List Value} {v : Value} (hF : FL own idx ci j) (he : ws[kp]? = some (a, .inr (ci, fs))) (hv : fs[j]? = some v) (d : decode cc pc = .ok (.getfield idx, 3)) (k : N G nL (pc + 3) ls (v :: stk) ws cs sl) : N G nL pc ls (.ref a :: stk) ws cs sl := by
  obtain ⟨p, l, e, R, s, m, args, below, meth, c, D, A, Q⟩ := G
  obtain ⟨hx, hb, hml, hown, hts, hK, hnw, hAz, ⟨hR1, hR2⟩, ⟨hR3, hR4⟩⟩ := hO
  obtain ⟨C, T, NN, h1, h2, h3, h4⟩ := hF
  intro H locs la hP hD hS hl
  exact va_get (D := D) hx hb hts h3 hown hK hP kp he h1 j h2 (hts _ h4) (fun _ h => h) hv d (k H locs la hP hD hS hl)
theorem N_iast {G : Gn} {cI cD : ClassId} {nL : Nat} {pc : Nat} {ls : List (Nat × Value)} {stk : List Value} {ws : va_W} {cs sl : Nat} {cc : ByteArray} {own : String} {fr lo mc ms : Nat} (hO : OkN G cI cD cc nL own fr lo mc ms) {a kp n : Nat} {f : Nat → Int32} {i v : Int32} {ws2 : va_W} (he : ws[kp]? = some (a, .inl (cI, n, .inl f))) (hin : vp_in i n) (hw : ws.set kp (a, .inl (cI, n, .inl (upd f i.toNatClampNeg v))) = ws2) (d : decode cc pc = .ok (.iastore, 1)) (k : N G nL (pc + 1) ls stk ws2 cs sl) : N G nL pc ls (.int v :: .int i :: .ref a :: stk) ws cs sl := by
  obtain ⟨p, l, e, R, s, m, args, below, meth, c, D, A, Q⟩ := G
  obtain ⟨hx, hb, hml, hown, hts, hK, hnw, hAz, ⟨hR1, hR2⟩, ⟨hR3, hR4⟩⟩ := hO
  intro H locs la hP hD hS hl
  refine va_iast hx hb hK hP hD hS kp 0 he rfl hin d (fun H1 locs1 hP1 hD1 hS1 => ?_)
  rw [hw] at hP1 hD1
  exact k H1 locs1 la hP1 hD1 hS1 hl
theorem N_aast {G : Gn} {cI cD : ClassId} {nL : Nat} {pc : Nat} {ls : List (Nat × Value)} {stk : List Value} {ws : va_W} {cs sl : Nat} {cc : ByteArray} {own : String} {fr lo mc ms : Nat} (hO : OkN G cI cD cc nL own fr lo mc ms) {a v kp kv n : Nat} {f : Nat → Option Nat} {vs : List Value} {i : Int32} {ws2 : va_W} (he : ws[kp]? = some (a, .inl (cD, n, .inr (.inr (.inr (.inr f)))))) (hv : ws[kv]? = some (v, .inr (0, vs))) (hin : vp_in i n) (hw : ws.set kp (a, .inl (cD, n, .inr (.inr (.inr (.inr (va_up f i.toNatClampNeg (some v))))))) = ws2) (d : decode cc pc = .ok (.aastore, 1)) (k : N G nL (pc + 1) ls stk ws2 cs sl) : N G nL pc ls (.ref v :: .int i :: .ref a :: stk) ws cs sl := by
  obtain ⟨p, l, e, R, s, m, args, below, meth, c, D, A, Q⟩ := G
  obtain ⟨hx, hb, hml, hown, hts, hK, hnw, hAz, ⟨hR1, hR2⟩, ⟨hR3, hR4⟩⟩ := hO
  intro H locs la hP hD hS hl
  refine va_astq (r := (RX0, TX0, 8)) hx hb hK hP hD hS kp 1 kv 0 he rfl hv rfl hin d (fun H1 locs1 hP1 hD1 hS1 => ?_)
  rw [hw] at hP1 hD1
  exact k H1 locs1 la hP1 hD1 hS1 hl
theorem N_sub {G : Gn} {nL pc : Nat} {ls : List (Nat × Value)} {stk : List Value} {ws ws2 : va_W} {cs sl : Nat} (is : List Nat) (hn : va_nd is = true) (h1 : is.map (fun i => ws[i]?) = ws2.map some) (k : N G nL pc ls stk ws2 cs sl) : N G nL pc ls stk ws cs sl := by
  obtain ⟨p, l, e, R, s, m, args, below, meth, c, D, A, Q⟩ := G
  intro H locs la hP hD hS hl
  refine k H locs la (fun j q hq => ?_) (hD.sub is hn h1) hS hl
  have h2 : (is.map (fun i => ws[i]?))[j]? = some (some q) := by rw [h1, List.getElem?_map, hq]; rfl
  rw [List.getElem?_map] at h2
  cases hi : is[j]? with
  | none => rw [hi] at h2; cases h2
  | some i =>
    rw [hi] at h2
    exact hP i q (Option.some.inj h2)
theorem N_conv {G : Gn} {nL pc : Nat} {ls : List (Nat × Value)} {stk : List Value} {ws ws2 : va_W} {cs sl : Nat} (kp : Nat) {a n : Nat} {cA : ClassId} {f g : Nat → Option Nat} (he : ws[kp]? = some (a, .inl (cA, n, .inr (.inr (.inr (.inr f)))))) (hfg : ∀ i, i < n → f i = g i) (hw : ws.set kp (a, .inl (cA, n, .inr (.inr (.inr (.inr g))))) = ws2) (k : N G nL pc ls stk ws2 cs sl) : N G nL pc ls stk ws cs sl := by
  obtain ⟨p, l, e, R, s, m, args, below, meth, c, D, A, Q⟩ := G
  intro H locs la hP hD hS hl
  refine k H locs la ?_ (hw ▸ hD.set he) hS hl
  rw [← hw]
  refine hP.set hD he ?_ (fun q _ => rfl)
  have h1 : H[a]? = some (vp_cell cA (n, .inr (.inr (.inr (.inr f))))) := hP kp _ he
  show H[a]? = some (vp_cell cA (n, .inr (.inr (.inr (.inr g)))))
  rw [h1]
  congr 1
  show arrV cA n (fun j => va_rf (f j)) = arrV cA n (fun j => va_rf (g j))
  unfold arrV
  congr 2
  funext j
  show va_rf (f j.val) = va_rf (g j.val)
  rw [hfg j.val j.isLt]
theorem N_convI {G : Gn} {nL pc : Nat} {ls : List (Nat × Value)} {stk : List Value} {ws ws2 : va_W} {cs sl : Nat} (kp : Nat) {a n : Nat} {cA : ClassId} {f g : Nat → Int32} (he : ws[kp]? = some (a, .inl (cA, n, .inl f))) (hfg : ∀ i, i < n → f i = g i) (hw : ws.set kp (a, .inl (cA, n, .inl g)) = ws2) (k : N G nL pc ls stk ws2 cs sl) : N G nL pc ls stk ws cs sl := by
  obtain ⟨p, l, e, R, s, m, args, below, meth, c, D, A, Q⟩ := G
  intro H locs la hP hD hS hl
  refine k H locs la ?_ (hw ▸ hD.set he) hS hl
  rw [← hw]
  refine hP.set hD he ?_ (fun q _ => rfl)
  have h1 : H[a]? = some (vp_cell cA (n, .inl f)) := hP kp _ he
  show H[a]? = some (vp_cell cA (n, .inl g))
  rw [h1]
  congr 1
  show arrV cA n (fun j => .int (f j)) = arrV cA n (fun j => .int (g j))
  unfold arrV
  congr 2
  funext j
  show Value.int (f j.val) = Value.int (g j.val)
  rw [hfg j.val j.isLt]
theorem ow_i : Cond.instanceMethod objectInit ∈ gw := gd 57 (by decide +kernel) (by decide +kernel)
theorem ow_c : Cond.code objectInit ⟨#[0xb1]⟩ 1 none ∈ gw := gd 58 rfl rfl
theorem ow_a : Cond.arrayClass .int ∈ gw := gd 109 (by decide +kernel) (by decide +kernel)
theorem N_obj {G : Gn} {cI cD : ClassId} {nL : Nat} {pc : Nat} {ls : List (Nat × Value)} {stk : List Value} {ws : va_W} {cs sl : Nat} {cc : ByteArray} {own : String} {fr lo mc ms : Nat} (hO : OkN G cI cD cc nL own fr lo mc ms) {idx a : Nat} (h1 : Cond.methodLink own idx objectInit ∈ gw) (hf : 1 ≤ fr) (hlo : (stk.map fun v => v.category).sum + 12 ≤ lo) (d : decode cc pc = .ok (.invokespecial idx, 3)) (k : N G nL (pc + 3) ls stk ws cs sl) : N G nL pc ls (.ref a :: stk) ws cs sl := by
  obtain ⟨p, l, e, R, s, m, args, below, meth, c, D, A, Q⟩ := G
  obtain ⟨hx, hb, hml, hown, hts, hK, hnw, hAz, ⟨hR1, hR2⟩, ⟨hR3, hR4⟩⟩ := hO
  intro H locs la hP hD hS hl
  refine W.objInit hx hb hown (hts _ h1) (hts _ ow_i) (hts _ ow_c) rfl (by rw [hml]; exact hl.1) rfl d (by rw [hR1]; exact hf) (by rw [hR2]; show 2 * 0 + _ + 12 ≤ _; omega) ?_
  exact (k H locs la hP hD hS hl)
theorem N_ret {G : Gn} {cI cD : ClassId} {nL : Nat} {pc : Nat} {ls : List (Nat × Value)} {ws : va_W} {cs sl : Nat} {cc : ByteArray} {own : String} {fr lo mc ms : Nat} (hO : OkN G cI cD cc nL own fr lo mc ms) {wp : (Nat → Nat) → va_W} (f : Nat → Nat) (hr9 : RtN G wp mc ms) (hw : ws = wp f) (h8 : cs ≤ mc) (h9 : sl ≤ ms) (d : decode cc pc = .ok (.return_, 1)) : N G nL pc ls [] ws cs sl := by
  obtain ⟨p, l, e, R, s, m, args, below, meth, c, D, A, Q⟩ := G
  obtain ⟨hx, hb, hml, hown, hts, hK, hnw, hAz, ⟨hR1, hR2⟩, ⟨hR3, hR4⟩⟩ := hO
  obtain ⟨q1, q2, q3⟩ := hr9
  intro H locs la hP hD hS hl
  subst q3
  subst hw
  refine W.widen (k := mc) (n := ms) h8 h9 ?_
  exact W.vret hx hb q1 (fun t ht hW => ⟨rfl, ⟨f, by rw [ht]; exact hP, hD⟩, hS.F ht⟩) hS.2.2 d q2
theorem va_nd_of {l : List Nat} (h : l.Nodup) : va_nd l = true := by
  induction l with
  | nil => rfl
  | cons a l ih =>
    have h1 := List.nodup_cons.mp h
    simp [va_nd, h1.1, ih h1.2]
theorem end_join {D : va_G} {A0 : Nat → Prop} {wr w0 w1 : va_W} {H H1 : Heap} (hP : va_P D clz (wr ++ w0) H) (hD : va_D A0 (wr ++ w0)) (hk : ∀ q : Nat, q < H.size → ¬ va_A w0 H.size q → H1[q]? = H[q]?) (hF : ∀ q, va_A w0 H.size q → A0 q) (hP1 : va_P D clz w1 H1) (hD1 : va_D (va_A w0 H.size) w1) : va_P D clz (wr ++ w1) H1 ∧ va_D A0 (wr ++ w1) := by
  refine va_join hP hD ((List.range w0.length).map (fun i => wr.length + i)) (List.range wr.length) ?_ ?_ (va_nd_of List.nodup_range) ?_ hk hF hP1 hD1
  · apply List.ext_getElem?
    intro i
    simp only [List.getElem?_map]
    by_cases hi : i < w0.length
    · simp [List.getElem?_range hi, List.getElem?_append_right, hi]
    · simp [hi]
  · apply List.ext_getElem?
    intro i
    simp only [List.getElem?_map]
    by_cases hi : i < wr.length
    · simp [List.getElem?_range hi, List.getElem?_append_left hi, hi]
    · simp [hi]
  · intro i h1 h2
    simp at h1 h2
    omega
theorem end_P {D : va_G} {wr w0 : va_W} {H : Heap} (hP : va_P D clz (wr ++ w0) H) : va_P D clz w0 H := fun k q hk => hP (wr.length + k) q (by rw [List.getElem?_append_right (by omega)]; simpa using hk)
theorem end_D {A : Nat → Prop} {wr w0 : va_W} (hD : va_D A (wr ++ w0)) : va_D A w0 := by
  refine ⟨fun i j x y hi hj hxy => ?_, fun k q hk => hD.2 (wr.length + k) q (by rw [List.getElem?_append_right (by omega)]; simpa using hk)⟩
  have h := hD.1 (wr.length + i) (wr.length + j) x y (by rw [List.getElem?_append_right (by omega)]; simpa using hi) (by rw [List.getElem?_append_right (by omega)]; simpa using hj) hxy
  omega
theorem end_F {A : Nat → Prop} {wr w0 : va_W} {H0 H : Heap} {locs : List Loc} (hD : va_D A (wr ++ w0)) (hS : va_S A H0 H locs) (hA : ∀ q, H0.size ≤ q → A q) : ∀ q, va_A w0 H.size q → A q := by
  intro q h
  rcases h with ⟨k, e, h⟩ | h
  · exact (end_D hD).2 k (q, e) h
  · exact hA q (Nat.le_trans hS.1 h)
section CWN
variable {p : Program} {l : Launch} {e : Env} {R : Room} {s : State} {m : MethodId} {args : Array Value} {below : List Frame} {meth : Method} {c : Code} {H : Heap} {locs : List Loc} {cs sl : Nat} {Q : State → Prop}
theorem va_callN {pc mc ms : Nat} {ls : Array Slot} {rest st0 : List Value} {a : Array Value} {A0 A1 : Nat → Prop} {H0 : Heap} {D : va_G} {wp : (Nat → Nat) → va_W} (hr : va_Run p l e R s m args below meth c H locs cs sl mc ms (F0 m pc ls st0) rest (Qn D wp A1 a) A1) (hS : va_S A0 H0 H locs) (hA : ∀ q, A1 q → A0 q)
    (kk : ∀ (f : Nat → Nat) (H1 : Heap) (locs1 : List Loc), va_P D clz (wp f) H1 → va_D A1 (wp f) → (∀ q : Nat, q < H.size → ¬ A1 q → H1[q]? = H[q]?) → va_S A0 H0 H1 locs1 → W p l e R s m args below meth c H1 locs1 (cs + mc) (sl + ms) Q (F0 m (pc + 3) ls rest)) : W p l e R s m args below meth c H locs cs sl Q (F0 m pc ls st0) := by
  intro T hT X
  obtain ⟨v, st₀, t, T', L, h0, X', hL, e1, e2, ⟨hv, ⟨f, hp, hd⟩, hz, hk⟩, st⟩ := hr T hT X
  obtain rfl : v = none := by injection hv
  rw [h0] at hz hk
  obtain ⟨t2, a1, b1⟩ := kk f T'.heap (locs ++ L) (by rw [e1]; exact hp) hd (fun q h1 h2 => by rw [e1]; exact hk q h1 h2)
    ⟨Nat.le_trans hS.1 (by rw [e1]; exact hz), fun q h1 h2 => by rw [e1, hk q (Nat.lt_of_lt_of_le h1 hS.1) (fun z => h2 (hA q z))]; exact hS.2.1 q h1 h2, fun q hq => by
      rcases List.mem_append.mp hq with h | h
      · exact hS.2.2 q h
      · exact hA _ (hL q h)⟩ T' rfl X'
  exact ⟨t2, st t2 a1, b1⟩
end CWN
theorem Wn_blind {D : va_G} {cI cD : ClassId} {w0 : va_W} {sz : Nat} {as : List Value} : FrameBlind (va_Pc as (Wn D cI cD w0 sz)) :=
  fun a U g mk q => ⟨q.1, q.2.1, q.2.2.1, va_K.moved (u := U) (U := U.calling g mk a) (Vm.Alike.refl U.vm) q.2.2.2.1, q.2.2.2.2.1, NwC.same (u := U) (U := U.calling g mk a) rfl q.2.2.2.2.2⟩
def MIp (own : String) (idx : Nat) (y : MethodName) (b : ByteArray) (mL : Nat) : Prop := Cond.methodLink own idx y ∈ gw ∧ Cond.instanceMethod y ∈ gw ∧ Cond.initialized y.cls ∈ gw ∧ Cond.code y b mL none ∈ gw ∧ MLd y 0 ∧ y.name = "<init>"
def MIn (own : String) (idx : Nat) (y : MethodName) (b : ByteArray) (mL : Nat) : Prop := (∀ s : State, NwC s → va_Nw (.methodLinkNest own idx y RX6) s) ∧ Cond.instanceMethod y ∈ gw ∧ Cond.initialized y.cls ∈ gw ∧ Cond.code y b mL none ∈ gw ∧ MLd y 0 ∧ y.name = "<init>"
theorem N_callI {G : Gn} {cI cD : ClassId} {nL : Nat} {pc : Nat} {ls : List (Nat × Value)} {stk : List Value} {ws : va_W} {cs sl : Nat} {cc : ByteArray} {own : String} {fr lo mc ms : Nat} (hO : OkN G cI cD cc nL own fr lo mc ms) {idx : Nat} {y : MethodName} {b : ByteArray} {mL fr2 lo2 mc2 ms2 : Nat} {wr w0 : va_W} {wp : (Nat → Nat) → va_W} {ws2 : (Nat → Nat) → va_W} {a : Nat} (hL : MIp own idx y b mL) (hC : CtN y b mL fr2 lo2 mc2 ms2 cI cD [.ref a] w0 wp) (hw0 : ws = wr ++ w0) (hW : (stk.map fun v => v.category).sum ≤ 8) (hR : fr2 + 1 ≤ fr ∧ 8 + (mL + 11) + lo2 ≤ lo) (h8 : cs + mc2 ≤ mc) (h9 : sl + ms2 ≤ ms) (hw : ∀ f, wr ++ wp f = ws2 f) (d : decode cc pc = .ok (.invokespecial idx, 3)) (k : ∀ f, N G nL (pc + 3) ls stk (ws2 f) (cs + mc2) (sl + ms2)) : N G nL pc ls (.ref a :: stk) ws cs sl := by
  obtain ⟨p, l, e, R, s, m, args, below, meth, c, D, A, Q⟩ := G
  obtain ⟨hx, hb, hml, hown, hts, hK, hnw, hAz, ⟨hR1, hR2⟩, ⟨hR3, hR4⟩⟩ := hO
  obtain ⟨a1, a2, a4, a5, ⟨a6, a7, a8⟩, a9⟩ := hL
  intro H locs la hP hD hS hl
  subst hw0
  have hM := hC l D H.size
  refine va_callN (A1 := va_A w0 H.size) (va_runI (As := []) (rest := stk) (b := a) (bytes := b) (maxL := mL) (n := 0) ⟨hx, hb, hml, hown, hts⟩ hM ⟨⟨rfl, rfl, by rw [hR1]; exact hR.1, by rw [hR2]; exact hR.2, wsU_pay hts a5, List.mem_cons_self, hts _ a5, hts _ a4, ⟨a6, a7⟩, fun sig h => by rw [h] at a8; exact (Option.some.inj a8).symm, hts _ a1⟩, a9, hts _ a2⟩ ⟨Wn_blind, fun U hU hW2 => ⟨rfl, by rw [hU], by rw [hU]; exact end_P hP, va_K.moved hW2.alike hK, (end_D hD).weaken (fun _ _ _ _ => trivial), hnw.warm hW2⟩⟩ rfl rfl hl.1 rfl (lv_room hW) d ⟨by rw [hR3]; exact h8, by rw [hR4]; exact h9⟩)
    hS (end_F hD hS hAz) (fun f H1 locs1 hP1 hD1 hk1 hS1 => ?_)
  obtain ⟨g1, g2⟩ := end_join hP hD hk1 (end_F hD hS hAz) hP1 hD1
  rw [hw f] at g1 g2
  exact k f H1 locs1 la g1 g2 hS1 hl
theorem N_callIN {G : Gn} {cI cD : ClassId} {nL : Nat} {pc : Nat} {ls : List (Nat × Value)} {stk : List Value} {ws : va_W} {cs sl : Nat} {cc : ByteArray} {own : String} {fr lo mc ms : Nat} (hO : OkN G cI cD cc nL own fr lo mc ms) {idx : Nat} {y : MethodName} {b : ByteArray} {mL fr2 lo2 mc2 ms2 : Nat} {wr w0 : va_W} {wp : (Nat → Nat) → va_W} {ws2 : (Nat → Nat) → va_W} {a : Nat} (hL : MIn own idx y b mL) (hC : CtN y b mL fr2 lo2 mc2 ms2 cI cD [.ref a] w0 wp) (hw0 : ws = wr ++ w0) (hW : (stk.map fun v => v.category).sum ≤ 8) (hR : fr2 + 1 ≤ fr ∧ 8 + (mL + 11) + lo2 ≤ lo) (h8 : cs + mc2 ≤ mc) (h9 : sl + ms2 ≤ ms) (hw : ∀ f, wr ++ wp f = ws2 f) (d : decode cc pc = .ok (.invokespecial idx, 3)) (k : ∀ f, N G nL (pc + 3) ls stk (ws2 f) (cs + mc2) (sl + ms2)) : N G nL pc ls (.ref a :: stk) ws cs sl := by
  obtain ⟨p, l, e, R, s, m, args, below, meth, c, D, A, Q⟩ := G
  obtain ⟨hx, hb, hml, hown, hts, hK, hnw, hAz, ⟨hR1, hR2⟩, ⟨hR3, hR4⟩⟩ := hO
  obtain ⟨a1, a2, a4, a5, ⟨a6, a7, a8⟩, a9⟩ := hL
  intro H locs la hP hD hS hl
  subst hw0
  have hM := hC l D H.size
  refine va_callN (A1 := va_A w0 H.size) (va_runIN (As := []) (rest := stk) (b := a) (bytes := b) (maxL := mL) (n := 0) ⟨hx, hb, hml, hown, hts⟩ hM ⟨⟨⟨rfl, rfl, by rw [hR1]; exact hR.1, by rw [hR2]; exact hR.2, wsU_pay hts a5, List.mem_cons_self⟩, hts _ a5, hts _ a4, ⟨a6, a7⟩, fun sig h => by rw [h] at a8; exact (Option.some.inj a8).symm, va_Nw.use rfl (a1 s hnw)⟩, a9, hts _ a2⟩ ⟨Wn_blind, fun U hU hW2 => ⟨rfl, by rw [hU], by rw [hU]; exact end_P hP, va_K.moved hW2.alike hK, (end_D hD).weaken (fun _ _ _ _ => trivial), hnw.warm hW2⟩⟩ rfl rfl hl.1 rfl (lv_room hW) d ⟨by rw [hR3]; exact h8, by rw [hR4]; exact h9⟩)
    hS (end_F hD hS hAz) (fun f H1 locs1 hP1 hD1 hk1 hS1 => ?_)
  obtain ⟨g1, g2⟩ := end_join hP hD hk1 (end_F hD hS hAz) hP1 hD1
  rw [hw f] at g1 g2
  exact k f H1 locs1 la g1 g2 hS1 hl
theorem N_callV2 {G : Gn} {cI cD : ClassId} {nL : Nat} {pc : Nat} {ls : List (Nat × Value)} {stk : List Value} {ws : va_W} {cs sl : Nat} {cc : ByteArray} {own : String} {fr lo mc ms : Nat} (hO : OkN G cI cD cc nL own fr lo mc ms) {idx : Nat} {y : MethodName} {b : ByteArray} {mL fr2 lo2 mc2 ms2 : Nat} {wr w0 : va_W} {wp : (Nat → Nat) → va_W} {ws2 : (Nat → Nat) → va_W} {a : Nat} {v1 v2 : Int32} {ci : Nat} {fs : List Value} {qc : vw_C} (hL : MLv own idx y b mL none 2) (hC : CtN y b mL fr2 lo2 mc2 ms2 cI cD [.ref a, .int v1, .int v2] w0 wp) (hw0 : ws = wr ++ w0) (hW : (stk.map fun v => v.category).sum ≤ 8) (hR : fr2 + 1 ≤ fr ∧ 8 + (mL + 11) + lo2 ≤ lo) (h8 : cs + mc2 ≤ mc) (h9 : sl + ms2 ≤ ms) (hw : ∀ f, wr ++ wp f = ws2 f) (he : w0[0]? = some (a, .inr (ci, fs))) (hc : clz[ci]? = some qc) (hq : qc.1 = y.cls) (d : decode cc pc = .ok (.invokevirtual idx, 3)) (k : ∀ f, N G nL (pc + 3) ls stk (ws2 f) (cs + mc2) (sl + ms2)) : N G nL pc ls (.int v2 :: .int v1 :: .ref a :: stk) ws cs sl := by
  obtain ⟨p, l, e, R, s, m, args, below, meth, c, D, A, Q⟩ := G
  obtain ⟨hx, hb, hml, hown, hts, hK, hnw, hAz, ⟨hR1, hR2⟩, ⟨hR3, hR4⟩⟩ := hO
  obtain ⟨a1, a2, a3, a4, a5, a6, a7, a8⟩ := hL
  intro H locs la hP hD hS hl
  subst hw0
  have hM := hC l D H.size
  refine va_callN (A1 := va_A w0 H.size) (va_runV (As := [.int v1, .int v2]) (rest := stk) (b := a) (C := y.cls) (bytes := b) (maxL := mL) (ret := none) (n := 2) ⟨hx, hb, hml, hown, hts⟩ hM ⟨⟨rfl, rfl, by rw [hR1]; exact hR.1, by rw [hR2]; exact hR.2, wsU_pay hts a5, List.mem_cons_self, hts _ a5, hts _ a4, ⟨a6, a7⟩, fun sig h => by rw [h] at a8; exact (Option.some.inj a8).symm, hts _ a1⟩, hts _ a2, hts _ a3⟩ ⟨Wn_blind, by rw [← hq]; exact va_recv hK (end_P hP) hc he, fun U hU hW2 => ⟨rfl, by rw [hU], by rw [hU]; exact end_P hP, va_K.moved hW2.alike hK, (end_D hD).weaken (fun _ _ _ _ => trivial), hnw.warm hW2⟩⟩ rfl rfl hl.1 rfl (lv_room hW) d ⟨by rw [hR3]; exact h8, by rw [hR4]; exact h9⟩)
    hS (end_F hD hS hAz) (fun f H1 locs1 hP1 hD1 hk1 hS1 => ?_)
  obtain ⟨g1, g2⟩ := end_join hP hD hk1 (end_F hD hS hAz) hP1 hD1
  rw [hw f] at g1 g2
  exact k f H1 locs1 la g1 g2 hS1 hl
theorem ctN_of {y : MethodName} {b : ByteArray} {n fr lo mc ms : Nat} {cI cD : ClassId} {as : List Value} {w0 : va_W} {wp : (Nat → Nat) → va_W} {own : String} (hy : y.cls = own) (hplain : plainName y.cls = true) (hlen : (lg_sl as).length ≤ n) (h : ∀ G : Gn, OkN G cI cD b n own fr lo mc ms → RtN G wp mc ms → (y.name = "<init>" → InN G) → N G n 0 (lv_args 0 as) [] w0 0 0) : CtN y b n fr lo mc ms cI cD as w0 wp := by
  intro l D sz
  refine Met.ofW (cc := b) (maxL := n) (ret := none) hplain rfl ?_
  intro p e s m args below meth c s₁ B hml hv
  obtain ⟨rfl, hsz, hP, hK, hD, hnw⟩ := hv
  subst hsz
  have hts := atoms_spec (ws := wsU y b n none) B.pre
  have hl := lv_entry as (n := n) hlen
  rw [lg_entry_eq]
  exact h (p, l, e, _, s, m, as.toArray, below, meth, c, D, va_A w0 s.heap.size, MQ below (Qn D wp (va_A w0 s.heap.size)) as.toArray s mc ms (va_A w0 s.heap.size)) ⟨B.exec, B.bytes, hml, hy ▸ findClass_of_methodNamed B.named, fun w hw => hts w (List.mem_cons_of_mem _ hw), hK, hnw, fun q hq => Or.inr hq, ⟨rfl, rfl⟩, ⟨rfl, rfl⟩⟩ ⟨B.returns, B.notSynchronized, rfl⟩ (fun hn => (name_of_methodNamed B.named B.method).1.trans hn) s.heap [] _ hP hD.self va_S.rf hl
