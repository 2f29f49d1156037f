def R_law : String := "NamesOnIceLaw"
def lw_P (b : Addr) (xs : List Int32) (args : Array Value) (s : State) : Prop := args = #[.ref b] ∧ s.IntsAt b xs ∧ xs.length ≤ 3584 ∧ (Jvm.Cond.and given_1 narrow_1).before args s = true
def lw_Q (_ : Array Value) (s : State) (o : Outcome) (t : State) : Prop := o = .returned (some (.int 1)) ∧ Framed s o t [] 600000 7302250
def lw_Z (below : List Frame) (a : Array Value) (s : State) : State → Prop := fun t => ∃ o, t.status = .running ∧ Ended t below o ∧ lw_Q a s o t
/-- the law's own end, with 1 on the stack, nothing written that was there before, its room as the claim has it -/
theorem lw_ret {p : Program} {l : Launch} {e : Env} {s : State} {m : MethodId} {below : List Frame} {meth : Method} {c : Code} {b : Nat} (hx : p.tables.exec = Jvm.exec) (hb : c.code = code) (hr : meth.sig.returnType = ret) (hlocks : meth.locks = false) {pc : Nat} {H : Heap} {ls : Array Slot} (hdg : decode code pc = .ok (.ireturn, 1)) : W p l e room_1 s m #[Value.ref b] below meth c H [] 600000 7302250 (lw_Z below #[Value.ref b] s) (F0 m pc ls [.int 1]) := by
  intro T hT X
  obtain ⟨fs, hret, hrun, hended, hW, hframe⟩ := X.leave (v := some (.int 1)) (hlocks := hlocks) (fun h => by rw [hr] at h; cases h)
  have hmeth' : T.vm.method? m = some meth := X.method'
  refine ⟨T.setFrames fs, ?_, .returned (some (.int 1)), hrun, hended, rfl, ⟨_, rfl⟩, hW, hframe⟩
  jvm_step X.here [X.here.top, hx, hb, hdg, hmeth', hr, ret, narrow_b1]
  (try refine ⟨rfl, ?_⟩); (try refine ⟨rfl, ?_⟩)
  first | (intro acts; rw [hret _ acts rfl rfl rfl]) | rw [hret _ _ rfl rfl rfl]
  exact Steps.refl _
/-- what holds at the law's entry: the machine, the code, the tables' words (any of lw_tbl by 'hts w (by decide +kernel)'), the script of L ints xs at the cell b, what the Statement gives of the start (any of its parts by flat_of_before) -/
def lw_At (p : Program) (s : State) (m : MethodId) (meth : Method) (c : Code) (b L : Nat) (xs : Nat → Int32) : Prop :=
  p.tables.exec = Jvm.exec ∧ c.code = code ∧ meth.sig.returnType = ret ∧ c.maxLocals = 4 ∧ s.vm.findClass R_law = some m.cls ∧ (∀ w ∈ lw_tbl, w.before #[Value.ref b] s = true) ∧ va_X b L xs s s.heap ∧ b < s.heap.size ∧ meth.locks = false ∧ (Jvm.Cond.and given_1 narrow_1).before #[Value.ref b] s = true
/-- what the law has beside the worlds: the script, and its own end -/
def Lx (G : Gm) (b L : Nat) (xs : Nat → Int32) : Prop :=
  match G with
  | (_, _, _, R, s, m, args, below, meth, _, _, _, _, A, cs, sl, Qr) =>
    va_X b L xs s s.heap ∧ b < s.heap.size ∧ ¬ A b ∧ R = room_1 ∧ args = #[Value.ref b] ∧ meth.sig.returnType = ret ∧ meth.locks = false ∧ cs ≤ 600000 ∧ sl ≤ 7302250 ∧ (∀ q, A q → s.heap.size ≤ q) ∧ Qr = fun _ => lw_Z below #[Value.ref b] s
def kL (x : Option Unit) : Option Rs := x.map fun _ => (none, (fun _ _ => 0, 0))
theorem V_sld {X : Type} {G : Gm} {α : Nat → Nat} {nL : Nat} {κ : X → Option Rs} {pc : Nat} {ls : List (Nat × Value)} {stk : List Value} {σ : Hp} {x : X} {cc : ByteArray} {own : String} {fr lo b L : Nat} {xs : Nat → Int32} (hO : Ok G α cc nL own fr lo) (hR : Lx G b L xs) {i : Int32} (hin : vp_in i L) (d : decode cc pc = .ok (.iaload, 1)) (k : V G α nL κ (pc + 1) ls (.int (xs i.toNatClampNeg) :: stk) σ x) : V G α nL κ pc ls (.int i :: .ref b :: stk) σ x := by
  obtain ⟨p, l, e, R, s, m, args, below, meth, c, D, cI, cD, A, cs, sl, Qr⟩ := G
  obtain ⟨hx, hb, hml, hown, hts, hK, hinj, hnw, hAk, hAz, hRR, hcs⟩ := hO
  obtain ⟨q1, q2, q3, q4, q5, q6, q7, q8, q9, q10, q11⟩ := hR
  intro r hr H locs la hP hS hl
  exact va_sld hx hb q1 q2 q3 hS hin d (k r hr H locs la hP hS hl)
theorem V_slen {X : Type} {G : Gm} {α : Nat → Nat} {nL : Nat} {κ : X → Option Rs} {pc : Nat} {ls : List (Nat × Value)} {stk : List Value} {σ : Hp} {x : X} {cc : ByteArray} {own : String} {fr lo b L : Nat} {xs : Nat → Int32} (hO : Ok G α cc nL own fr lo) (hR : Lx G b L xs) (d : decode cc pc = .ok (.arraylength, 1)) (k : V G α nL κ (pc + 1) ls (.int (Int32.ofNat L) :: stk) σ x) : V G α nL κ pc ls (.ref b :: stk) σ x := by
  obtain ⟨p, l, e, R, s, m, args, below, meth, c, D, cI, cD, A, cs, sl, Qr⟩ := G
  obtain ⟨hx, hb, hml, hown, hts, hK, hinj, hnw, hAk, hAz, hRR, hcs⟩ := hO
  obtain ⟨q1, q2, q3, q4, q5, q6, q7, q8, q9, q10, q11⟩ := hR
  intro r hr H locs la hP hS hl
  exact va_slen hx hb q1 q2 q3 hS d (k r hr H locs la hP hS hl)
theorem V_lawret {G : Gm} {α : Nat → Nat} {nL : Nat} {pc : Nat} {ls : List (Nat × Value)} {σ : Hp}  {own : String} {fr lo b L : Nat} {xs : Nat → Int32} (hO : Ok G α code nL own fr lo) (hR : Lx G b L xs) (d : decode code pc = .ok (.ireturn, 1)) : V G α nL kL pc ls [.int 1] σ (some ()) := by
  obtain ⟨p, l, e, R, s, m, args, below, meth, c, D, cI, cD, A, cs, sl, Qr⟩ := G
  obtain ⟨hx, hb, hml, hown, hts, hK, hinj, hnw, hAk, hAz, hRR, hcs⟩ := hO
  obtain ⟨q1, q2, q3, q4, q5, q6, q7, q8, q9, q10, q11⟩ := hR
  intro r hr H locs la hP hS hl
  subst q4; subst q5; subst q11
  refine va_forget (fun q hq => q10 _ (hS.2.2 q hq)) ?_
  refine W.widen (k := 600000) (n := 7302250) q8 q9 ?_
  exact lw_ret hx hb q6 q7 d
