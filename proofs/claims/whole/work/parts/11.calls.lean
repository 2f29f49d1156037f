def kI (σ : Hp) (x : Int32) : Option Rs := some (some (.int x), σ)
def kZ (σ : Hp) (x : Bool) : Option Rs := some (some (.int (b2i x)), σ)
def kJ (σ : Hp) (x : Int64) : Option Rs := some (some (.long x), σ)
def kOI (σ : Hp) (x : Option Int32) : Option Rs := x.map fun v => (some (.int v), σ)
def kOZ (σ : Hp) (x : Option Bool) : Option Rs := x.map fun v => (some (.int (b2i v)), σ)
def kOJ (σ : Hp) (x : Option Int64) : Option Rs := x.map fun v => (some (.long v), σ)
def kTI (x : Int32 × Hp) : Option Rs := some (some (.int x.1), x.2)
def kTZ (x : Bool × Hp) : Option Rs := some (some (.int (b2i x.1)), x.2)
def kTJ (x : Int64 × Hp) : Option Rs := some (some (.long x.1), x.2)
def kTV (x : Hp) : Option Rs := some (none, x)
def kSI (x : Option (Int32 × Hp)) : Option Rs := x.map fun q => (some (.int q.1), q.2)
def kSZ (x : Option (Bool × Hp)) : Option Rs := x.map fun q => (some (.int (b2i q.1)), q.2)
def kSJ (x : Option (Int64 × Hp)) : Option Rs := x.map fun q => (some (.long q.1), q.2)
def kSV (x : Option Hp) : Option Rs := x.map fun q => (none, q)
def lt {A B : Type} (a : A) (f : A → B) : B := f a
theorem lt_p {A B : Type} (a : A) (f : A → B) : lt a f = f a := Eq.trans (Eq.refl _) (Eq.refl _)
/-- behind a call that answers as ex says -/
def Kc {X : Type} (G : Gm) (α : Nat → Nat) (nL : Nat) (κ : X → Option Rs) (pc : Nat) (ls : List (Nat × Value)) (rest : List Value) (ex : Option Rs) (x : X) : Prop :=
  (ex = none → κ x = none) ∧ ∀ q, ex = some q → V G α nL κ pc ls (q.1.toList ++ rest) q.2 x
theorem kc_I {X : Type} {G : Gm} {α : Nat → Nat} {nL : Nat} {κ : X → Option Rs} {pc : Nat} {ls : List (Nat × Value)} {rest : List Value} {σ : Hp} {x : X} {v : Int32} (k : V G α nL κ pc ls (.int v :: rest) σ x) : Kc G α nL κ pc ls rest (kI σ v) x :=
  ⟨fun h => (by cases h), fun q h => (by cases h; exact k)⟩
theorem kc_OI {Y : Type} {G : Gm} {α : Nat → Nat} {nL : Nat} {κ : Option Y → Option Rs} {pc : Nat} {ls : List (Nat × Value)} {rest : List Value} {σ : Hp} {K : Int32 → Option Y} {fx : Option Int32} (hz : κ none = none) (k : ∀ v, V G α nL κ pc ls (.int v :: rest) σ (K v)) : Kc G α nL κ pc ls rest (kOI σ fx) (fx.bind K) := by
  cases fx with
  | none => exact ⟨fun _ => hz, fun q h => (by cases h)⟩
  | some v => exact ⟨fun h => (by cases h), fun q h => (by cases h; exact k v)⟩
theorem kc_TI {X : Type} {G : Gm} {α : Nat → Nat} {nL : Nat} {κ : X → Option Rs} {pc : Nat} {ls : List (Nat × Value)} {rest : List Value} {K : Int32 × Hp → X} {fx : Int32 × Hp} (k : ∀ q, V G α nL κ pc ls (.int q.1 :: rest) q.2 (K q)) : Kc G α nL κ pc ls rest (kTI fx) (lt fx K) :=
  ⟨fun h => (by cases h), fun q h => (by cases h; exact k fx)⟩
theorem kc_SI {Y : Type} {G : Gm} {α : Nat → Nat} {nL : Nat} {κ : Option Y → Option Rs} {pc : Nat} {ls : List (Nat × Value)} {rest : List Value} {K : Int32 × Hp → Option Y} {fx : Option (Int32 × Hp)} (hz : κ none = none) (k : ∀ q, V G α nL κ pc ls (.int q.1 :: rest) q.2 (K q)) : Kc G α nL κ pc ls rest (kSI fx) (fx.bind K) := by
  cases fx with
  | none => exact ⟨fun _ => hz, fun q h => (by cases h)⟩
  | some v => exact ⟨fun h => (by cases h), fun q h => (by cases h; exact k v)⟩
theorem kc_Z {X : Type} {G : Gm} {α : Nat → Nat} {nL : Nat} {κ : X → Option Rs} {pc : Nat} {ls : List (Nat × Value)} {rest : List Value} {σ : Hp} {x : X} {v : Bool} (k : V G α nL κ pc ls (.int (b2i v) :: rest) σ x) : Kc G α nL κ pc ls rest (kZ σ v) x :=
  ⟨fun h => (by cases h), fun q h => (by cases h; exact k)⟩
theorem kc_OZ {Y : Type} {G : Gm} {α : Nat → Nat} {nL : Nat} {κ : Option Y → Option Rs} {pc : Nat} {ls : List (Nat × Value)} {rest : List Value} {σ : Hp} {K : Bool → Option Y} {fx : Option Bool} (hz : κ none = none) (k : ∀ v, V G α nL κ pc ls (.int (b2i v) :: rest) σ (K v)) : Kc G α nL κ pc ls rest (kOZ σ fx) (fx.bind K) := by
  cases fx with
  | none => exact ⟨fun _ => hz, fun q h => (by cases h)⟩
  | some v => exact ⟨fun h => (by cases h), fun q h => (by cases h; exact k v)⟩
theorem kc_TZ {X : Type} {G : Gm} {α : Nat → Nat} {nL : Nat} {κ : X → Option Rs} {pc : Nat} {ls : List (Nat × Value)} {rest : List Value} {K : Bool × Hp → X} {fx : Bool × Hp} (k : ∀ q, V G α nL κ pc ls (.int (b2i q.1) :: rest) q.2 (K q)) : Kc G α nL κ pc ls rest (kTZ fx) (lt fx K) :=
  ⟨fun h => (by cases h), fun q h => (by cases h; exact k fx)⟩
theorem kc_SZ {Y : Type} {G : Gm} {α : Nat → Nat} {nL : Nat} {κ : Option Y → Option Rs} {pc : Nat} {ls : List (Nat × Value)} {rest : List Value} {K : Bool × Hp → Option Y} {fx : Option (Bool × Hp)} (hz : κ none = none) (k : ∀ q, V G α nL κ pc ls (.int (b2i q.1) :: rest) q.2 (K q)) : Kc G α nL κ pc ls rest (kSZ fx) (fx.bind K) := by
  cases fx with
  | none => exact ⟨fun _ => hz, fun q h => (by cases h)⟩
  | some v => exact ⟨fun h => (by cases h), fun q h => (by cases h; exact k v)⟩
theorem kc_J {X : Type} {G : Gm} {α : Nat → Nat} {nL : Nat} {κ : X → Option Rs} {pc : Nat} {ls : List (Nat × Value)} {rest : List Value} {σ : Hp} {x : X} {v : Int64} (k : V G α nL κ pc ls (.long v :: rest) σ x) : Kc G α nL κ pc ls rest (kJ σ v) x :=
  ⟨fun h => (by cases h), fun q h => (by cases h; exact k)⟩
theorem kc_OJ {Y : Type} {G : Gm} {α : Nat → Nat} {nL : Nat} {κ : Option Y → Option Rs} {pc : Nat} {ls : List (Nat × Value)} {rest : List Value} {σ : Hp} {K : Int64 → Option Y} {fx : Option Int64} (hz : κ none = none) (k : ∀ v, V G α nL κ pc ls (.long v :: rest) σ (K v)) : Kc G α nL κ pc ls rest (kOJ σ fx) (fx.bind K) := by
  cases fx with
  | none => exact ⟨fun _ => hz, fun q h => (by cases h)⟩
  | some v => exact ⟨fun h => (by cases h), fun q h => (by cases h; exact k v)⟩
theorem kc_TJ {X : Type} {G : Gm} {α : Nat → Nat} {nL : Nat} {κ : X → Option Rs} {pc : Nat} {ls : List (Nat × Value)} {rest : List Value} {K : Int64 × Hp → X} {fx : Int64 × Hp} (k : ∀ q, V G α nL κ pc ls (.long q.1 :: rest) q.2 (K q)) : Kc G α nL κ pc ls rest (kTJ fx) (lt fx K) :=
  ⟨fun h => (by cases h), fun q h => (by cases h; exact k fx)⟩
theorem kc_SJ {Y : Type} {G : Gm} {α : Nat → Nat} {nL : Nat} {κ : Option Y → Option Rs} {pc : Nat} {ls : List (Nat × Value)} {rest : List Value} {K : Int64 × Hp → Option Y} {fx : Option (Int64 × Hp)} (hz : κ none = none) (k : ∀ q, V G α nL κ pc ls (.long q.1 :: rest) q.2 (K q)) : Kc G α nL κ pc ls rest (kSJ fx) (fx.bind K) := by
  cases fx with
  | none => exact ⟨fun _ => hz, fun q h => (by cases h)⟩
  | some v => exact ⟨fun h => (by cases h), fun q h => (by cases h; exact k v)⟩
theorem kc_TV {X : Type} {G : Gm} {α : Nat → Nat} {nL : Nat} {κ : X → Option Rs} {pc : Nat} {ls : List (Nat × Value)} {rest : List Value} {K : Hp → X} {fx : Hp} (k : ∀ q, V G α nL κ pc ls rest q (K q)) : Kc G α nL κ pc ls rest (kTV fx) (lt fx K) :=
  ⟨fun h => (by cases h), fun q h => (by cases h; exact k fx)⟩
theorem kc_SV {Y : Type} {G : Gm} {α : Nat → Nat} {nL : Nat} {κ : Option Y → Option Rs} {pc : Nat} {ls : List (Nat × Value)} {rest : List Value} {K : Hp → Option Y} {fx : Option Hp} (hz : κ none = none) (k : ∀ q, V G α nL κ pc ls rest q (K q)) : Kc G α nL κ pc ls rest (kSV fx) (fx.bind K) := by
  cases fx with
  | none => exact ⟨fun _ => hz, fun q h => (by cases h)⟩
  | some v => exact ⟨fun h => (by cases h), fun q h => (by cases h; exact k v)⟩
def MLd (y : MethodName) (n : Nat) : Prop := y.cls ≠ "java/lang/invoke/MethodHandle" ∧ y.cls ≠ "java/lang/invoke/VarHandle" ∧ (parseMethodDescriptor y.desc).map (fun d => d.parameters.length) = some n
def MLv (own : String) (idx : Nat) (y : MethodName) (b : ByteArray) (mL : Nat) (ret : Option FieldType) (n : Nat) : Prop := Cond.methodLink own idx y ∈ gw ∧ Cond.instanceMethod y ∈ gw ∧ Cond.selects y.cls y y ∈ gw ∧ Cond.initialized y.cls ∈ gw ∧ Cond.code y b mL ret ∈ gw ∧ MLd y n
def MLs (own : String) (idx : Nat) (y : MethodName) (b : ByteArray) (mL : Nat) (ret : Option FieldType) (n : Nat) : Prop := Cond.methodLink own idx y ∈ gw ∧ Cond.static y ∈ gw ∧ Cond.initialized y.cls ∈ gw ∧ Cond.code y b mL ret ∈ gw ∧ MLd y n
def MLn (own : String) (idx : Nat) (y : MethodName) (host : String) (b : ByteArray) (mL : Nat) (ret : Option FieldType) (n : Nat) : Prop := (∀ s : State, Nwz s → va_Nw (.methodLinkNest own idx y host) s) ∧ Cond.static y ∈ gw ∧ Cond.initialized y.cls ∈ gw ∧ Cond.code y b mL ret ∈ gw ∧ MLd y n
theorem wsU_pay {y : MethodName} {b : ByteArray} {n : Nat} {ret : Option FieldType} {args : Array Value} {s : State} (hts : ∀ w ∈ gw, w.before args s = true) (hc : Cond.code y b n ret ∈ gw) : ∀ w ∈ wsU y b n ret, ∀ (a' : Array Value) (U : State), s.WarmedH U.vm → w.before a' U = true := by
  intro w hw a' U hW
  have h1 : w ∈ gw := by
    rcases List.mem_cons.mp hw with h | h
    · rw [h]; exact hc
    · exact h
  exact word_at hW (gw_good h1) (hts w h1)
theorem Wd_blind {D : va_G} {cI cD : ClassId} {α : Nat → Nat} {σ : Hp} {sz : Nat} {as : List Value} : FrameBlind (va_Pc as (Wd D cI cD α σ sz)) :=
  fun a U g mk q => ⟨q.1, q.2.1, q.2.2.1, va_K.moved (u := U) (U := U.calling g mk a) (Vm.Alike.refl U.vm) q.2.2.2.1, q.2.2.2.2.1, Nwz.same (u := U) (U := U.calling g mk a) rfl q.2.2.2.2.2⟩
section CW
variable {p : Program} {l : Launch} {e : Env} {R : Room} {s : State} {m : MethodId} {args : Array Value} {below : List Frame} {meth : Method} {c : Code} {H : Heap} {locs : List Loc} {cells9 slots : Nat} {Q : State → Prop}
theorem va_callw {pc : Nat} {ls : Array Slot} {rest st0 : List Value} {a : Array Value} {A0 A1 : Nat → Prop} {H0 : Heap} {D : va_G} {cI cD : ClassId} {α : Nat → Nat} {r : Rs} (hr : va_Run p l e R s m args below meth c H locs cells9 slots 0 0 (F0 m pc ls st0) rest (Qw D cI cD α A1 r a) A1) (hS : va_S A0 H0 H locs) (hA : ∀ q, A1 q → A0 q)
    (kk : ∀ (H1 : Heap) (locs1 : List Loc), va_P D clz (cells cI cD α r.2) H1 → va_S A0 H0 H1 locs1 → W p l e R s m args below meth c H1 locs1 cells9 slots Q (F0 m (pc + 3) ls (r.1.toList ++ rest))) : W p l e R s m args below meth c H locs cells9 slots Q (F0 m pc ls st0) := by
  intro T hT X
  obtain ⟨v, st₀, t, T', L, h0, X', hL, e1, e2, ⟨hv, hp, hz, hk⟩, st⟩ := hr T hT X
  obtain rfl : v = r.1 := by injection hv
  rw [h0] at hz hk
  obtain ⟨t2, a1, b1⟩ := kk T'.heap (locs ++ L) (by rw [e1]; exact hp)
    ⟨Nat.le_trans hS.1 (by rw [e1]; exact hz), fun q h1 h2 => by rw [e1, hk q (Nat.lt_of_lt_of_le h1 hS.1) (fun z => h2 (hA q z))]; exact hS.2.1 q h1 h2, fun q hq => by
      rcases List.mem_append.mp hq with h | h
      · exact hS.2.2 q h
      · exact hA _ (hL q h)⟩ T' rfl X'
  exact ⟨t2, st t2 a1, b1⟩
end CW
theorem V_callV {X : Type} {G : Gm} {α : Nat → Nat} {nL : Nat} {κ : X → Option Rs} {pc : Nat} {ls : List (Nat × Value)} {stk : List Value} {σ : Hp} {x : X} {cc : ByteArray} {own : String} {fr lo : Nat} (hO : Ok G α cc nL own fr lo) {idx : Nat} {y : MethodName} {b : ByteArray} {mL : Nat} {ret : Option FieldType} {n fr2 lo2 : Nat} {as rest : List Value} {ex : Option Rs} {kc ci : Nat} {fs : List Value} {qc : vw_C} (hL : MLv own idx y b mL ret n) (hC : Ct y b mL ret fr2 lo2 α (.ref (α kc) :: as) σ ex) (hk : kc < 73) (he : ∀ cI cD, cellE cI cD α σ kc = .inr (ci, fs)) (hc : clz[ci]? = some qc) (hq : qc.1 = y.cls) (hst : stk = as.reverse ++ .ref (α kc) :: rest) (hn : as.length = n) (hW : (rest.map fun v => v.category).sum ≤ 8) (hR : fr2 + 1 ≤ fr ∧ 8 + (mL + 11) + lo2 ≤ lo) (d : decode cc pc = .ok (.invokevirtual idx, 3)) (kk : Kc G α nL κ (pc + 3) ls rest ex x) : V G α nL κ pc ls stk σ x := by
  obtain ⟨p, l, e, R, s, m, args, below, meth, c, D, cI, cD, A, cs, sl, Qr⟩ := G
  obtain ⟨hx, hb, hml, hown, hts, hK, hinj, hnw, hAk, hAz, ⟨hR1, hR2⟩, hcs⟩ := hO
  obtain ⟨a1, a2, a3, a4, a5, a6, a7, a8⟩ := hL
  intro r hr H locs la hP hS hl
  cases hex : ex with
  | none =>
    rw [kk.1 hex] at hr
    cases hr
  | some q =>
    have hM := hC l D cI cD q hex H.size
    refine va_callw (A1 := AA α H.size) (r := q) (va_runV (As := as) (rest := rest) (C := y.cls) (bytes := b) (maxL := mL) (ret := ret) ⟨hx, hb, hml, hown, hts⟩ hM ⟨⟨rfl, rfl, by rw [hR1]; exact hR.1, by rw [hR2]; exact hR.2, wsU_pay hts a5, List.mem_cons_self, hts _ a5, hts _ a4, ⟨a6, a7⟩, fun sig h => by rw [h] at a8; exact (Option.some.inj a8).symm, hts _ a1⟩, hts _ a2, hts _ a3⟩ ⟨Wd_blind, by rw [← hq]; exact va_recv hK hP hc (by rw [cells_at hk, he]), fun U hU hW2 => ⟨rfl, by rw [hU], by rw [hU]; exact hP, va_K.moved hW2.alike hK, hinj, hnw.warm hW2⟩⟩ rfl hn (hl.1) hst (lv_room hW) d ⟨hcs.1, hcs.2⟩) hS (fun q hq => ?_) (fun H1 locs1 hP1 hS1 => kk.2 q hex r hr H1 locs1 la hP1 hS1 hl)
    rcases hq with ⟨k, hk9, rfl⟩ | h
    · exact hAk k hk9
    · exact hAz q (Nat.le_trans hS.1 h)
theorem V_callS {X : Type} {G : Gm} {α : Nat → Nat} {nL : Nat} {κ : X → Option Rs} {pc : Nat} {ls : List (Nat × Value)} {stk : List Value} {σ : Hp} {x : X} {cc : ByteArray} {own : String} {fr lo : Nat} (hO : Ok G α cc nL own fr lo) {idx : Nat} {y : MethodName} {b : ByteArray} {mL : Nat} {ret : Option FieldType} {n fr2 lo2 : Nat} {as rest : List Value} {ex : Option Rs} (hL : MLs own idx y b mL ret n) (hC : Ct y b mL ret fr2 lo2 α as σ ex) (hst : stk = as.reverse ++ rest) (hn : as.length = n) (hW : (rest.map fun v => v.category).sum ≤ 8) (hR : fr2 + 1 ≤ fr ∧ 8 + (mL + 11) + lo2 ≤ lo) (d : decode cc pc = .ok (.invokestatic idx, 3)) (kk : Kc G α nL κ (pc + 3) ls rest ex x) : V G α nL κ pc ls stk σ x := by
  obtain ⟨p, l, e, R, s, m, args, below, meth, c, D, cI, cD, A, cs, sl, Qr⟩ := G
  obtain ⟨hx, hb, hml, hown, hts, hK, hinj, hnw, hAk, hAz, ⟨hR1, hR2⟩, hcs⟩ := hO
  obtain ⟨a1, a2, a4, a5, a6, a7, a8⟩ := hL
  intro r hr H locs la hP hS hl
  cases hex : ex with
  | none =>
    rw [kk.1 hex] at hr
    cases hr
  | some q =>
    have hM := hC l D cI cD q hex H.size
    refine va_callw (A1 := AA α H.size) (r := q) (va_runS (As := as) (rest := rest) (bytes := b) (maxL := mL) (ret := ret) ⟨hx, hb, hml, hown, hts⟩ hM ⟨⟨rfl, rfl, by rw [hR1]; exact hR.1, by rw [hR2]; exact hR.2, wsU_pay hts a5, List.mem_cons_self, hts _ a5, hts _ a4, ⟨a6, a7⟩, fun sig h => by rw [h] at a8; exact (Option.some.inj a8).symm, hts _ a1⟩, hts _ a2⟩ ⟨Wd_blind, fun U hU hW2 => ⟨rfl, by rw [hU], by rw [hU]; exact hP, va_K.moved hW2.alike hK, hinj, hnw.warm hW2⟩⟩ rfl hn (hl.1) hst (lv_room hW) d ⟨hcs.1, hcs.2⟩) hS (fun q hq => ?_) (fun H1 locs1 hP1 hS1 => kk.2 q hex r hr H1 locs1 la hP1 hS1 hl)
    rcases hq with ⟨k, hk9, rfl⟩ | h
    · exact hAk k hk9
    · exact hAz q (Nat.le_trans hS.1 h)
theorem V_callN {X : Type} {G : Gm} {α : Nat → Nat} {nL : Nat} {κ : X → Option Rs} {pc : Nat} {ls : List (Nat × Value)} {stk : List Value} {σ : Hp} {x : X} {cc : ByteArray} {own : String} {fr lo : Nat} (hO : Ok G α cc nL own fr lo) {idx : Nat} {y : MethodName} {b : ByteArray} {mL : Nat} {ret : Option FieldType} {n fr2 lo2 : Nat} {as rest : List Value} {ex : Option Rs} {host : String} (hL : MLn own idx y host b mL ret n) (hC : Ct y b mL ret fr2 lo2 α as σ ex) (hst : stk = as.reverse ++ rest) (hn : as.length = n) (hW : (rest.map fun v => v.category).sum ≤ 8) (hR : fr2 + 1 ≤ fr ∧ 8 + (mL + 11) + lo2 ≤ lo) (d : decode cc pc = .ok (.invokestatic idx, 3)) (kk : Kc G α nL κ (pc + 3) ls rest ex x) : V G α nL κ pc ls stk σ x := by
  obtain ⟨p, l, e, R, s, m, args, below, meth, c, D, cI, cD, A, cs, sl, Qr⟩ := G
  obtain ⟨hx, hb, hml, hown, hts, hK, hinj, hnw, hAk, hAz, ⟨hR1, hR2⟩, hcs⟩ := hO
  obtain ⟨a1, a2, a4, a5, a6, a7, a8⟩ := hL
  intro r hr H locs la hP hS hl
  cases hex : ex with
  | none =>
    rw [kk.1 hex] at hr
    cases hr
  | some q =>
    have hM := hC l D cI cD q hex H.size
    refine va_callw (A1 := AA α H.size) (r := q) (va_runSN (As := as) (rest := rest) (bytes := b) (maxL := mL) (ret := ret) ⟨hx, hb, hml, hown, hts⟩ hM ⟨⟨⟨rfl, rfl, by rw [hR1]; exact hR.1, by rw [hR2]; exact hR.2, wsU_pay hts a5, List.mem_cons_self⟩, hts _ a5, hts _ a4, ⟨a6, a7⟩, fun sig h => by rw [h] at a8; exact (Option.some.inj a8).symm, va_Nw.use rfl (a1 s hnw)⟩, hts _ a2, trivial⟩ ⟨Wd_blind, fun U hU hW2 => ⟨rfl, by rw [hU], by rw [hU]; exact hP, va_K.moved hW2.alike hK, hinj, hnw.warm hW2⟩⟩ rfl hn (hl.1) hst (lv_room hW) d ⟨hcs.1, hcs.2⟩) hS (fun q hq => ?_) (fun H1 locs1 hP1 hS1 => kk.2 q hex r hr H1 locs1 la hP1 hS1 hl)
    rcases hq with ⟨k, hk9, rfl⟩ | h
    · exact hAk k hk9
    · exact hAz q (Nat.le_trans hS.1 h)
theorem mw_i : Cond.initialized "java/lang/Math" ∈ gw := gd 49 (by decide +kernel) (by decide +kernel)
theorem mw_maxs : Cond.static Lib.Math.max.name ∈ gw := gd 423 (by decide +kernel) (by decide +kernel)
theorem mw_mins : Cond.static Lib.Math.min.name ∈ gw := gd 416 (by decide +kernel) (by decide +kernel)
theorem mw_maxc : Cond.code Lib.Math.max.name Lib.Math.max.code 2 (some .int) ∈ gw := gd 424 rfl rfl
theorem mw_minc : Cond.code Lib.Math.min.name Lib.Math.min.code 2 (some .int) ∈ gw := gd 417 rfl rfl
theorem V_mmax {X : Type} {G : Gm} {α : Nat → Nat} {nL : Nat} {κ : X → Option Rs} {pc : Nat} {ls : List (Nat × Value)} {stk : List Value} {σ : Hp} {x : X} {cc : ByteArray} {own : String} {fr lo : Nat} (hO : Ok G α cc nL own fr lo) {idx : Nat} {a b : Int32} (h1 : Cond.methodLink own idx Lib.Math.max.name ∈ gw) (hW : (stk.map fun v => v.category).sum ≤ 8) (hR : 1 ≤ fr ∧ 21 ≤ lo) (d : decode cc pc = .ok (.invokestatic idx, 3)) (k : V G α nL κ (pc + 3) ls (.int (imax a b) :: stk) σ x) : V G α nL κ pc ls (.int b :: .int a :: stk) σ x := by
  obtain ⟨p, l, e, R, s, m, args, below, meth, c, D, cI, cD, A, cs, sl, Qr⟩ := G
  obtain ⟨hx, hb, hml, hown, hts, hK, hinj, hnw, hAk, hAz, ⟨hR1, hR2⟩, hcs⟩ := hO
  intro r hr H locs la hP hS hl
  exact va_mmax hx hb (hml.trans hl.1.symm) hown (hts _ h1) (hts _ mw_maxs) (hts _ mw_i) (hts _ mw_maxc) (by rw [hR1]; exact hR.1) (by rw [hR2]; omega) hcs.1 hcs.2 d (k r hr H locs la hP hS hl)
theorem V_mmin {X : Type} {G : Gm} {α : Nat → Nat} {nL : Nat} {κ : X → Option Rs} {pc : Nat} {ls : List (Nat × Value)} {stk : List Value} {σ : Hp} {x : X} {cc : ByteArray} {own : String} {fr lo : Nat} (hO : Ok G α cc nL own fr lo) {idx : Nat} {a b : Int32} (h1 : Cond.methodLink own idx Lib.Math.min.name ∈ gw) (hW : (stk.map fun v => v.category).sum ≤ 8) (hR : 1 ≤ fr ∧ 21 ≤ lo) (d : decode cc pc = .ok (.invokestatic idx, 3)) (k : V G α nL κ (pc + 3) ls (.int (imin a b) :: stk) σ x) : V G α nL κ pc ls (.int b :: .int a :: stk) σ x := by
  obtain ⟨p, l, e, R, s, m, args, below, meth, c, D, cI, cD, A, cs, sl, Qr⟩ := G
  obtain ⟨hx, hb, hml, hown, hts, hK, hinj, hnw, hAk, hAz, ⟨hR1, hR2⟩, hcs⟩ := hO
  intro r hr H locs la hP hS hl
  exact va_mmin hx hb (hml.trans hl.1.symm) hown (hts _ h1) (hts _ mw_mins) (hts _ mw_i) (hts _ mw_minc) (by rw [hR1]; exact hR.1) (by rw [hR2]; omega) hcs.1 hcs.2 d (k r hr H locs la hP hS hl)
theorem ct_of_V {X : Type} {y : MethodName} {b : ByteArray} {n : Nat} {ret : Option FieldType} {fr lo : Nat} {α : Nat → Nat} {as : List Value} {σ : Hp} {κ : X → Option Rs} {x : X} {own : String} (hy : y.cls = own) (hplain : plainName y.cls = true) (hlen : (lg_sl as).length ≤ n) (h : ∀ G : Gm, Ok G α b n own fr lo → Rt G α ret → V G α n κ 0 (lv_args 0 as) [] σ x) : Ct y b n ret fr lo α as σ (κ x) := by
  intro l D cI cD r hr sz
  refine Met.ofW (cc := b) (maxL := n) (ret := ret) hplain rfl ?_
  intro p e s m args below meth c s₁ B hml hv
  obtain ⟨rfl, hsz, hP, hK, hinj, hnw⟩ := hv
  subst hsz
  have hts := atoms_spec (ws := wsU y b n ret) B.pre
  have hl := lv_entry as (n := n) hlen
  rw [lg_entry_eq]
  exact h (p, l, e, _, s, m, as.toArray, below, meth, c, D, cI, cD, AA α s.heap.size, 0, 0, fun r => MQ below (Qw D cI cD α (AA α s.heap.size) r) as.toArray s 0 0 (AA α s.heap.size)) ⟨B.exec, B.bytes, hml, hy ▸ findClass_of_methodNamed B.named, fun w hw => hts w (List.mem_cons_of_mem _ hw), hK, hinj, hnw, fun k hk => Or.inl ⟨k, hk, rfl⟩, fun q hq => Or.inr hq, ⟨rfl, rfl⟩, ⟨Nat.zero_le _, Nat.zero_le _⟩⟩ ⟨B.returns, B.notSynchronized, rfl, rfl, rfl⟩ r hr s.heap [] _ hP va_S.rf hl
