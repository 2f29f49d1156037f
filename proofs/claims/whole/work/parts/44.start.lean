/-- the start of both systems -/
def sg0 : Hp := (fun c k => if c = 30 then (if k = 0 then 3 else if k = 1 then 9 else 0) else if c = 33 then 10 else if c = 55 then (if k = 0 then 3 else if k = 1 then 3 else if k = 24 then (-1) else 0) else if c = 56 then 10 else 0, 0)
def al (f g : Nat → Nat) (x m : Nat) : Nat → Nat := fun k => if k < 54 then f k else if k = 54 then x else if k = 55 then m else g (k - 56)
theorem N_toV {G : Gn} {cI cD : ClassId} {α : Nat → Nat} {ws : va_W} {cs sl b L : Nat} {xs : Nat → Int32} (hO : OkN G cI cD code 4 RL 9 320 600000 7302250) (hn : match G with | (_, _, _, _, s, _, _, _, _, _, _, _, _) => Nwz s) (hX : match G with | (_, _, _, R, s, _, args, below, meth, _, _, A, Q) => va_X b L xs s s.heap ∧ b < s.heap.size ∧ ¬ A b ∧ R = room_1 ∧ args = #[Value.ref b] ∧ meth.sig.returnType = ret ∧ meth.locks = false ∧ (∀ q, A q → s.heap.size ≤ q) ∧ Q = lw_Z below #[Value.ref b] s) (h8 : cs ≤ 600000) (h9 : sl ≤ 7302250) (hw : ws = cells cI cD α sg0) (hF : F_L_law_18 xs L fuel 0 sg0 = some ()) : N G 4 18 [(0, .ref b), (1, .ref (α 54)), (2, .ref (α 55)), (3, .int 0)] [] ws cs sl := by
  obtain ⟨p, l, e, R, s, m, args, below, meth, c, D, A, Q⟩ := G
  obtain ⟨hx, hb, hml, hown, hts, hK, hnw, hAz, ⟨hR1, hR2⟩, ⟨hR3, hR4⟩⟩ := hO
  obtain ⟨q1, q2, q3, q4, q5, q6, q7, q8, q9⟩ := hX
  intro H locs la hP hD hS hl
  subst hw
  have hinj : Inj α := fun i j hi hj h => hD.1 i j _ _ (cells_at hi) (cells_at hj) h
  have hAk : ∀ k, k < 73 → A (α k) := fun k hk => hD.2 k _ (cells_at hk)
  have hV := T_L_law_18 (G := (p, l, e, R, s, m, args, below, meth, c, D, cI, cD, A, cs, sl, fun _ => Q)) (α := α) (b := b) (L := L) (xs := xs) ⟨hx, hb, hml, hown, hts, hK, hinj, hn, hAk, hAz, ⟨hR1, hR2⟩, ⟨by rw [hR3]; exact h8, by rw [hR4]; exact h9⟩⟩ ⟨q1, q2, q3, q4, q5, q6, q7, h8, h9, q8, by rw [q9]⟩ fuel 0 sg0
  exact hV (none, (fun _ _ => 0, 0)) (by rw [hF]; rfl) H locs la hP hS hl
theorem cl_L_7 : Cond.classLink RL 7 RX6 ∈ gw := gd 51 (by decide +kernel) (by decide +kernel)
theorem it_X6 : Cond.instantiable RX6 9 ∈ gw := gd 52 (by decide +kernel) (by decide +kernel)
theorem dv_X6 : ∀ j, j < 9 → defaultValue (tyX6 j) = vp_V [.null, .null, .null, .null, .null, .null, .null, .int 0, .int 0] j := by decide +kernel
set_option maxRecDepth 40000 in
theorem mk_X6_init : Cond.code yX6_init cX6_init 1 none ∈ gw := gd 55 rfl rfl
theorem cl_L_10 : Cond.classLink RL 10 RX7 ∈ gw := gd 622 (by decide +kernel) (by decide +kernel)
theorem it_X7 : Cond.instantiable RX7 31 ∈ gw := gd 623 (by decide +kernel) (by decide +kernel)
theorem dv_X7 : ∀ j, j < 31 → defaultValue (tyX7 j) = vp_V [.int 0, .int 0, .int 0, .null, .null, .int 0, .int 0, .null, .null, .int 0, .int 0, .int 0, .null, .null, .int 0, .null, .null, .null, .null, .null, .null, .null, .null, .int 0, .int 0, .int 0, .int 0, .null, .null, .null, .long 0] j := by decide +kernel
set_option maxRecDepth 40000 in
theorem mk_X7_init : Cond.code yX7_init cX7_init 2 none ∈ gw := gd 626 rfl rfl
theorem mj_L_9 : MIp RL 9 yX6_init cX6_init 1 := ⟨gd 53 (by decide +kernel) (by decide +kernel), gd 54 (by decide +kernel) (by decide +kernel), ii_X6, mk_X6_init, ⟨by decide +kernel, by decide +kernel, by decide +kernel⟩, rfl⟩
theorem mj_L_12 : MIp RL 12 yX7_init cX7_init 2 := ⟨gd 624 (by decide +kernel) (by decide +kernel), gd 625 (by decide +kernel) (by decide +kernel), ii_X7, mk_X7_init, ⟨by decide +kernel, by decide +kernel, by decide +kernel⟩, rfl⟩
theorem in_nw1 : nw1 ∈ lw_tbl := List.mem_of_getElem? (i := 418) (by decide +kernel)
theorem in_nw2 : nw2 ∈ lw_tbl := List.mem_of_getElem? (i := 444) (by decide +kernel)
theorem in_nc1 : nc1 ∈ lw_tbl := List.mem_of_getElem? (i := 143) (by decide +kernel)
theorem in_nc2 : nc2 ∈ lw_tbl := List.mem_of_getElem? (i := 158) (by decide +kernel)
theorem in_nc3 : nc3 ∈ lw_tbl := List.mem_of_getElem? (i := 182) (by decide +kernel)
theorem in_nc4 : nc4 ∈ lw_tbl := List.mem_of_getElem? (i := 209) (by decide +kernel)
theorem in_nc5 : nc5 ∈ lw_tbl := List.mem_of_getElem? (i := 68) (by decide +kernel)
theorem in_ao : Cond.arrayOver (.object RX0) ∈ lw_tbl := List.mem_of_getElem? (i := 66) (by decide +kernel)
theorem gw_sub {w : Cond} (h : w ∈ gw) : w ∈ lw_tbl := (List.mem_filter.mp h).1
theorem iq_X0 : Cond.instantiable RX0 8 ∈ gw := gd 67 (by decide +kernel) (by decide +kernel)
theorem iq_X1 : Cond.instantiable RX1 6 ∈ gw := gd 181 (by decide +kernel) (by decide +kernel)
theorem iq_X2 : Cond.instantiable RX2 2 ∈ gw := gd 142 (by decide +kernel) (by decide +kernel)
theorem iq_X3 : Cond.instantiable RX3 3 ∈ gw := gd 208 (by decide +kernel) (by decide +kernel)
theorem iq_X4 : Cond.instantiable RX4 5 ∈ gw := gd 157 (by decide +kernel) (by decide +kernel)
theorem iq_X5 : Cond.instantiable RX5 7 ∈ gw := gd 60 (by decide +kernel) (by decide +kernel)
theorem iq_X6 : Cond.instantiable RX6 9 ∈ gw := it_X6
theorem iq_X7 : Cond.instantiable RX7 31 ∈ gw := it_X7
theorem N_lsub {G : Gn} {nL pc : Nat} {ls ls2 : List (Nat × Value)} {stk : List Value} {ws : va_W} {cs sl : Nat} (ks : List Nat) (h : lv_pick ls ks = ls2) (k : N G nL pc ls2 stk ws cs sl) : N G nL pc ls stk ws cs sl := by
  obtain ⟨p, l, e, R, s, m, args, below, meth, c, D, A, Q⟩ := G
  intro H locs la hP hD hS hl
  exact k H locs la hP hD hS (lv_sub hl ks h)
set_option maxHeartbeats 8000000 in
set_option maxRecDepth 100000 in
theorem N_law {G : Gn} {cI cD : ClassId} {b L : Nat} {xs : Nat → Int32} (hO : OkN G cI cD code 4 RL 9 320 600000 7302250) (hnz : match G with | (_, _, _, _, s, _, _, _, _, _, _, _, _) => Nwz s) (hX : match G with | (_, _, _, R, s, _, args, below, meth, _, _, A, Q) => va_X b L xs s s.heap ∧ b < s.heap.size ∧ ¬ A b ∧ R = room_1 ∧ args = #[Value.ref b] ∧ meth.sig.returnType = ret ∧ meth.locks = false ∧ (∀ q, A q → s.heap.size ≤ q) ∧ Q = lw_Z below #[Value.ref b] s) (hF : F_L_law_18 xs L fuel 0 sg0 = some ()) : N G 4 0 [(0, .ref b)] [] [] 0 0 := by
  refine N_new hO (ci := 6) (NN := 9) (C := RX6) (T := TX6) (ty := tyX6) (fs := [.null, .null, .null, .null, .null, .null, .null, .int 0, .int 0]) (ws2 := fun x => [(x, .inr (6, [.null, .null, .null, .null, .null, .null, .null, .int 0, .int 0]))]) rfl iw_X6 tyX6_ok cl_L_7 it_X6 ii_X6 dv_X6 (by decide) (by decide) (fun _ => rfl) dL_law_0 (fun x => ?_)
  refine N_dup hO dL_law_3 rfl ?_
  refine N_callI hO mj_L_9 (K_X6_init cI cD x) (wr := []) (ws2 := fun f => wX6 cI cD x f) rfl (Nat.le_of_ble_eq_true rfl) ⟨by decide, by decide⟩ (by decide) (by decide) (fun _ => rfl) dL_law_4 (fun f => ?_)
  refine N_astore_n hO (ls2 := [(1, .ref x), (0, .ref b)]) dL_law_7 rfl (by decide) rfl ?_
  refine N_new hO (ci := 7) (NN := 31) (C := RX7) (T := TX7) (ty := tyX7) (fs := [.int 0, .int 0, .int 0, .null, .null, .int 0, .int 0, .null, .null, .int 0, .int 0, .int 0, .null, .null, .int 0, .null, .null, .null, .null, .null, .null, .null, .null, .int 0, .int 0, .int 0, .int 0, .null, .null, .null, .long 0]) (ws2 := fun m9 => wX6 cI cD x f ++ [(m9, .inr (7, [.int 0, .int 0, .int 0, .null, .null, .int 0, .int 0, .null, .null, .int 0, .int 0, .int 0, .null, .null, .int 0, .null, .null, .null, .null, .null, .null, .null, .null, .int 0, .int 0, .int 0, .int 0, .null, .null, .null, .long 0]))]) rfl iw_X7 tyX7_ok cl_L_10 it_X7 ii_X7 dv_X7 (by decide) (by decide) (fun _ => rfl) dL_law_8 (fun m9 => ?_)
  refine N_dup hO dL_law_11 rfl ?_
  refine N_callI hO mj_L_12 (K_X7_init cI cD m9) (wr := wX6 cI cD x f) (ws2 := fun g => wX6 cI cD x f ++ wX7 cI m9 g) rfl (Nat.le_of_ble_eq_true rfl) ⟨by decide, by decide⟩ (by decide) (by decide) (fun _ => rfl) dL_law_12 (fun g => ?_)
  refine N_astore_n hO (ls2 := [(2, .ref m9), (1, .ref x), (0, .ref b)]) dL_law_15 rfl (by decide) rfl ?_
  refine N_iconst hO 0 dL_law_16 (by decide) ?_
  refine N_istore_n hO (ls2 := [(3, .int 0), (2, .ref m9), (1, .ref x), (0, .ref b)]) dL_law_17 rfl (by decide) rfl ?_
  refine N_conv 36 (ws2 := [((f 0), dz), ((f 1), dz), ((f 2), dz), ((f 3), dz), ((f 4), dz), ((f 5), dz), ((f 6), dz), ((f 7), dz), ((f 8), dz), ((f 9), dz), ((f 10), dz), ((f 11), dz), ((f 12), dz), ((f 13), dz), ((f 14), dz), ((f 15), dz), ((f 16), dz), ((f 17), dz), ((f 18), dz), ((f 19), dz), ((f 20), dz), ((f 21), dz), ((f 22), dz), ((f 23), dz), ((f 24), dz), ((f 25), dz), ((f 26), dz), ((f 27), dz), ((f 28), dz), ((f 29), dz), ((f 30), .inr (5, [.int 3, .int 9, .int 0, .int 0, .int 0, .ref (f 33), .ref (f 36)])), ((f 31), .inr (5, [.int 0, .int 0, .int 0, .int 0, .int 0, .ref (f 34), .ref (f 37)])), ((f 32), .inr (5, [.int 0, .int 0, .int 0, .int 0, .int 0, .ref (f 35), .ref (f 38)])), ((f 33), .inl (cI, 16, .inl (fun _ => 10))), ((f 34), az cI 16), ((f 35), az cI 16), ((f 36), .inl (cD, 10, .inr (.inr (.inr (.inr (fun i => some (al f g x m9 (10 * 0 + i)))))))), ((f 37), .inl (cD, 10, .inr (.inr (.inr (.inr (fun i => some (f (10 * 1 + i)))))))), ((f 38), .inl (cD, 10, .inr (.inr (.inr (.inr (fun i => some (f (10 * 2 + i)))))))), ((f 39), .inr (2, [.ref (f 40), .int 0])), ((f 40), az cI 24), ((f 41), .inr (4, [.ref (f 42), .ref (f 43), .ref (f 44), .ref (f 45), .int 0])), ((f 42), az cI 16), ((f 43), az cI 16), ((f 44), az cI 16), ((f 45), az cI 16), ((f 46), .inr (1, [.int 0, .int 0, .int 0, .ref (f 47), .ref (f 48), .ref (f 49)])), ((f 47), az cI 10), ((f 48), az cI 10), ((f 49), az cI 1024), ((f 50), .inr (3, [.ref (f 51), .ref (f 52), .ref (f 53)])), ((f 51), az cI 6), ((f 52), az cI 64), ((f 53), az cI 64), (x, .inr (6, [.ref (f 30), .ref (f 31), .ref (f 32), .ref (f 39), .ref (f 41), .ref (f 46), .ref (f 50), .int 0, .int 0]))] ++ wX7 cI m9 g) rfl (fun i hi => by unfold al; rw [if_pos (by omega)]) rfl ?_
  refine N_conv 37 (ws2 := [((f 0), dz), ((f 1), dz), ((f 2), dz), ((f 3), dz), ((f 4), dz), ((f 5), dz), ((f 6), dz), ((f 7), dz), ((f 8), dz), ((f 9), dz), ((f 10), dz), ((f 11), dz), ((f 12), dz), ((f 13), dz), ((f 14), dz), ((f 15), dz), ((f 16), dz), ((f 17), dz), ((f 18), dz), ((f 19), dz), ((f 20), dz), ((f 21), dz), ((f 22), dz), ((f 23), dz), ((f 24), dz), ((f 25), dz), ((f 26), dz), ((f 27), dz), ((f 28), dz), ((f 29), dz), ((f 30), .inr (5, [.int 3, .int 9, .int 0, .int 0, .int 0, .ref (f 33), .ref (f 36)])), ((f 31), .inr (5, [.int 0, .int 0, .int 0, .int 0, .int 0, .ref (f 34), .ref (f 37)])), ((f 32), .inr (5, [.int 0, .int 0, .int 0, .int 0, .int 0, .ref (f 35), .ref (f 38)])), ((f 33), .inl (cI, 16, .inl (fun _ => 10))), ((f 34), az cI 16), ((f 35), az cI 16), ((f 36), .inl (cD, 10, .inr (.inr (.inr (.inr (fun i => some (al f g x m9 (10 * 0 + i)))))))), ((f 37), .inl (cD, 10, .inr (.inr (.inr (.inr (fun i => some (al f g x m9 (10 * 1 + i)))))))), ((f 38), .inl (cD, 10, .inr (.inr (.inr (.inr (fun i => some (f (10 * 2 + i)))))))), ((f 39), .inr (2, [.ref (f 40), .int 0])), ((f 40), az cI 24), ((f 41), .inr (4, [.ref (f 42), .ref (f 43), .ref (f 44), .ref (f 45), .int 0])), ((f 42), az cI 16), ((f 43), az cI 16), ((f 44), az cI 16), ((f 45), az cI 16), ((f 46), .inr (1, [.int 0, .int 0, .int 0, .ref (f 47), .ref (f 48), .ref (f 49)])), ((f 47), az cI 10), ((f 48), az cI 10), ((f 49), az cI 1024), ((f 50), .inr (3, [.ref (f 51), .ref (f 52), .ref (f 53)])), ((f 51), az cI 6), ((f 52), az cI 64), ((f 53), az cI 64), (x, .inr (6, [.ref (f 30), .ref (f 31), .ref (f 32), .ref (f 39), .ref (f 41), .ref (f 46), .ref (f 50), .int 0, .int 0]))] ++ wX7 cI m9 g) rfl (fun i hi => by unfold al; rw [if_pos (by omega)]) rfl ?_
  refine N_conv 38 (ws2 := [((f 0), dz), ((f 1), dz), ((f 2), dz), ((f 3), dz), ((f 4), dz), ((f 5), dz), ((f 6), dz), ((f 7), dz), ((f 8), dz), ((f 9), dz), ((f 10), dz), ((f 11), dz), ((f 12), dz), ((f 13), dz), ((f 14), dz), ((f 15), dz), ((f 16), dz), ((f 17), dz), ((f 18), dz), ((f 19), dz), ((f 20), dz), ((f 21), dz), ((f 22), dz), ((f 23), dz), ((f 24), dz), ((f 25), dz), ((f 26), dz), ((f 27), dz), ((f 28), dz), ((f 29), dz), ((f 30), .inr (5, [.int 3, .int 9, .int 0, .int 0, .int 0, .ref (f 33), .ref (f 36)])), ((f 31), .inr (5, [.int 0, .int 0, .int 0, .int 0, .int 0, .ref (f 34), .ref (f 37)])), ((f 32), .inr (5, [.int 0, .int 0, .int 0, .int 0, .int 0, .ref (f 35), .ref (f 38)])), ((f 33), .inl (cI, 16, .inl (fun _ => 10))), ((f 34), az cI 16), ((f 35), az cI 16), ((f 36), .inl (cD, 10, .inr (.inr (.inr (.inr (fun i => some (al f g x m9 (10 * 0 + i)))))))), ((f 37), .inl (cD, 10, .inr (.inr (.inr (.inr (fun i => some (al f g x m9 (10 * 1 + i)))))))), ((f 38), .inl (cD, 10, .inr (.inr (.inr (.inr (fun i => some (al f g x m9 (10 * 2 + i)))))))), ((f 39), .inr (2, [.ref (f 40), .int 0])), ((f 40), az cI 24), ((f 41), .inr (4, [.ref (f 42), .ref (f 43), .ref (f 44), .ref (f 45), .int 0])), ((f 42), az cI 16), ((f 43), az cI 16), ((f 44), az cI 16), ((f 45), az cI 16), ((f 46), .inr (1, [.int 0, .int 0, .int 0, .ref (f 47), .ref (f 48), .ref (f 49)])), ((f 47), az cI 10), ((f 48), az cI 10), ((f 49), az cI 1024), ((f 50), .inr (3, [.ref (f 51), .ref (f 52), .ref (f 53)])), ((f 51), az cI 6), ((f 52), az cI 64), ((f 53), az cI 64), (x, .inr (6, [.ref (f 30), .ref (f 31), .ref (f 32), .ref (f 39), .ref (f 41), .ref (f 46), .ref (f 50), .int 0, .int 0]))] ++ wX7 cI m9 g) rfl (fun i hi => by unfold al; rw [if_pos (by omega)]) rfl ?_
  refine N_lsub [3, 2, 1, 0] rfl ?_
  exact N_toV (α := al f g x m9) hO hnz hX (by decide) (by decide) rfl hF
set_option maxHeartbeats 4000000 in
set_option maxRecDepth 100000 in
theorem start_of {p : Program} {e : Env} {s : State} {m : MethodId} {below : List Frame} {meth : Method} {c : Code} (l : Launch) {b L : Nat} {xs : Nat → Int32} (hF : F_L_law_18 xs L fuel 0 sg0 = some ()) (C0 : lw_At p s m meth c b L xs) : W p l e room_1 s m #[Value.ref b] below meth c s.heap [] 0 0 (lw_Z below #[Value.ref b] s) (entryFrame m ([Value.ref b] : List Value).toArray 4) := by
  obtain ⟨hx, hb, hr, hml, hown, hts, hX, hbl, hlocks, hgv⟩ := C0
  obtain ⟨c0, i0, hKn0⟩ := u_known (C := RX0) (T := TX0) (N := 8) (n := 8) hts (fun w h => gw_sub (iw_X0 w h)) (hts _ (gw_sub iq_X0))
  obtain ⟨c1, i1, hKn1⟩ := u_known (C := RX1) (T := TX1) (N := 6) (n := 6) hts (fun w h => gw_sub (iw_X1 w h)) (hts _ (gw_sub iq_X1))
  obtain ⟨c2, i2, hKn2⟩ := u_known (C := RX2) (T := TX2) (N := 2) (n := 2) hts (fun w h => gw_sub (iw_X2 w h)) (hts _ (gw_sub iq_X2))
  obtain ⟨c3, i3, hKn3⟩ := u_known (C := RX3) (T := TX3) (N := 3) (n := 3) hts (fun w h => gw_sub (iw_X3 w h)) (hts _ (gw_sub iq_X3))
  obtain ⟨c4, i4, hKn4⟩ := u_known (C := RX4) (T := TX4) (N := 5) (n := 5) hts (fun w h => gw_sub (iw_X4 w h)) (hts _ (gw_sub iq_X4))
  obtain ⟨c5, i5, hKn5⟩ := u_known (C := RX5) (T := TX5) (N := 7) (n := 7) hts (fun w h => gw_sub (iw_X5 w h)) (hts _ (gw_sub iq_X5))
  obtain ⟨c6, i6, hKn6⟩ := u_known (C := RX6) (T := TX6) (N := 9) (n := 9) hts (fun w h => gw_sub (iw_X6 w h)) (hts _ (gw_sub iq_X6))
  obtain ⟨c7, i7, hKn7⟩ := u_known (C := RX7) (T := TX7) (N := 31) (n := 31) hts (fun w h => gw_sub (iw_X7 w h)) (hts _ (gw_sub iq_X7))
  obtain ⟨cI, kI9, compI, hI1, hI2, hI3⟩ := Cond.arrayClass_spec (hts _ (gw_sub ow_a))
  obtain ⟨compD, cD, kD, hD1, hD2, hD3, hD4, hD5⟩ := Cond.arrayOver_spec (hts _ in_ao)
  have hKc : ∀ (k : Nat) (q : vw_C), clz[k]? = some q → u_Kn s q.1 q.2.1 q.2.2 ((fun k => if k = 0 then c0 else if k = 1 then c1 else if k = 2 then c2 else if k = 3 then c3 else if k = 4 then c4 else if k = 5 then c5 else if k = 6 then c6 else c7) k) ((fun k => if k = 0 then i0 else if k = 1 then i1 else if k = 2 then i2 else if k = 3 then i3 else if k = 4 then i4 else if k = 5 then i5 else if k = 6 then i6 else i7) k) := by
    intro k q hq
    match k, hq with
    | 0, hq => cases hq; exact hKn0
    | 1, hq => cases hq; exact hKn1
    | 2, hq => cases hq; exact hKn2
    | 3, hq => cases hq; exact hKn3
    | 4, hq => cases hq; exact hKn4
    | 5, hq => cases hq; exact hKn5
    | 6, hq => cases hq; exact hKn6
    | 7, hq => cases hq; exact hKn7
    | k + 8, hq => simp [clz] at hq
  have hK : va_K (fun k => if k = 0 then c0 else if k = 1 then c1 else if k = 2 then c2 else if k = 3 then c3 else if k = 4 then c4 else if k = 5 then c5 else if k = 6 then c6 else c7, fun k => if k = 0 then i0 else if k = 1 then i1 else if k = 2 then i2 else if k = 3 then i3 else if k = 4 then i4 else if k = 5 then i5 else if k = 6 then i6 else i7) clz (tyz cI cD) s := by
    refine ⟨hKc, fun k q h => ?_⟩
    match k, h with
    | 0, h => cases h; exact ⟨fun n z => ⟨(fun k h => by cases h), kI9, hI2, compI, hI3⟩, hI1⟩
    | 1, h => cases h; exact ⟨fun n z => ⟨(fun k h => by cases h), kD, hD3, compD, hD4⟩, kD, compD, hD3, hD4, hD1, hD5⟩
    | k + 2, h => simp [tyz] at h
  have hl := lv_entry ([.ref b]) (n := 4) (Nat.le_of_ble_eq_true rfl)
  rw [lg_entry_eq]
  exact N_law (G := (p, l, e, room_1, s, m, #[Value.ref b], below, meth, c, (fun k => if k = 0 then c0 else if k = 1 then c1 else if k = 2 then c2 else if k = 3 then c3 else if k = 4 then c4 else if k = 5 then c5 else if k = 6 then c6 else c7, fun k => if k = 0 then i0 else if k = 1 then i1 else if k = 2 then i2 else if k = 3 then i3 else if k = 4 then i4 else if k = 5 then i5 else if k = 6 then i6 else i7), fun q => s.heap.size ≤ q, lw_Z below #[Value.ref b] s)) (cI := cI) (cD := cD) (b := b) (L := L) (xs := xs) ⟨hx, hb, hml, hown, fun w h => hts w (gw_sub h), hK, ⟨va_AO.of (hts _ in_ao), va_Nw.of rfl (hts _ in_nc1), va_Nw.of rfl (hts _ in_nc2), va_Nw.of rfl (hts _ in_nc3), va_Nw.of rfl (hts _ in_nc4), va_Nw.of rfl (hts _ in_nc5)⟩, fun _ h => h, ⟨rfl, rfl⟩, ⟨rfl, rfl⟩⟩ ⟨va_Nw.of rfl (hts _ in_nw1), va_Nw.of rfl (hts _ in_nw2)⟩ ⟨hX, hbl, Nat.not_le.mpr hbl, rfl, rfl, hr, hlocks, fun _ h => h, rfl⟩ hF s.heap [] _ (fun k q h => by simp at h) ⟨fun i j p q h => by simp at h, fun k q h => by simp at h⟩ va_S.rf hl
