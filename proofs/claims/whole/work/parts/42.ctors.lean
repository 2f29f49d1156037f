def dz : va_E := .inr (0, [.int 0, .int 0, .int 0, .int 0, .int 0, .int 0, .int 0, .int 0])
def az (cI : ClassId) (n : Nat) : va_E := .inl (cI, n, .inl (fun _ => 0))
def wTh (cI : ClassId) (q : Nat) (f : Nat → Nat) : va_W := [(q, .inr (5, [.int 0, .int 0, .int 0, .int 0, .int 0, .ref (f 0), .ref (f 1)])), (f 0, az cI 16)]
def wTr (cD : ClassId) (f : Nat → Nat) : va_W := (f 1, .inl (cD, 10, .inr (.inr (.inr (.inr (fun i => some (f (2 + i)))))))) :: [(f 2, dz), (f 3, dz), (f 4, dz), (f 5, dz), (f 6, dz), (f 7, dz), (f 8, dz), (f 9, dz), (f 10, dz), (f 11, dz)]
def wT (cI cD : ClassId) (q : Nat) (f : Nat → Nat) : va_W := wTh cI q f ++ wTr cD f
def wTb (cI : ClassId) (q : Nat) (f : Nat → Nat) : va_W := [(q, .inr (5, [.int 3, .int 9, .int 0, .int 0, .int 0, .ref (f 0), .ref (f 1)])), (f 0, .inl (cI, 16, .inl (fun _ => 10)))]
theorem all16 {f : Nat → Int32} (h : (List.range 16).all (fun i => decide (f i = 10)) = true) : ∀ i, i < 16 → f i = 10 := fun i hi => of_decide_eq_true (List.all_eq_true.mp h i (List.mem_range.mpr hi))
def wX2 (cI : ClassId) (h0 : Nat) (f : Nat → Nat) : va_W := [(h0, .inr (2, [.ref (f 0), .int 0])), (f 0, az cI 24)]
set_option maxHeartbeats 8000000 in
set_option maxRecDepth 100000 in
theorem K_X2_init (cI cD : ClassId) (h0 : Nat) : CtN yX2_init cX2_init 1 1 12 1 24 cI cD [.ref h0] [(h0, .inr (2, [.null, .int 0]))] (wX2 cI h0) := ctN_of (own := RX2) rfl (by decide +kernel) (Nat.le_of_ble_eq_true rfl) (by
  intro G hO hR hI
  show N G 1 0 [(0, .ref h0)] [] [(h0, .inr (2, [.null, .int 0]))] 0 0
  refine N_aload_n hO 0 dX2_init_0 rfl rfl ?_
  refine N_obj hO fo_X2 (by decide) (Nat.le_of_ble_eq_true rfl) dX2_init_1 ?_
  refine N_aload_n hO 0 dX2_init_4 rfl rfl ?_
  refine N_bipush hO 24 dX2_init_5 (by decide) ?_
  refine N_newa hO (NN := 24) (ws2 := fun q0 => [(h0, .inr (2, [.null, .int 0])), (q0, az cI 24)]) (by decide) (by decide) (by decide) ow_a (by decide) (by decide) (fun _ => rfl) dX2_init_7 (fun q0 => ?_)
  refine N_putF hO (kp := 0) (ws2 := [(h0, .inr (2, [.ref q0, .int 0])), (q0, az cI 24)]) (hI rfl) ff_X2_9 rfl rfl rfl (Nat.le_of_ble_eq_true rfl) rfl dX2_init_9 ?_
  exact N_ret hO (fun k => [q0].getD k 0) hR rfl (by decide) (by decide) dX2_init_12)
def wX4 (cI : ClassId) (h0 : Nat) (f : Nat → Nat) : va_W := [(h0, .inr (4, [.ref (f 0), .ref (f 1), .ref (f 2), .ref (f 3), .int 0])), (f 0, az cI 16), (f 1, az cI 16), (f 2, az cI 16), (f 3, az cI 16)]
set_option maxHeartbeats 8000000 in
set_option maxRecDepth 100000 in
theorem K_X4_init (cI cD : ClassId) (h0 : Nat) : CtN yX4_init cX4_init 1 1 12 4 64 cI cD [.ref h0] [(h0, .inr (4, [.null, .null, .null, .null, .int 0]))] (wX4 cI h0) := ctN_of (own := RX4) rfl (by decide +kernel) (Nat.le_of_ble_eq_true rfl) (by
  intro G hO hR hI
  show N G 1 0 [(0, .ref h0)] [] [(h0, .inr (4, [.null, .null, .null, .null, .int 0]))] 0 0
  refine N_aload_n hO 0 dX4_init_0 rfl rfl ?_
  refine N_obj hO fo_X4 (by decide) (Nat.le_of_ble_eq_true rfl) dX4_init_1 ?_
  refine N_aload_n hO 0 dX4_init_4 rfl rfl ?_
  refine N_bipush hO 16 dX4_init_5 (by decide) ?_
  refine N_newa hO (NN := 16) (ws2 := fun q0 => [(h0, .inr (4, [.null, .null, .null, .null, .int 0])), (q0, az cI 16)]) (by decide) (by decide) (by decide) ow_a (by decide) (by decide) (fun _ => rfl) dX4_init_7 (fun q0 => ?_)
  refine N_putF hO (kp := 0) (ws2 := [(h0, .inr (4, [.ref q0, .null, .null, .null, .int 0])), (q0, az cI 16)]) (hI rfl) ff_X4_9 rfl rfl rfl (Nat.le_of_ble_eq_true rfl) rfl dX4_init_9 ?_
  refine N_aload_n hO 0 dX4_init_12 rfl rfl ?_
  refine N_bipush hO 16 dX4_init_13 (by decide) ?_
  refine N_newa hO (NN := 16) (ws2 := fun q1 => [(h0, .inr (4, [.ref q0, .null, .null, .null, .int 0])), (q0, az cI 16), (q1, az cI 16)]) (by decide) (by decide) (by decide) ow_a (by decide) (by decide) (fun _ => rfl) dX4_init_15 (fun q1 => ?_)
  refine N_putF hO (kp := 0) (ws2 := [(h0, .inr (4, [.ref q0, .ref q1, .null, .null, .int 0])), (q0, az cI 16), (q1, az cI 16)]) (hI rfl) ff_X4_15 rfl rfl rfl (Nat.le_of_ble_eq_true rfl) rfl dX4_init_17 ?_
  refine N_aload_n hO 0 dX4_init_20 rfl rfl ?_
  refine N_bipush hO 16 dX4_init_21 (by decide) ?_
  refine N_newa hO (NN := 16) (ws2 := fun q2 => [(h0, .inr (4, [.ref q0, .ref q1, .null, .null, .int 0])), (q0, az cI 16), (q1, az cI 16), (q2, az cI 16)]) (by decide) (by decide) (by decide) ow_a (by decide) (by decide) (fun _ => rfl) dX4_init_23 (fun q2 => ?_)
  refine N_putF hO (kp := 0) (ws2 := [(h0, .inr (4, [.ref q0, .ref q1, .ref q2, .null, .int 0])), (q0, az cI 16), (q1, az cI 16), (q2, az cI 16)]) (hI rfl) ff_X4_18 rfl rfl rfl (Nat.le_of_ble_eq_true rfl) rfl dX4_init_25 ?_
  refine N_aload_n hO 0 dX4_init_28 rfl rfl ?_
  refine N_bipush hO 16 dX4_init_29 (by decide) ?_
  refine N_newa hO (NN := 16) (ws2 := fun q3 => [(h0, .inr (4, [.ref q0, .ref q1, .ref q2, .null, .int 0])), (q0, az cI 16), (q1, az cI 16), (q2, az cI 16), (q3, az cI 16)]) (by decide) (by decide) (by decide) ow_a (by decide) (by decide) (fun _ => rfl) dX4_init_31 (fun q3 => ?_)
  refine N_putF hO (kp := 0) (ws2 := [(h0, .inr (4, [.ref q0, .ref q1, .ref q2, .ref q3, .int 0])), (q0, az cI 16), (q1, az cI 16), (q2, az cI 16), (q3, az cI 16)]) (hI rfl) ff_X4_21 rfl rfl rfl (Nat.le_of_ble_eq_true rfl) rfl dX4_init_33 ?_
  exact N_ret hO (fun k => [q0, q1, q2, q3].getD k 0) hR rfl (by decide) (by decide) dX4_init_36)
def wX1 (cI : ClassId) (h0 : Nat) (f : Nat → Nat) : va_W := [(h0, .inr (1, [.int 0, .int 0, .int 0, .ref (f 0), .ref (f 1), .ref (f 2)])), (f 0, az cI 10), (f 1, az cI 10), (f 2, az cI 1024)]
set_option maxHeartbeats 8000000 in
set_option maxRecDepth 100000 in
theorem K_X1_init (cI cD : ClassId) (h0 : Nat) : CtN yX1_init cX1_init 1 1 12 3 1044 cI cD [.ref h0] [(h0, .inr (1, [.int 0, .int 0, .int 0, .null, .null, .null]))] (wX1 cI h0) := ctN_of (own := RX1) rfl (by decide +kernel) (Nat.le_of_ble_eq_true rfl) (by
  intro G hO hR hI
  show N G 1 0 [(0, .ref h0)] [] [(h0, .inr (1, [.int 0, .int 0, .int 0, .null, .null, .null]))] 0 0
  refine N_aload_n hO 0 dX1_init_0 rfl rfl ?_
  refine N_obj hO fo_X1 (by decide) (Nat.le_of_ble_eq_true rfl) dX1_init_1 ?_
  refine N_aload_n hO 0 dX1_init_4 rfl rfl ?_
  refine N_bipush hO 10 dX1_init_5 (by decide) ?_
  refine N_newa hO (NN := 10) (ws2 := fun q0 => [(h0, .inr (1, [.int 0, .int 0, .int 0, .null, .null, .null])), (q0, az cI 10)]) (by decide) (by decide) (by decide) ow_a (by decide) (by decide) (fun _ => rfl) dX1_init_7 (fun q0 => ?_)
  refine N_putF hO (kp := 0) (ws2 := [(h0, .inr (1, [.int 0, .int 0, .int 0, .ref q0, .null, .null])), (q0, az cI 10)]) (hI rfl) ff_X1_9 rfl rfl rfl (Nat.le_of_ble_eq_true rfl) rfl dX1_init_9 ?_
  refine N_aload_n hO 0 dX1_init_12 rfl rfl ?_
  refine N_bipush hO 10 dX1_init_13 (by decide) ?_
  refine N_newa hO (NN := 10) (ws2 := fun q1 => [(h0, .inr (1, [.int 0, .int 0, .int 0, .ref q0, .null, .null])), (q0, az cI 10), (q1, az cI 10)]) (by decide) (by decide) (by decide) ow_a (by decide) (by decide) (fun _ => rfl) dX1_init_15 (fun q1 => ?_)
  refine N_putF hO (kp := 0) (ws2 := [(h0, .inr (1, [.int 0, .int 0, .int 0, .ref q0, .ref q1, .null])), (q0, az cI 10), (q1, az cI 10)]) (hI rfl) ff_X1_15 rfl rfl rfl (Nat.le_of_ble_eq_true rfl) rfl dX1_init_17 ?_
  refine N_aload_n hO 0 dX1_init_20 rfl rfl ?_
  refine N_sipush hO 1024 dX1_init_21 (by decide) ?_
  refine N_newa hO (NN := 1024) (ws2 := fun q2 => [(h0, .inr (1, [.int 0, .int 0, .int 0, .ref q0, .ref q1, .null])), (q0, az cI 10), (q1, az cI 10), (q2, az cI 1024)]) (by decide) (by decide) (by decide) ow_a (by decide) (by decide) (fun _ => rfl) dX1_init_24 (fun q2 => ?_)
  refine N_putF hO (kp := 0) (ws2 := [(h0, .inr (1, [.int 0, .int 0, .int 0, .ref q0, .ref q1, .ref q2])), (q0, az cI 10), (q1, az cI 10), (q2, az cI 1024)]) (hI rfl) ff_X1_18 rfl rfl rfl (Nat.le_of_ble_eq_true rfl) rfl dX1_init_26 ?_
  exact N_ret hO (fun k => [q0, q1, q2].getD k 0) hR rfl (by decide) (by decide) dX1_init_29)
def wX3 (cI : ClassId) (h0 : Nat) (f : Nat → Nat) : va_W := [(h0, .inr (3, [.ref (f 0), .ref (f 1), .ref (f 2)])), (f 0, az cI 6), (f 1, az cI 64), (f 2, az cI 64)]
set_option maxHeartbeats 8000000 in
set_option maxRecDepth 100000 in
theorem K_X3_init (cI cD : ClassId) (h0 : Nat) : CtN yX3_init cX3_init 1 1 12 3 134 cI cD [.ref h0] [(h0, .inr (3, [.null, .null, .null]))] (wX3 cI h0) := ctN_of (own := RX3) rfl (by decide +kernel) (Nat.le_of_ble_eq_true rfl) (by
  intro G hO hR hI
  show N G 1 0 [(0, .ref h0)] [] [(h0, .inr (3, [.null, .null, .null]))] 0 0
  refine N_aload_n hO 0 dX3_init_0 rfl rfl ?_
  refine N_obj hO fo_X3 (by decide) (Nat.le_of_ble_eq_true rfl) dX3_init_1 ?_
  refine N_aload_n hO 0 dX3_init_4 rfl rfl ?_
  refine N_bipush hO 6 dX3_init_5 (by decide) ?_
  refine N_newa hO (NN := 6) (ws2 := fun q0 => [(h0, .inr (3, [.null, .null, .null])), (q0, az cI 6)]) (by decide) (by decide) (by decide) ow_a (by decide) (by decide) (fun _ => rfl) dX3_init_7 (fun q0 => ?_)
  refine N_putF hO (kp := 0) (ws2 := [(h0, .inr (3, [.ref q0, .null, .null])), (q0, az cI 6)]) (hI rfl) ff_X3_9 rfl rfl rfl (Nat.le_of_ble_eq_true rfl) rfl dX3_init_9 ?_
  refine N_aload_n hO 0 dX3_init_12 rfl rfl ?_
  refine N_bipush hO 64 dX3_init_13 (by decide) ?_
  refine N_newa hO (NN := 64) (ws2 := fun q1 => [(h0, .inr (3, [.ref q0, .null, .null])), (q0, az cI 6), (q1, az cI 64)]) (by decide) (by decide) (by decide) ow_a (by decide) (by decide) (fun _ => rfl) dX3_init_15 (fun q1 => ?_)
  refine N_putF hO (kp := 0) (ws2 := [(h0, .inr (3, [.ref q0, .ref q1, .null])), (q0, az cI 6), (q1, az cI 64)]) (hI rfl) ff_X3_15 rfl rfl rfl (Nat.le_of_ble_eq_true rfl) rfl dX3_init_17 ?_
  refine N_aload_n hO 0 dX3_init_20 rfl rfl ?_
  refine N_bipush hO 64 dX3_init_21 (by decide) ?_
  refine N_newa hO (NN := 64) (ws2 := fun q2 => [(h0, .inr (3, [.ref q0, .ref q1, .null])), (q0, az cI 6), (q1, az cI 64), (q2, az cI 64)]) (by decide) (by decide) (by decide) ow_a (by decide) (by decide) (fun _ => rfl) dX3_init_23 (fun q2 => ?_)
  refine N_putF hO (kp := 0) (ws2 := [(h0, .inr (3, [.ref q0, .ref q1, .ref q2])), (q0, az cI 6), (q1, az cI 64), (q2, az cI 64)]) (hI rfl) ff_X3_18 rfl rfl rfl (Nat.le_of_ble_eq_true rfl) rfl dX3_init_25 ?_
  exact N_ret hO (fun k => [q0, q1, q2].getD k 0) hR rfl (by decide) (by decide) dX3_init_28)
set_option maxHeartbeats 8000000 in
set_option maxRecDepth 100000 in
theorem K_X0_init (cI cD : ClassId) (h0 : Nat) : CtN yX0_init cX0_init 1 1 12 0 0 cI cD [.ref h0] [(h0, dz)] (fun _ => [(h0, dz)]) := ctN_of (own := RX0) rfl (by decide +kernel) (Nat.le_of_ble_eq_true rfl) (by
  intro G hO hR hI
  show N G 1 0 [(0, .ref h0)] [] [(h0, dz)] 0 0
  refine N_aload_n hO 0 dX0_init_0 rfl rfl ?_
  refine N_obj hO fo_X0 (by decide) (Nat.le_of_ble_eq_true rfl) dX0_init_1 ?_
  exact N_ret hO (fun k => k) hR rfl (by decide) (by decide) dX0_init_4)
set_option maxHeartbeats 8000000 in
set_option maxRecDepth 100000 in
theorem K_X5_init (cI cD : ClassId) (h0 : Nat) : CtN yX5_init cX5_init 2 2 32 12 106 cI cD [.ref h0] [(h0, .inr (5, [.int 0, .int 0, .int 0, .int 0, .int 0, .null, .null]))] (wT cI cD h0) := ctN_of (own := RX5) rfl (by decide +kernel) (Nat.le_of_ble_eq_true rfl) (by
  intro G hO hR hI
  show N G 2 0 [(0, .ref h0)] [] [(h0, .inr (5, [.int 0, .int 0, .int 0, .int 0, .int 0, .null, .null]))] 0 0
  refine N_aload_n hO 0 dX5_init_0 rfl rfl ?_
  refine N_obj hO fo_X5 (by decide) (Nat.le_of_ble_eq_true rfl) dX5_init_1 ?_
  refine N_aload_n hO 0 dX5_init_4 rfl rfl ?_
  refine N_bipush hO 16 dX5_init_5 (by decide) ?_
  refine N_newa hO (NN := 16) (ws2 := fun qi => [(h0, .inr (5, [.int 0, .int 0, .int 0, .int 0, .int 0, .null, .null])), (qi, az cI 16)]) (by decide) (by decide) (by decide) ow_a (by decide) (by decide) (fun _ => rfl) dX5_init_7 (fun qi => ?_)
  refine N_putF hO (kp := 0) (ws2 := [(h0, .inr (5, [.int 0, .int 0, .int 0, .int 0, .int 0, .ref qi, .null])), (qi, az cI 16)]) (hI rfl) ff_X5_9 rfl rfl rfl (Nat.le_of_ble_eq_true rfl) rfl dX5_init_9 ?_
  refine N_aload_n hO 0 dX5_init_12 rfl rfl ?_
  refine N_bipush hO 10 dX5_init_13 (by decide) ?_
  refine N_newq hO (NN := 10) (ws2 := fun qd => [(h0, .inr (5, [.int 0, .int 0, .int 0, .int 0, .int 0, .ref qi, .null])), (qi, az cI 16), (qd, .inl (cD, 10, .inr (.inr (.inr (.inr (fun _ => none))))))]) (by decide) (by decide) (by decide) cl_X5_15 (by decide) (by decide) (fun _ => rfl) dX5_init_15 (fun qd => ?_)
  refine N_putF hO (kp := 0) (ws2 := [(h0, .inr (5, [.int 0, .int 0, .int 0, .int 0, .int 0, .ref qi, .ref qd])), (qi, az cI 16), (qd, .inl (cD, 10, .inr (.inr (.inr (.inr (fun _ => none))))))]) (hI rfl) ff_X5_17 rfl rfl rfl (Nat.le_of_ble_eq_true rfl) rfl dX5_init_18 ?_
  refine N_iconst hO 0 dX5_init_21 (by decide) ?_
  refine N_istore_n hO (ls2 := [(1, .int 0), (0, .ref h0)]) dX5_init_22 rfl (by decide) rfl ?_
  refine N_iload_n hO 0 dX5_init_23 rfl rfl ?_
  refine N_bipush hO 10 dX5_init_24 (by decide) ?_
  refine N_geF hO 48 dX5_init_26 (by decide) (by decide) ?_
  refine N_aload_n hO 1 dX5_init_29 rfl rfl ?_
  refine N_get hO (kp := 0) (v := .ref qd) fg_X5_17 rfl rfl dX5_init_30 ?_
  refine N_iload_n hO 0 dX5_init_33 rfl rfl ?_
  refine N_new hO (ci := 0) (NN := 8) (C := RX0) (T := TX0) (ty := tyX0) (fs := [.int 0, .int 0, .int 0, .int 0, .int 0, .int 0, .int 0, .int 0]) (ws2 := fun d0 => [(h0, .inr (5, [.int 0, .int 0, .int 0, .int 0, .int 0, .ref qi, .ref qd])), (qi, az cI 16), (qd, .inl (cD, 10, .inr (.inr (.inr (.inr (fun _ => none)))))), (d0, dz)]) rfl iw_X0 tyX0_ok cl_X5_15 it_X0 ii_X0 dv_X0 (by decide) (by decide) (fun _ => rfl) dX5_init_34 (fun d0 => ?_)
  refine N_dup hO dX5_init_37 rfl ?_
  refine N_callIN hO mj_X5_21 (K_X0_init cI cD d0) (wr := [(h0, .inr (5, [.int 0, .int 0, .int 0, .int 0, .int 0, .ref qi, .ref qd])), (qi, az cI 16), (qd, .inl (cD, 10, .inr (.inr (.inr (.inr (fun _ => none))))))]) (ws2 := fun _ => [(h0, .inr (5, [.int 0, .int 0, .int 0, .int 0, .int 0, .ref qi, .ref qd])), (qi, az cI 16), (qd, .inl (cD, 10, .inr (.inr (.inr (.inr (fun _ => none)))))), (d0, dz)]) rfl (Nat.le_of_ble_eq_true rfl) ⟨by decide, by decide⟩ (by decide) (by decide) (fun _ => rfl) dX5_init_38 (fun _ => ?_)
  refine N_aast hO (kp := 2) (kv := 3) (ws2 := [(h0, .inr (5, [.int 0, .int 0, .int 0, .int 0, .int 0, .ref qi, .ref qd])), (qi, az cI 16), (qd, .inl (cD, 10, .inr (.inr (.inr (.inr (va_up (fun _ => none) (Int32.toNatClampNeg 0) (some d0))))))), (d0, dz)]) rfl rfl (inb_in (by decide)) rfl dX5_init_41 ?_
  refine N_iinc hO (ls2 := [(1, .int 1), (0, .ref h0)]) (z := 1) 0 dX5_init_42 rfl (by decide) (by decide) rfl ?_
  refine N_goto hO 23 dX5_init_45 (by decide) ?_
  refine N_iload_n hO 0 dX5_init_23 rfl rfl ?_
  refine N_bipush hO 10 dX5_init_24 (by decide) ?_
  refine N_geF hO 48 dX5_init_26 (by decide) (by decide) ?_
  refine N_aload_n hO 1 dX5_init_29 rfl rfl ?_
  refine N_get hO (kp := 0) (v := .ref qd) fg_X5_17 rfl rfl dX5_init_30 ?_
  refine N_iload_n hO 0 dX5_init_33 rfl rfl ?_
  refine N_new hO (ci := 0) (NN := 8) (C := RX0) (T := TX0) (ty := tyX0) (fs := [.int 0, .int 0, .int 0, .int 0, .int 0, .int 0, .int 0, .int 0]) (ws2 := fun d1 => [(h0, .inr (5, [.int 0, .int 0, .int 0, .int 0, .int 0, .ref qi, .ref qd])), (qi, az cI 16), (qd, .inl (cD, 10, .inr (.inr (.inr (.inr (va_up (fun _ => none) (Int32.toNatClampNeg 0) (some d0))))))), (d0, dz), (d1, dz)]) rfl iw_X0 tyX0_ok cl_X5_15 it_X0 ii_X0 dv_X0 (by decide) (by decide) (fun _ => rfl) dX5_init_34 (fun d1 => ?_)
  refine N_dup hO dX5_init_37 rfl ?_
  refine N_callIN hO mj_X5_21 (K_X0_init cI cD d1) (wr := [(h0, .inr (5, [.int 0, .int 0, .int 0, .int 0, .int 0, .ref qi, .ref qd])), (qi, az cI 16), (qd, .inl (cD, 10, .inr (.inr (.inr (.inr (va_up (fun _ => none) (Int32.toNatClampNeg 0) (some d0))))))), (d0, dz)]) (ws2 := fun _ => [(h0, .inr (5, [.int 0, .int 0, .int 0, .int 0, .int 0, .ref qi, .ref qd])), (qi, az cI 16), (qd, .inl (cD, 10, .inr (.inr (.inr (.inr (va_up (fun _ => none) (Int32.toNatClampNeg 0) (some d0))))))), (d0, dz), (d1, dz)]) rfl (Nat.le_of_ble_eq_true rfl) ⟨by decide, by decide⟩ (by decide) (by decide) (fun _ => rfl) dX5_init_38 (fun _ => ?_)
  refine N_aast hO (kp := 2) (kv := 4) (ws2 := [(h0, .inr (5, [.int 0, .int 0, .int 0, .int 0, .int 0, .ref qi, .ref qd])), (qi, az cI 16), (qd, .inl (cD, 10, .inr (.inr (.inr (.inr (va_up (va_up (fun _ => none) (Int32.toNatClampNeg 0) (some d0)) (Int32.toNatClampNeg 1) (some d1))))))), (d0, dz), (d1, dz)]) rfl rfl (inb_in (by decide)) rfl dX5_init_41 ?_
  refine N_iinc hO (ls2 := [(1, .int 2), (0, .ref h0)]) (z := 2) 0 dX5_init_42 rfl (by decide) (by decide) rfl ?_
  refine N_goto hO 23 dX5_init_45 (by decide) ?_
  refine N_iload_n hO 0 dX5_init_23 rfl rfl ?_
  refine N_bipush hO 10 dX5_init_24 (by decide) ?_
  refine N_geF hO 48 dX5_init_26 (by decide) (by decide) ?_
  refine N_aload_n hO 1 dX5_init_29 rfl rfl ?_
  refine N_get hO (kp := 0) (v := .ref qd) fg_X5_17 rfl rfl dX5_init_30 ?_
  refine N_iload_n hO 0 dX5_init_33 rfl rfl ?_
  refine N_new hO (ci := 0) (NN := 8) (C := RX0) (T := TX0) (ty := tyX0) (fs := [.int 0, .int 0, .int 0, .int 0, .int 0, .int 0, .int 0, .int 0]) (ws2 := fun d2 => [(h0, .inr (5, [.int 0, .int 0, .int 0, .int 0, .int 0, .ref qi, .ref qd])), (qi, az cI 16), (qd, .inl (cD, 10, .inr (.inr (.inr (.inr (va_up (va_up (fun _ => none) (Int32.toNatClampNeg 0) (some d0)) (Int32.toNatClampNeg 1) (some d1))))))), (d0, dz), (d1, dz), (d2, dz)]) rfl iw_X0 tyX0_ok cl_X5_15 it_X0 ii_X0 dv_X0 (by decide) (by decide) (fun _ => rfl) dX5_init_34 (fun d2 => ?_)
  refine N_dup hO dX5_init_37 rfl ?_
  refine N_callIN hO mj_X5_21 (K_X0_init cI cD d2) (wr := [(h0, .inr (5, [.int 0, .int 0, .int 0, .int 0, .int 0, .ref qi, .ref qd])), (qi, az cI 16), (qd, .inl (cD, 10, .inr (.inr (.inr (.inr (va_up (va_up (fun _ => none) (Int32.toNatClampNeg 0) (some d0)) (Int32.toNatClampNeg 1) (some d1))))))), (d0, dz), (d1, dz)]) (ws2 := fun _ => [(h0, .inr (5, [.int 0, .int 0, .int 0, .int 0, .int 0, .ref qi, .ref qd])), (qi, az cI 16), (qd, .inl (cD, 10, .inr (.inr (.inr (.inr (va_up (va_up (fun _ => none) (Int32.toNatClampNeg 0) (some d0)) (Int32.toNatClampNeg 1) (some d1))))))), (d0, dz), (d1, dz), (d2, dz)]) rfl (Nat.le_of_ble_eq_true rfl) ⟨by decide, by decide⟩ (by decide) (by decide) (fun _ => rfl) dX5_init_38 (fun _ => ?_)
  refine N_aast hO (kp := 2) (kv := 5) (ws2 := [(h0, .inr (5, [.int 0, .int 0, .int 0, .int 0, .int 0, .ref qi, .ref qd])), (qi, az cI 16), (qd, .inl (cD, 10, .inr (.inr (.inr (.inr (va_up (va_up (va_up (fun _ => none) (Int32.toNatClampNeg 0) (some d0)) (Int32.toNatClampNeg 1) (some d1)) (Int32.toNatClampNeg 2) (some d2))))))), (d0, dz), (d1, dz), (d2, dz)]) rfl rfl (inb_in (by decide)) rfl dX5_init_41 ?_
  refine N_iinc hO (ls2 := [(1, .int 3), (0, .ref h0)]) (z := 3) 0 dX5_init_42 rfl (by decide) (by decide) rfl ?_
  refine N_goto hO 23 dX5_init_45 (by decide) ?_
  refine N_iload_n hO 0 dX5_init_23 rfl rfl ?_
  refine N_bipush hO 10 dX5_init_24 (by decide) ?_
  refine N_geF hO 48 dX5_init_26 (by decide) (by decide) ?_
  refine N_aload_n hO 1 dX5_init_29 rfl rfl ?_
  refine N_get hO (kp := 0) (v := .ref qd) fg_X5_17 rfl rfl dX5_init_30 ?_
  refine N_iload_n hO 0 dX5_init_33 rfl rfl ?_
  refine N_new hO (ci := 0) (NN := 8) (C := RX0) (T := TX0) (ty := tyX0) (fs := [.int 0, .int 0, .int 0, .int 0, .int 0, .int 0, .int 0, .int 0]) (ws2 := fun d3 => [(h0, .inr (5, [.int 0, .int 0, .int 0, .int 0, .int 0, .ref qi, .ref qd])), (qi, az cI 16), (qd, .inl (cD, 10, .inr (.inr (.inr (.inr (va_up (va_up (va_up (fun _ => none) (Int32.toNatClampNeg 0) (some d0)) (Int32.toNatClampNeg 1) (some d1)) (Int32.toNatClampNeg 2) (some d2))))))), (d0, dz), (d1, dz), (d2, dz), (d3, dz)]) rfl iw_X0 tyX0_ok cl_X5_15 it_X0 ii_X0 dv_X0 (by decide) (by decide) (fun _ => rfl) dX5_init_34 (fun d3 => ?_)
  refine N_dup hO dX5_init_37 rfl ?_
  refine N_callIN hO mj_X5_21 (K_X0_init cI cD d3) (wr := [(h0, .inr (5, [.int 0, .int 0, .int 0, .int 0, .int 0, .ref qi, .ref qd])), (qi, az cI 16), (qd, .inl (cD, 10, .inr (.inr (.inr (.inr (va_up (va_up (va_up (fun _ => none) (Int32.toNatClampNeg 0) (some d0)) (Int32.toNatClampNeg 1) (some d1)) (Int32.toNatClampNeg 2) (some d2))))))), (d0, dz), (d1, dz), (d2, dz)]) (ws2 := fun _ => [(h0, .inr (5, [.int 0, .int 0, .int 0, .int 0, .int 0, .ref qi, .ref qd])), (qi, az cI 16), (qd, .inl (cD, 10, .inr (.inr (.inr (.inr (va_up (va_up (va_up (fun _ => none) (Int32.toNatClampNeg 0) (some d0)) (Int32.toNatClampNeg 1) (some d1)) (Int32.toNatClampNeg 2) (some d2))))))), (d0, dz), (d1, dz), (d2, dz), (d3, dz)]) rfl (Nat.le_of_ble_eq_true rfl) ⟨by decide, by decide⟩ (by decide) (by decide) (fun _ => rfl) dX5_init_38 (fun _ => ?_)
  refine N_aast hO (kp := 2) (kv := 6) (ws2 := [(h0, .inr (5, [.int 0, .int 0, .int 0, .int 0, .int 0, .ref qi, .ref qd])), (qi, az cI 16), (qd, .inl (cD, 10, .inr (.inr (.inr (.inr (va_up (va_up (va_up (va_up (fun _ => none) (Int32.toNatClampNeg 0) (some d0)) (Int32.toNatClampNeg 1) (some d1)) (Int32.toNatClampNeg 2) (some d2)) (Int32.toNatClampNeg 3) (some d3))))))), (d0, dz), (d1, dz), (d2, dz), (d3, dz)]) rfl rfl (inb_in (by decide)) rfl dX5_init_41 ?_
  refine N_iinc hO (ls2 := [(1, .int 4), (0, .ref h0)]) (z := 4) 0 dX5_init_42 rfl (by decide) (by decide) rfl ?_
  refine N_goto hO 23 dX5_init_45 (by decide) ?_
  refine N_iload_n hO 0 dX5_init_23 rfl rfl ?_
  refine N_bipush hO 10 dX5_init_24 (by decide) ?_
  refine N_geF hO 48 dX5_init_26 (by decide) (by decide) ?_
  refine N_aload_n hO 1 dX5_init_29 rfl rfl ?_
  refine N_get hO (kp := 0) (v := .ref qd) fg_X5_17 rfl rfl dX5_init_30 ?_
  refine N_iload_n hO 0 dX5_init_33 rfl rfl ?_
  refine N_new hO (ci := 0) (NN := 8) (C := RX0) (T := TX0) (ty := tyX0) (fs := [.int 0, .int 0, .int 0, .int 0, .int 0, .int 0, .int 0, .int 0]) (ws2 := fun d4 => [(h0, .inr (5, [.int 0, .int 0, .int 0, .int 0, .int 0, .ref qi, .ref qd])), (qi, az cI 16), (qd, .inl (cD, 10, .inr (.inr (.inr (.inr (va_up (va_up (va_up (va_up (fun _ => none) (Int32.toNatClampNeg 0) (some d0)) (Int32.toNatClampNeg 1) (some d1)) (Int32.toNatClampNeg 2) (some d2)) (Int32.toNatClampNeg 3) (some d3))))))), (d0, dz), (d1, dz), (d2, dz), (d3, dz), (d4, dz)]) rfl iw_X0 tyX0_ok cl_X5_15 it_X0 ii_X0 dv_X0 (by decide) (by decide) (fun _ => rfl) dX5_init_34 (fun d4 => ?_)
  refine N_dup hO dX5_init_37 rfl ?_
  refine N_callIN hO mj_X5_21 (K_X0_init cI cD d4) (wr := [(h0, .inr (5, [.int 0, .int 0, .int 0, .int 0, .int 0, .ref qi, .ref qd])), (qi, az cI 16), (qd, .inl (cD, 10, .inr (.inr (.inr (.inr (va_up (va_up (va_up (va_up (fun _ => none) (Int32.toNatClampNeg 0) (some d0)) (Int32.toNatClampNeg 1) (some d1)) (Int32.toNatClampNeg 2) (some d2)) (Int32.toNatClampNeg 3) (some d3))))))), (d0, dz), (d1, dz), (d2, dz), (d3, dz)]) (ws2 := fun _ => [(h0, .inr (5, [.int 0, .int 0, .int 0, .int 0, .int 0, .ref qi, .ref qd])), (qi, az cI 16), (qd, .inl (cD, 10, .inr (.inr (.inr (.inr (va_up (va_up (va_up (va_up (fun _ => none) (Int32.toNatClampNeg 0) (some d0)) (Int32.toNatClampNeg 1) (some d1)) (Int32.toNatClampNeg 2) (some d2)) (Int32.toNatClampNeg 3) (some d3))))))), (d0, dz), (d1, dz), (d2, dz), (d3, dz), (d4, dz)]) rfl (Nat.le_of_ble_eq_true rfl) ⟨by decide, by decide⟩ (by decide) (by decide) (fun _ => rfl) dX5_init_38 (fun _ => ?_)
  refine N_aast hO (kp := 2) (kv := 7) (ws2 := [(h0, .inr (5, [.int 0, .int 0, .int 0, .int 0, .int 0, .ref qi, .ref qd])), (qi, az cI 16), (qd, .inl (cD, 10, .inr (.inr (.inr (.inr (va_up (va_up (va_up (va_up (va_up (fun _ => none) (Int32.toNatClampNeg 0) (some d0)) (Int32.toNatClampNeg 1) (some d1)) (Int32.toNatClampNeg 2) (some d2)) (Int32.toNatClampNeg 3) (some d3)) (Int32.toNatClampNeg 4) (some d4))))))), (d0, dz), (d1, dz), (d2, dz), (d3, dz), (d4, dz)]) rfl rfl (inb_in (by decide)) rfl dX5_init_41 ?_
  refine N_iinc hO (ls2 := [(1, .int 5), (0, .ref h0)]) (z := 5) 0 dX5_init_42 rfl (by decide) (by decide) rfl ?_
  refine N_goto hO 23 dX5_init_45 (by decide) ?_
  refine N_iload_n hO 0 dX5_init_23 rfl rfl ?_
  refine N_bipush hO 10 dX5_init_24 (by decide) ?_
  refine N_geF hO 48 dX5_init_26 (by decide) (by decide) ?_
  refine N_aload_n hO 1 dX5_init_29 rfl rfl ?_
  refine N_get hO (kp := 0) (v := .ref qd) fg_X5_17 rfl rfl dX5_init_30 ?_
  refine N_iload_n hO 0 dX5_init_33 rfl rfl ?_
  refine N_new hO (ci := 0) (NN := 8) (C := RX0) (T := TX0) (ty := tyX0) (fs := [.int 0, .int 0, .int 0, .int 0, .int 0, .int 0, .int 0, .int 0]) (ws2 := fun d5 => [(h0, .inr (5, [.int 0, .int 0, .int 0, .int 0, .int 0, .ref qi, .ref qd])), (qi, az cI 16), (qd, .inl (cD, 10, .inr (.inr (.inr (.inr (va_up (va_up (va_up (va_up (va_up (fun _ => none) (Int32.toNatClampNeg 0) (some d0)) (Int32.toNatClampNeg 1) (some d1)) (Int32.toNatClampNeg 2) (some d2)) (Int32.toNatClampNeg 3) (some d3)) (Int32.toNatClampNeg 4) (some d4))))))), (d0, dz), (d1, dz), (d2, dz), (d3, dz), (d4, dz), (d5, dz)]) rfl iw_X0 tyX0_ok cl_X5_15 it_X0 ii_X0 dv_X0 (by decide) (by decide) (fun _ => rfl) dX5_init_34 (fun d5 => ?_)
  refine N_dup hO dX5_init_37 rfl ?_
  refine N_callIN hO mj_X5_21 (K_X0_init cI cD d5) (wr := [(h0, .inr (5, [.int 0, .int 0, .int 0, .int 0, .int 0, .ref qi, .ref qd])), (qi, az cI 16), (qd, .inl (cD, 10, .inr (.inr (.inr (.inr (va_up (va_up (va_up (va_up (va_up (fun _ => none) (Int32.toNatClampNeg 0) (some d0)) (Int32.toNatClampNeg 1) (some d1)) (Int32.toNatClampNeg 2) (some d2)) (Int32.toNatClampNeg 3) (some d3)) (Int32.toNatClampNeg 4) (some d4))))))), (d0, dz), (d1, dz), (d2, dz), (d3, dz), (d4, dz)]) (ws2 := fun _ => [(h0, .inr (5, [.int 0, .int 0, .int 0, .int 0, .int 0, .ref qi, .ref qd])), (qi, az cI 16), (qd, .inl (cD, 10, .inr (.inr (.inr (.inr (va_up (va_up (va_up (va_up (va_up (fun _ => none) (Int32.toNatClampNeg 0) (some d0)) (Int32.toNatClampNeg 1) (some d1)) (Int32.toNatClampNeg 2) (some d2)) (Int32.toNatClampNeg 3) (some d3)) (Int32.toNatClampNeg 4) (some d4))))))), (d0, dz), (d1, dz), (d2, dz), (d3, dz), (d4, dz), (d5, dz)]) rfl (Nat.le_of_ble_eq_true rfl) ⟨by decide, by decide⟩ (by decide) (by decide) (fun _ => rfl) dX5_init_38 (fun _ => ?_)
  refine N_aast hO (kp := 2) (kv := 8) (ws2 := [(h0, .inr (5, [.int 0, .int 0, .int 0, .int 0, .int 0, .ref qi, .ref qd])), (qi, az cI 16), (qd, .inl (cD, 10, .inr (.inr (.inr (.inr (va_up (va_up (va_up (va_up (va_up (va_up (fun _ => none) (Int32.toNatClampNeg 0) (some d0)) (Int32.toNatClampNeg 1) (some d1)) (Int32.toNatClampNeg 2) (some d2)) (Int32.toNatClampNeg 3) (some d3)) (Int32.toNatClampNeg 4) (some d4)) (Int32.toNatClampNeg 5) (some d5))))))), (d0, dz), (d1, dz), (d2, dz), (d3, dz), (d4, dz), (d5, dz)]) rfl rfl (inb_in (by decide)) rfl dX5_init_41 ?_
  refine N_iinc hO (ls2 := [(1, .int 6), (0, .ref h0)]) (z := 6) 0 dX5_init_42 rfl (by decide) (by decide) rfl ?_
  refine N_goto hO 23 dX5_init_45 (by decide) ?_
  refine N_iload_n hO 0 dX5_init_23 rfl rfl ?_
  refine N_bipush hO 10 dX5_init_24 (by decide) ?_
  refine N_geF hO 48 dX5_init_26 (by decide) (by decide) ?_
  refine N_aload_n hO 1 dX5_init_29 rfl rfl ?_
  refine N_get hO (kp := 0) (v := .ref qd) fg_X5_17 rfl rfl dX5_init_30 ?_
  refine N_iload_n hO 0 dX5_init_33 rfl rfl ?_
  refine N_new hO (ci := 0) (NN := 8) (C := RX0) (T := TX0) (ty := tyX0) (fs := [.int 0, .int 0, .int 0, .int 0, .int 0, .int 0, .int 0, .int 0]) (ws2 := fun d6 => [(h0, .inr (5, [.int 0, .int 0, .int 0, .int 0, .int 0, .ref qi, .ref qd])), (qi, az cI 16), (qd, .inl (cD, 10, .inr (.inr (.inr (.inr (va_up (va_up (va_up (va_up (va_up (va_up (fun _ => none) (Int32.toNatClampNeg 0) (some d0)) (Int32.toNatClampNeg 1) (some d1)) (Int32.toNatClampNeg 2) (some d2)) (Int32.toNatClampNeg 3) (some d3)) (Int32.toNatClampNeg 4) (some d4)) (Int32.toNatClampNeg 5) (some d5))))))), (d0, dz), (d1, dz), (d2, dz), (d3, dz), (d4, dz), (d5, dz), (d6, dz)]) rfl iw_X0 tyX0_ok cl_X5_15 it_X0 ii_X0 dv_X0 (by decide) (by decide) (fun _ => rfl) dX5_init_34 (fun d6 => ?_)
  refine N_dup hO dX5_init_37 rfl ?_
  refine N_callIN hO mj_X5_21 (K_X0_init cI cD d6) (wr := [(h0, .inr (5, [.int 0, .int 0, .int 0, .int 0, .int 0, .ref qi, .ref qd])), (qi, az cI 16), (qd, .inl (cD, 10, .inr (.inr (.inr (.inr (va_up (va_up (va_up (va_up (va_up (va_up (fun _ => none) (Int32.toNatClampNeg 0) (some d0)) (Int32.toNatClampNeg 1) (some d1)) (Int32.toNatClampNeg 2) (some d2)) (Int32.toNatClampNeg 3) (some d3)) (Int32.toNatClampNeg 4) (some d4)) (Int32.toNatClampNeg 5) (some d5))))))), (d0, dz), (d1, dz), (d2, dz), (d3, dz), (d4, dz), (d5, dz)]) (ws2 := fun _ => [(h0, .inr (5, [.int 0, .int 0, .int 0, .int 0, .int 0, .ref qi, .ref qd])), (qi, az cI 16), (qd, .inl (cD, 10, .inr (.inr (.inr (.inr (va_up (va_up (va_up (va_up (va_up (va_up (fun _ => none) (Int32.toNatClampNeg 0) (some d0)) (Int32.toNatClampNeg 1) (some d1)) (Int32.toNatClampNeg 2) (some d2)) (Int32.toNatClampNeg 3) (some d3)) (Int32.toNatClampNeg 4) (some d4)) (Int32.toNatClampNeg 5) (some d5))))))), (d0, dz), (d1, dz), (d2, dz), (d3, dz), (d4, dz), (d5, dz), (d6, dz)]) rfl (Nat.le_of_ble_eq_true rfl) ⟨by decide, by decide⟩ (by decide) (by decide) (fun _ => rfl) dX5_init_38 (fun _ => ?_)
  refine N_aast hO (kp := 2) (kv := 9) (ws2 := [(h0, .inr (5, [.int 0, .int 0, .int 0, .int 0, .int 0, .ref qi, .ref qd])), (qi, az cI 16), (qd, .inl (cD, 10, .inr (.inr (.inr (.inr (va_up (va_up (va_up (va_up (va_up (va_up (va_up (fun _ => none) (Int32.toNatClampNeg 0) (some d0)) (Int32.toNatClampNeg 1) (some d1)) (Int32.toNatClampNeg 2) (some d2)) (Int32.toNatClampNeg 3) (some d3)) (Int32.toNatClampNeg 4) (some d4)) (Int32.toNatClampNeg 5) (some d5)) (Int32.toNatClampNeg 6) (some d6))))))), (d0, dz), (d1, dz), (d2, dz), (d3, dz), (d4, dz), (d5, dz), (d6, dz)]) rfl rfl (inb_in (by decide)) rfl dX5_init_41 ?_
  refine N_iinc hO (ls2 := [(1, .int 7), (0, .ref h0)]) (z := 7) 0 dX5_init_42 rfl (by decide) (by decide) rfl ?_
  refine N_goto hO 23 dX5_init_45 (by decide) ?_
  refine N_iload_n hO 0 dX5_init_23 rfl rfl ?_
  refine N_bipush hO 10 dX5_init_24 (by decide) ?_
  refine N_geF hO 48 dX5_init_26 (by decide) (by decide) ?_
  refine N_aload_n hO 1 dX5_init_29 rfl rfl ?_
  refine N_get hO (kp := 0) (v := .ref qd) fg_X5_17 rfl rfl dX5_init_30 ?_
  refine N_iload_n hO 0 dX5_init_33 rfl rfl ?_
  refine N_new hO (ci := 0) (NN := 8) (C := RX0) (T := TX0) (ty := tyX0) (fs := [.int 0, .int 0, .int 0, .int 0, .int 0, .int 0, .int 0, .int 0]) (ws2 := fun d7 => [(h0, .inr (5, [.int 0, .int 0, .int 0, .int 0, .int 0, .ref qi, .ref qd])), (qi, az cI 16), (qd, .inl (cD, 10, .inr (.inr (.inr (.inr (va_up (va_up (va_up (va_up (va_up (va_up (va_up (fun _ => none) (Int32.toNatClampNeg 0) (some d0)) (Int32.toNatClampNeg 1) (some d1)) (Int32.toNatClampNeg 2) (some d2)) (Int32.toNatClampNeg 3) (some d3)) (Int32.toNatClampNeg 4) (some d4)) (Int32.toNatClampNeg 5) (some d5)) (Int32.toNatClampNeg 6) (some d6))))))), (d0, dz), (d1, dz), (d2, dz), (d3, dz), (d4, dz), (d5, dz), (d6, dz), (d7, dz)]) rfl iw_X0 tyX0_ok cl_X5_15 it_X0 ii_X0 dv_X0 (by decide) (by decide) (fun _ => rfl) dX5_init_34 (fun d7 => ?_)
  refine N_dup hO dX5_init_37 rfl ?_
  refine N_callIN hO mj_X5_21 (K_X0_init cI cD d7) (wr := [(h0, .inr (5, [.int 0, .int 0, .int 0, .int 0, .int 0, .ref qi, .ref qd])), (qi, az cI 16), (qd, .inl (cD, 10, .inr (.inr (.inr (.inr (va_up (va_up (va_up (va_up (va_up (va_up (va_up (fun _ => none) (Int32.toNatClampNeg 0) (some d0)) (Int32.toNatClampNeg 1) (some d1)) (Int32.toNatClampNeg 2) (some d2)) (Int32.toNatClampNeg 3) (some d3)) (Int32.toNatClampNeg 4) (some d4)) (Int32.toNatClampNeg 5) (some d5)) (Int32.toNatClampNeg 6) (some d6))))))), (d0, dz), (d1, dz), (d2, dz), (d3, dz), (d4, dz), (d5, dz), (d6, dz)]) (ws2 := fun _ => [(h0, .inr (5, [.int 0, .int 0, .int 0, .int 0, .int 0, .ref qi, .ref qd])), (qi, az cI 16), (qd, .inl (cD, 10, .inr (.inr (.inr (.inr (va_up (va_up (va_up (va_up (va_up (va_up (va_up (fun _ => none) (Int32.toNatClampNeg 0) (some d0)) (Int32.toNatClampNeg 1) (some d1)) (Int32.toNatClampNeg 2) (some d2)) (Int32.toNatClampNeg 3) (some d3)) (Int32.toNatClampNeg 4) (some d4)) (Int32.toNatClampNeg 5) (some d5)) (Int32.toNatClampNeg 6) (some d6))))))), (d0, dz), (d1, dz), (d2, dz), (d3, dz), (d4, dz), (d5, dz), (d6, dz), (d7, dz)]) rfl (Nat.le_of_ble_eq_true rfl) ⟨by decide, by decide⟩ (by decide) (by decide) (fun _ => rfl) dX5_init_38 (fun _ => ?_)
  refine N_aast hO (kp := 2) (kv := 10) (ws2 := [(h0, .inr (5, [.int 0, .int 0, .int 0, .int 0, .int 0, .ref qi, .ref qd])), (qi, az cI 16), (qd, .inl (cD, 10, .inr (.inr (.inr (.inr (va_up (va_up (va_up (va_up (va_up (va_up (va_up (va_up (fun _ => none) (Int32.toNatClampNeg 0) (some d0)) (Int32.toNatClampNeg 1) (some d1)) (Int32.toNatClampNeg 2) (some d2)) (Int32.toNatClampNeg 3) (some d3)) (Int32.toNatClampNeg 4) (some d4)) (Int32.toNatClampNeg 5) (some d5)) (Int32.toNatClampNeg 6) (some d6)) (Int32.toNatClampNeg 7) (some d7))))))), (d0, dz), (d1, dz), (d2, dz), (d3, dz), (d4, dz), (d5, dz), (d6, dz), (d7, dz)]) rfl rfl (inb_in (by decide)) rfl dX5_init_41 ?_
  refine N_iinc hO (ls2 := [(1, .int 8), (0, .ref h0)]) (z := 8) 0 dX5_init_42 rfl (by decide) (by decide) rfl ?_
  refine N_goto hO 23 dX5_init_45 (by decide) ?_
  refine N_iload_n hO 0 dX5_init_23 rfl rfl ?_
  refine N_bipush hO 10 dX5_init_24 (by decide) ?_
  refine N_geF hO 48 dX5_init_26 (by decide) (by decide) ?_
  refine N_aload_n hO 1 dX5_init_29 rfl rfl ?_
  refine N_get hO (kp := 0) (v := .ref qd) fg_X5_17 rfl rfl dX5_init_30 ?_
  refine N_iload_n hO 0 dX5_init_33 rfl rfl ?_
  refine N_new hO (ci := 0) (NN := 8) (C := RX0) (T := TX0) (ty := tyX0) (fs := [.int 0, .int 0, .int 0, .int 0, .int 0, .int 0, .int 0, .int 0]) (ws2 := fun d8 => [(h0, .inr (5, [.int 0, .int 0, .int 0, .int 0, .int 0, .ref qi, .ref qd])), (qi, az cI 16), (qd, .inl (cD, 10, .inr (.inr (.inr (.inr (va_up (va_up (va_up (va_up (va_up (va_up (va_up (va_up (fun _ => none) (Int32.toNatClampNeg 0) (some d0)) (Int32.toNatClampNeg 1) (some d1)) (Int32.toNatClampNeg 2) (some d2)) (Int32.toNatClampNeg 3) (some d3)) (Int32.toNatClampNeg 4) (some d4)) (Int32.toNatClampNeg 5) (some d5)) (Int32.toNatClampNeg 6) (some d6)) (Int32.toNatClampNeg 7) (some d7))))))), (d0, dz), (d1, dz), (d2, dz), (d3, dz), (d4, dz), (d5, dz), (d6, dz), (d7, dz), (d8, dz)]) rfl iw_X0 tyX0_ok cl_X5_15 it_X0 ii_X0 dv_X0 (by decide) (by decide) (fun _ => rfl) dX5_init_34 (fun d8 => ?_)
  refine N_dup hO dX5_init_37 rfl ?_
  refine N_callIN hO mj_X5_21 (K_X0_init cI cD d8) (wr := [(h0, .inr (5, [.int 0, .int 0, .int 0, .int 0, .int 0, .ref qi, .ref qd])), (qi, az cI 16), (qd, .inl (cD, 10, .inr (.inr (.inr (.inr (va_up (va_up (va_up (va_up (va_up (va_up (va_up (va_up (fun _ => none) (Int32.toNatClampNeg 0) (some d0)) (Int32.toNatClampNeg 1) (some d1)) (Int32.toNatClampNeg 2) (some d2)) (Int32.toNatClampNeg 3) (some d3)) (Int32.toNatClampNeg 4) (some d4)) (Int32.toNatClampNeg 5) (some d5)) (Int32.toNatClampNeg 6) (some d6)) (Int32.toNatClampNeg 7) (some d7))))))), (d0, dz), (d1, dz), (d2, dz), (d3, dz), (d4, dz), (d5, dz), (d6, dz), (d7, dz)]) (ws2 := fun _ => [(h0, .inr (5, [.int 0, .int 0, .int 0, .int 0, .int 0, .ref qi, .ref qd])), (qi, az cI 16), (qd, .inl (cD, 10, .inr (.inr (.inr (.inr (va_up (va_up (va_up (va_up (va_up (va_up (va_up (va_up (fun _ => none) (Int32.toNatClampNeg 0) (some d0)) (Int32.toNatClampNeg 1) (some d1)) (Int32.toNatClampNeg 2) (some d2)) (Int32.toNatClampNeg 3) (some d3)) (Int32.toNatClampNeg 4) (some d4)) (Int32.toNatClampNeg 5) (some d5)) (Int32.toNatClampNeg 6) (some d6)) (Int32.toNatClampNeg 7) (some d7))))))), (d0, dz), (d1, dz), (d2, dz), (d3, dz), (d4, dz), (d5, dz), (d6, dz), (d7, dz), (d8, dz)]) rfl (Nat.le_of_ble_eq_true rfl) ⟨by decide, by decide⟩ (by decide) (by decide) (fun _ => rfl) dX5_init_38 (fun _ => ?_)
  refine N_aast hO (kp := 2) (kv := 11) (ws2 := [(h0, .inr (5, [.int 0, .int 0, .int 0, .int 0, .int 0, .ref qi, .ref qd])), (qi, az cI 16), (qd, .inl (cD, 10, .inr (.inr (.inr (.inr (va_up (va_up (va_up (va_up (va_up (va_up (va_up (va_up (va_up (fun _ => none) (Int32.toNatClampNeg 0) (some d0)) (Int32.toNatClampNeg 1) (some d1)) (Int32.toNatClampNeg 2) (some d2)) (Int32.toNatClampNeg 3) (some d3)) (Int32.toNatClampNeg 4) (some d4)) (Int32.toNatClampNeg 5) (some d5)) (Int32.toNatClampNeg 6) (some d6)) (Int32.toNatClampNeg 7) (some d7)) (Int32.toNatClampNeg 8) (some d8))))))), (d0, dz), (d1, dz), (d2, dz), (d3, dz), (d4, dz), (d5, dz), (d6, dz), (d7, dz), (d8, dz)]) rfl rfl (inb_in (by decide)) rfl dX5_init_41 ?_
  refine N_iinc hO (ls2 := [(1, .int 9), (0, .ref h0)]) (z := 9) 0 dX5_init_42 rfl (by decide) (by decide) rfl ?_
  refine N_goto hO 23 dX5_init_45 (by decide) ?_
  refine N_iload_n hO 0 dX5_init_23 rfl rfl ?_
  refine N_bipush hO 10 dX5_init_24 (by decide) ?_
  refine N_geF hO 48 dX5_init_26 (by decide) (by decide) ?_
  refine N_aload_n hO 1 dX5_init_29 rfl rfl ?_
  refine N_get hO (kp := 0) (v := .ref qd) fg_X5_17 rfl rfl dX5_init_30 ?_
  refine N_iload_n hO 0 dX5_init_33 rfl rfl ?_
  refine N_new hO (ci := 0) (NN := 8) (C := RX0) (T := TX0) (ty := tyX0) (fs := [.int 0, .int 0, .int 0, .int 0, .int 0, .int 0, .int 0, .int 0]) (ws2 := fun d9 => [(h0, .inr (5, [.int 0, .int 0, .int 0, .int 0, .int 0, .ref qi, .ref qd])), (qi, az cI 16), (qd, .inl (cD, 10, .inr (.inr (.inr (.inr (va_up (va_up (va_up (va_up (va_up (va_up (va_up (va_up (va_up (fun _ => none) (Int32.toNatClampNeg 0) (some d0)) (Int32.toNatClampNeg 1) (some d1)) (Int32.toNatClampNeg 2) (some d2)) (Int32.toNatClampNeg 3) (some d3)) (Int32.toNatClampNeg 4) (some d4)) (Int32.toNatClampNeg 5) (some d5)) (Int32.toNatClampNeg 6) (some d6)) (Int32.toNatClampNeg 7) (some d7)) (Int32.toNatClampNeg 8) (some d8))))))), (d0, dz), (d1, dz), (d2, dz), (d3, dz), (d4, dz), (d5, dz), (d6, dz), (d7, dz), (d8, dz), (d9, dz)]) rfl iw_X0 tyX0_ok cl_X5_15 it_X0 ii_X0 dv_X0 (by decide) (by decide) (fun _ => rfl) dX5_init_34 (fun d9 => ?_)
  refine N_dup hO dX5_init_37 rfl ?_
  refine N_callIN hO mj_X5_21 (K_X0_init cI cD d9) (wr := [(h0, .inr (5, [.int 0, .int 0, .int 0, .int 0, .int 0, .ref qi, .ref qd])), (qi, az cI 16), (qd, .inl (cD, 10, .inr (.inr (.inr (.inr (va_up (va_up (va_up (va_up (va_up (va_up (va_up (va_up (va_up (fun _ => none) (Int32.toNatClampNeg 0) (some d0)) (Int32.toNatClampNeg 1) (some d1)) (Int32.toNatClampNeg 2) (some d2)) (Int32.toNatClampNeg 3) (some d3)) (Int32.toNatClampNeg 4) (some d4)) (Int32.toNatClampNeg 5) (some d5)) (Int32.toNatClampNeg 6) (some d6)) (Int32.toNatClampNeg 7) (some d7)) (Int32.toNatClampNeg 8) (some d8))))))), (d0, dz), (d1, dz), (d2, dz), (d3, dz), (d4, dz), (d5, dz), (d6, dz), (d7, dz), (d8, dz)]) (ws2 := fun _ => [(h0, .inr (5, [.int 0, .int 0, .int 0, .int 0, .int 0, .ref qi, .ref qd])), (qi, az cI 16), (qd, .inl (cD, 10, .inr (.inr (.inr (.inr (va_up (va_up (va_up (va_up (va_up (va_up (va_up (va_up (va_up (fun _ => none) (Int32.toNatClampNeg 0) (some d0)) (Int32.toNatClampNeg 1) (some d1)) (Int32.toNatClampNeg 2) (some d2)) (Int32.toNatClampNeg 3) (some d3)) (Int32.toNatClampNeg 4) (some d4)) (Int32.toNatClampNeg 5) (some d5)) (Int32.toNatClampNeg 6) (some d6)) (Int32.toNatClampNeg 7) (some d7)) (Int32.toNatClampNeg 8) (some d8))))))), (d0, dz), (d1, dz), (d2, dz), (d3, dz), (d4, dz), (d5, dz), (d6, dz), (d7, dz), (d8, dz), (d9, dz)]) rfl (Nat.le_of_ble_eq_true rfl) ⟨by decide, by decide⟩ (by decide) (by decide) (fun _ => rfl) dX5_init_38 (fun _ => ?_)
  refine N_aast hO (kp := 2) (kv := 12) (ws2 := [(h0, .inr (5, [.int 0, .int 0, .int 0, .int 0, .int 0, .ref qi, .ref qd])), (qi, az cI 16), (qd, .inl (cD, 10, .inr (.inr (.inr (.inr (va_up (va_up (va_up (va_up (va_up (va_up (va_up (va_up (va_up (va_up (fun _ => none) (Int32.toNatClampNeg 0) (some d0)) (Int32.toNatClampNeg 1) (some d1)) (Int32.toNatClampNeg 2) (some d2)) (Int32.toNatClampNeg 3) (some d3)) (Int32.toNatClampNeg 4) (some d4)) (Int32.toNatClampNeg 5) (some d5)) (Int32.toNatClampNeg 6) (some d6)) (Int32.toNatClampNeg 7) (some d7)) (Int32.toNatClampNeg 8) (some d8)) (Int32.toNatClampNeg 9) (some d9))))))), (d0, dz), (d1, dz), (d2, dz), (d3, dz), (d4, dz), (d5, dz), (d6, dz), (d7, dz), (d8, dz), (d9, dz)]) rfl rfl (inb_in (by decide)) rfl dX5_init_41 ?_
  refine N_iinc hO (ls2 := [(1, .int 10), (0, .ref h0)]) (z := 10) 0 dX5_init_42 rfl (by decide) (by decide) rfl ?_
  refine N_goto hO 23 dX5_init_45 (by decide) ?_
  refine N_iload_n hO 0 dX5_init_23 rfl rfl ?_
  refine N_bipush hO 10 dX5_init_24 (by decide) ?_
  refine N_geT hO 48 dX5_init_26 (by decide) (by decide) ?_
  refine N_conv 2 (ws2 := [(h0, .inr (5, [.int 0, .int 0, .int 0, .int 0, .int 0, .ref qi, .ref qd])), (qi, az cI 16), (qd, .inl (cD, 10, .inr (.inr (.inr (.inr (fun i => some ([qi, qd, d0, d1, d2, d3, d4, d5, d6, d7, d8, d9].getD (2 + i) 0))))))), (d0, dz), (d1, dz), (d2, dz), (d3, dz), (d4, dz), (d5, dz), (d6, dz), (d7, dz), (d8, dz), (d9, dz)]) rfl (fun i hi => by
    match i, hi with
    | 0, _ => rfl
    | 1, _ => rfl
    | 2, _ => rfl
    | 3, _ => rfl
    | 4, _ => rfl
    | 5, _ => rfl
    | 6, _ => rfl
    | 7, _ => rfl
    | 8, _ => rfl
    | 9, _ => rfl
    | n + 10, h => exact absurd h (by omega)) rfl ?_
  exact N_ret hO (fun k => [qi, qd, d0, d1, d2, d3, d4, d5, d6, d7, d8, d9].getD k 0) hR rfl (by decide) (by decide) dX5_init_48)
set_option maxHeartbeats 8000000 in
set_option maxRecDepth 100000 in
theorem K_X5_begin (cI cD : ClassId) (q : Nat) (f : Nat → Nat) : CtN yX5_begin cX5_begin 4 0 0 0 0 cI cD [.ref q, .int 3, .int 3] (wTh cI q f) (fun _ => wTb cI q f) := ctN_of (own := RX5) rfl (by decide +kernel) (Nat.le_of_ble_eq_true rfl) (by
  intro G hO hR hI
  show N G 4 0 [(0, .ref q), (1, .int 3), (2, .int 3)] [] [(q, .inr (5, [.int 0, .int 0, .int 0, .int 0, .int 0, .ref (f 0), .ref (f 1)])), (f 0, az cI 16)] 0 0
  refine N_aload_n hO 0 dX5_begin_0 rfl rfl ?_
  refine N_iload_n hO 2 dX5_begin_1 rfl rfl ?_
  refine N_put hO (kp := 0) (ws2 := [(q, .inr (5, [.int 3, .int 0, .int 0, .int 0, .int 0, .ref (f 0), .ref (f 1)])), (f 0, az cI 16)]) fq_X5_22 rfl rfl rfl (Nat.le_of_ble_eq_true rfl) rfl dX5_begin_2 ?_
  refine N_aload_n hO 0 dX5_begin_5 rfl rfl ?_
  refine N_iload_n hO 1 dX5_begin_6 rfl rfl ?_
  refine N_iload_n hO 2 dX5_begin_7 rfl rfl ?_
  refine N_imul hO 9 dX5_begin_8 (by decide) ?_
  refine N_put hO (kp := 0) (ws2 := [(q, .inr (5, [.int 3, .int 9, .int 0, .int 0, .int 0, .ref (f 0), .ref (f 1)])), (f 0, az cI 16)]) fq_X5_26 rfl rfl rfl (Nat.le_of_ble_eq_true rfl) rfl dX5_begin_9 ?_
  refine N_aload_n hO 0 dX5_begin_12 rfl rfl ?_
  refine N_iconst hO 0 dX5_begin_13 (by decide) ?_
  refine N_put hO (kp := 0) (ws2 := [(q, .inr (5, [.int 3, .int 9, .int 0, .int 0, .int 0, .ref (f 0), .ref (f 1)])), (f 0, az cI 16)]) fq_X5_29 rfl rfl rfl (Nat.le_of_ble_eq_true rfl) rfl dX5_begin_14 ?_
  refine N_aload_n hO 0 dX5_begin_17 rfl rfl ?_
  refine N_iconst hO 0 dX5_begin_18 (by decide) ?_
  refine N_put hO (kp := 0) (ws2 := [(q, .inr (5, [.int 3, .int 9, .int 0, .int 0, .int 0, .ref (f 0), .ref (f 1)])), (f 0, az cI 16)]) fq_X5_32 rfl rfl rfl (Nat.le_of_ble_eq_true rfl) rfl dX5_begin_19 ?_
  refine N_aload_n hO 0 dX5_begin_22 rfl rfl ?_
  refine N_iconst hO 0 dX5_begin_23 (by decide) ?_
  refine N_put hO (kp := 0) (ws2 := [(q, .inr (5, [.int 3, .int 9, .int 0, .int 0, .int 0, .ref (f 0), .ref (f 1)])), (f 0, az cI 16)]) fq_X5_35 rfl rfl rfl (Nat.le_of_ble_eq_true rfl) rfl dX5_begin_24 ?_
  refine N_iconst hO 0 dX5_begin_27 (by decide) ?_
  refine N_istore_n hO (ls2 := [(3, .int 0), (0, .ref q), (1, .int 3), (2, .int 3)]) dX5_begin_28 rfl (by decide) rfl ?_
  refine N_iload_n hO 0 dX5_begin_29 rfl rfl ?_
  refine N_bipush hO 16 dX5_begin_30 (by decide) ?_
  refine N_geF hO 49 dX5_begin_32 (by decide) (by decide) ?_
  refine N_aload_n hO 1 dX5_begin_35 rfl rfl ?_
  refine N_get hO (kp := 0) (v := .ref (f 0)) fg_X5_9 rfl rfl dX5_begin_36 ?_
  refine N_iload_n hO 0 dX5_begin_39 rfl rfl ?_
  refine N_bipush hO 10 dX5_begin_40 (by decide) ?_
  refine N_iast hO (kp := 1) (ws2 := [(q, .inr (5, [.int 3, .int 9, .int 0, .int 0, .int 0, .ref (f 0), .ref (f 1)])), (f 0, .inl (cI, 16, .inl (upd (fun _ => 0) (Int32.toNatClampNeg 0) 10)))]) rfl (inb_in (by decide)) rfl dX5_begin_42 ?_
  refine N_iinc hO (ls2 := [(3, .int 1), (0, .ref q), (1, .int 3), (2, .int 3)]) (z := 1) 0 dX5_begin_43 rfl (by decide) (by decide) rfl ?_
  refine N_goto hO 29 dX5_begin_46 (by decide) ?_
  refine N_iload_n hO 0 dX5_begin_29 rfl rfl ?_
  refine N_bipush hO 16 dX5_begin_30 (by decide) ?_
  refine N_geF hO 49 dX5_begin_32 (by decide) (by decide) ?_
  refine N_aload_n hO 1 dX5_begin_35 rfl rfl ?_
  refine N_get hO (kp := 0) (v := .ref (f 0)) fg_X5_9 rfl rfl dX5_begin_36 ?_
  refine N_iload_n hO 0 dX5_begin_39 rfl rfl ?_
  refine N_bipush hO 10 dX5_begin_40 (by decide) ?_
  refine N_iast hO (kp := 1) (ws2 := [(q, .inr (5, [.int 3, .int 9, .int 0, .int 0, .int 0, .ref (f 0), .ref (f 1)])), (f 0, .inl (cI, 16, .inl (upd (upd (fun _ => 0) (Int32.toNatClampNeg 0) 10) (Int32.toNatClampNeg 1) 10)))]) rfl (inb_in (by decide)) rfl dX5_begin_42 ?_
  refine N_iinc hO (ls2 := [(3, .int 2), (0, .ref q), (1, .int 3), (2, .int 3)]) (z := 2) 0 dX5_begin_43 rfl (by decide) (by decide) rfl ?_
  refine N_goto hO 29 dX5_begin_46 (by decide) ?_
  refine N_iload_n hO 0 dX5_begin_29 rfl rfl ?_
  refine N_bipush hO 16 dX5_begin_30 (by decide) ?_
  refine N_geF hO 49 dX5_begin_32 (by decide) (by decide) ?_
  refine N_aload_n hO 1 dX5_begin_35 rfl rfl ?_
  refine N_get hO (kp := 0) (v := .ref (f 0)) fg_X5_9 rfl rfl dX5_begin_36 ?_
  refine N_iload_n hO 0 dX5_begin_39 rfl rfl ?_
  refine N_bipush hO 10 dX5_begin_40 (by decide) ?_
  refine N_iast hO (kp := 1) (ws2 := [(q, .inr (5, [.int 3, .int 9, .int 0, .int 0, .int 0, .ref (f 0), .ref (f 1)])), (f 0, .inl (cI, 16, .inl (upd (upd (upd (fun _ => 0) (Int32.toNatClampNeg 0) 10) (Int32.toNatClampNeg 1) 10) (Int32.toNatClampNeg 2) 10)))]) rfl (inb_in (by decide)) rfl dX5_begin_42 ?_
  refine N_iinc hO (ls2 := [(3, .int 3), (0, .ref q), (1, .int 3), (2, .int 3)]) (z := 3) 0 dX5_begin_43 rfl (by decide) (by decide) rfl ?_
  refine N_goto hO 29 dX5_begin_46 (by decide) ?_
  refine N_iload_n hO 0 dX5_begin_29 rfl rfl ?_
  refine N_bipush hO 16 dX5_begin_30 (by decide) ?_
  refine N_geF hO 49 dX5_begin_32 (by decide) (by decide) ?_
  refine N_aload_n hO 1 dX5_begin_35 rfl rfl ?_
  refine N_get hO (kp := 0) (v := .ref (f 0)) fg_X5_9 rfl rfl dX5_begin_36 ?_
  refine N_iload_n hO 0 dX5_begin_39 rfl rfl ?_
  refine N_bipush hO 10 dX5_begin_40 (by decide) ?_
  refine N_iast hO (kp := 1) (ws2 := [(q, .inr (5, [.int 3, .int 9, .int 0, .int 0, .int 0, .ref (f 0), .ref (f 1)])), (f 0, .inl (cI, 16, .inl (upd (upd (upd (upd (fun _ => 0) (Int32.toNatClampNeg 0) 10) (Int32.toNatClampNeg 1) 10) (Int32.toNatClampNeg 2) 10) (Int32.toNatClampNeg 3) 10)))]) rfl (inb_in (by decide)) rfl dX5_begin_42 ?_
  refine N_iinc hO (ls2 := [(3, .int 4), (0, .ref q), (1, .int 3), (2, .int 3)]) (z := 4) 0 dX5_begin_43 rfl (by decide) (by decide) rfl ?_
  refine N_goto hO 29 dX5_begin_46 (by decide) ?_
  refine N_iload_n hO 0 dX5_begin_29 rfl rfl ?_
  refine N_bipush hO 16 dX5_begin_30 (by decide) ?_
  refine N_geF hO 49 dX5_begin_32 (by decide) (by decide) ?_
  refine N_aload_n hO 1 dX5_begin_35 rfl rfl ?_
  refine N_get hO (kp := 0) (v := .ref (f 0)) fg_X5_9 rfl rfl dX5_begin_36 ?_
  refine N_iload_n hO 0 dX5_begin_39 rfl rfl ?_
  refine N_bipush hO 10 dX5_begin_40 (by decide) ?_
  refine N_iast hO (kp := 1) (ws2 := [(q, .inr (5, [.int 3, .int 9, .int 0, .int 0, .int 0, .ref (f 0), .ref (f 1)])), (f 0, .inl (cI, 16, .inl (upd (upd (upd (upd (upd (fun _ => 0) (Int32.toNatClampNeg 0) 10) (Int32.toNatClampNeg 1) 10) (Int32.toNatClampNeg 2) 10) (Int32.toNatClampNeg 3) 10) (Int32.toNatClampNeg 4) 10)))]) rfl (inb_in (by decide)) rfl dX5_begin_42 ?_
  refine N_iinc hO (ls2 := [(3, .int 5), (0, .ref q), (1, .int 3), (2, .int 3)]) (z := 5) 0 dX5_begin_43 rfl (by decide) (by decide) rfl ?_
  refine N_goto hO 29 dX5_begin_46 (by decide) ?_
  refine N_iload_n hO 0 dX5_begin_29 rfl rfl ?_
  refine N_bipush hO 16 dX5_begin_30 (by decide) ?_
  refine N_geF hO 49 dX5_begin_32 (by decide) (by decide) ?_
  refine N_aload_n hO 1 dX5_begin_35 rfl rfl ?_
  refine N_get hO (kp := 0) (v := .ref (f 0)) fg_X5_9 rfl rfl dX5_begin_36 ?_
  refine N_iload_n hO 0 dX5_begin_39 rfl rfl ?_
  refine N_bipush hO 10 dX5_begin_40 (by decide) ?_
  refine N_iast hO (kp := 1) (ws2 := [(q, .inr (5, [.int 3, .int 9, .int 0, .int 0, .int 0, .ref (f 0), .ref (f 1)])), (f 0, .inl (cI, 16, .inl (upd (upd (upd (upd (upd (upd (fun _ => 0) (Int32.toNatClampNeg 0) 10) (Int32.toNatClampNeg 1) 10) (Int32.toNatClampNeg 2) 10) (Int32.toNatClampNeg 3) 10) (Int32.toNatClampNeg 4) 10) (Int32.toNatClampNeg 5) 10)))]) rfl (inb_in (by decide)) rfl dX5_begin_42 ?_
  refine N_iinc hO (ls2 := [(3, .int 6), (0, .ref q), (1, .int 3), (2, .int 3)]) (z := 6) 0 dX5_begin_43 rfl (by decide) (by decide) rfl ?_
  refine N_goto hO 29 dX5_begin_46 (by decide) ?_
  refine N_iload_n hO 0 dX5_begin_29 rfl rfl ?_
  refine N_bipush hO 16 dX5_begin_30 (by decide) ?_
  refine N_geF hO 49 dX5_begin_32 (by decide) (by decide) ?_
  refine N_aload_n hO 1 dX5_begin_35 rfl rfl ?_
  refine N_get hO (kp := 0) (v := .ref (f 0)) fg_X5_9 rfl rfl dX5_begin_36 ?_
  refine N_iload_n hO 0 dX5_begin_39 rfl rfl ?_
  refine N_bipush hO 10 dX5_begin_40 (by decide) ?_
  refine N_iast hO (kp := 1) (ws2 := [(q, .inr (5, [.int 3, .int 9, .int 0, .int 0, .int 0, .ref (f 0), .ref (f 1)])), (f 0, .inl (cI, 16, .inl (upd (upd (upd (upd (upd (upd (upd (fun _ => 0) (Int32.toNatClampNeg 0) 10) (Int32.toNatClampNeg 1) 10) (Int32.toNatClampNeg 2) 10) (Int32.toNatClampNeg 3) 10) (Int32.toNatClampNeg 4) 10) (Int32.toNatClampNeg 5) 10) (Int32.toNatClampNeg 6) 10)))]) rfl (inb_in (by decide)) rfl dX5_begin_42 ?_
  refine N_iinc hO (ls2 := [(3, .int 7), (0, .ref q), (1, .int 3), (2, .int 3)]) (z := 7) 0 dX5_begin_43 rfl (by decide) (by decide) rfl ?_
  refine N_goto hO 29 dX5_begin_46 (by decide) ?_
  refine N_iload_n hO 0 dX5_begin_29 rfl rfl ?_
  refine N_bipush hO 16 dX5_begin_30 (by decide) ?_
  refine N_geF hO 49 dX5_begin_32 (by decide) (by decide) ?_
  refine N_aload_n hO 1 dX5_begin_35 rfl rfl ?_
  refine N_get hO (kp := 0) (v := .ref (f 0)) fg_X5_9 rfl rfl dX5_begin_36 ?_
  refine N_iload_n hO 0 dX5_begin_39 rfl rfl ?_
  refine N_bipush hO 10 dX5_begin_40 (by decide) ?_
  refine N_iast hO (kp := 1) (ws2 := [(q, .inr (5, [.int 3, .int 9, .int 0, .int 0, .int 0, .ref (f 0), .ref (f 1)])), (f 0, .inl (cI, 16, .inl (upd (upd (upd (upd (upd (upd (upd (upd (fun _ => 0) (Int32.toNatClampNeg 0) 10) (Int32.toNatClampNeg 1) 10) (Int32.toNatClampNeg 2) 10) (Int32.toNatClampNeg 3) 10) (Int32.toNatClampNeg 4) 10) (Int32.toNatClampNeg 5) 10) (Int32.toNatClampNeg 6) 10) (Int32.toNatClampNeg 7) 10)))]) rfl (inb_in (by decide)) rfl dX5_begin_42 ?_
  refine N_iinc hO (ls2 := [(3, .int 8), (0, .ref q), (1, .int 3), (2, .int 3)]) (z := 8) 0 dX5_begin_43 rfl (by decide) (by decide) rfl ?_
  refine N_goto hO 29 dX5_begin_46 (by decide) ?_
  refine N_iload_n hO 0 dX5_begin_29 rfl rfl ?_
  refine N_bipush hO 16 dX5_begin_30 (by decide) ?_
  refine N_geF hO 49 dX5_begin_32 (by decide) (by decide) ?_
  refine N_aload_n hO 1 dX5_begin_35 rfl rfl ?_
  refine N_get hO (kp := 0) (v := .ref (f 0)) fg_X5_9 rfl rfl dX5_begin_36 ?_
  refine N_iload_n hO 0 dX5_begin_39 rfl rfl ?_
  refine N_bipush hO 10 dX5_begin_40 (by decide) ?_
  refine N_iast hO (kp := 1) (ws2 := [(q, .inr (5, [.int 3, .int 9, .int 0, .int 0, .int 0, .ref (f 0), .ref (f 1)])), (f 0, .inl (cI, 16, .inl (upd (upd (upd (upd (upd (upd (upd (upd (upd (fun _ => 0) (Int32.toNatClampNeg 0) 10) (Int32.toNatClampNeg 1) 10) (Int32.toNatClampNeg 2) 10) (Int32.toNatClampNeg 3) 10) (Int32.toNatClampNeg 4) 10) (Int32.toNatClampNeg 5) 10) (Int32.toNatClampNeg 6) 10) (Int32.toNatClampNeg 7) 10) (Int32.toNatClampNeg 8) 10)))]) rfl (inb_in (by decide)) rfl dX5_begin_42 ?_
  refine N_iinc hO (ls2 := [(3, .int 9), (0, .ref q), (1, .int 3), (2, .int 3)]) (z := 9) 0 dX5_begin_43 rfl (by decide) (by decide) rfl ?_
  refine N_goto hO 29 dX5_begin_46 (by decide) ?_
  refine N_iload_n hO 0 dX5_begin_29 rfl rfl ?_
  refine N_bipush hO 16 dX5_begin_30 (by decide) ?_
  refine N_geF hO 49 dX5_begin_32 (by decide) (by decide) ?_
  refine N_aload_n hO 1 dX5_begin_35 rfl rfl ?_
  refine N_get hO (kp := 0) (v := .ref (f 0)) fg_X5_9 rfl rfl dX5_begin_36 ?_
  refine N_iload_n hO 0 dX5_begin_39 rfl rfl ?_
  refine N_bipush hO 10 dX5_begin_40 (by decide) ?_
  refine N_iast hO (kp := 1) (ws2 := [(q, .inr (5, [.int 3, .int 9, .int 0, .int 0, .int 0, .ref (f 0), .ref (f 1)])), (f 0, .inl (cI, 16, .inl (upd (upd (upd (upd (upd (upd (upd (upd (upd (upd (fun _ => 0) (Int32.toNatClampNeg 0) 10) (Int32.toNatClampNeg 1) 10) (Int32.toNatClampNeg 2) 10) (Int32.toNatClampNeg 3) 10) (Int32.toNatClampNeg 4) 10) (Int32.toNatClampNeg 5) 10) (Int32.toNatClampNeg 6) 10) (Int32.toNatClampNeg 7) 10) (Int32.toNatClampNeg 8) 10) (Int32.toNatClampNeg 9) 10)))]) rfl (inb_in (by decide)) rfl dX5_begin_42 ?_
  refine N_iinc hO (ls2 := [(3, .int 10), (0, .ref q), (1, .int 3), (2, .int 3)]) (z := 10) 0 dX5_begin_43 rfl (by decide) (by decide) rfl ?_
  refine N_goto hO 29 dX5_begin_46 (by decide) ?_
  refine N_iload_n hO 0 dX5_begin_29 rfl rfl ?_
  refine N_bipush hO 16 dX5_begin_30 (by decide) ?_
  refine N_geF hO 49 dX5_begin_32 (by decide) (by decide) ?_
  refine N_aload_n hO 1 dX5_begin_35 rfl rfl ?_
  refine N_get hO (kp := 0) (v := .ref (f 0)) fg_X5_9 rfl rfl dX5_begin_36 ?_
  refine N_iload_n hO 0 dX5_begin_39 rfl rfl ?_
  refine N_bipush hO 10 dX5_begin_40 (by decide) ?_
  refine N_iast hO (kp := 1) (ws2 := [(q, .inr (5, [.int 3, .int 9, .int 0, .int 0, .int 0, .ref (f 0), .ref (f 1)])), (f 0, .inl (cI, 16, .inl (upd (upd (upd (upd (upd (upd (upd (upd (upd (upd (upd (fun _ => 0) (Int32.toNatClampNeg 0) 10) (Int32.toNatClampNeg 1) 10) (Int32.toNatClampNeg 2) 10) (Int32.toNatClampNeg 3) 10) (Int32.toNatClampNeg 4) 10) (Int32.toNatClampNeg 5) 10) (Int32.toNatClampNeg 6) 10) (Int32.toNatClampNeg 7) 10) (Int32.toNatClampNeg 8) 10) (Int32.toNatClampNeg 9) 10) (Int32.toNatClampNeg 10) 10)))]) rfl (inb_in (by decide)) rfl dX5_begin_42 ?_
  refine N_iinc hO (ls2 := [(3, .int 11), (0, .ref q), (1, .int 3), (2, .int 3)]) (z := 11) 0 dX5_begin_43 rfl (by decide) (by decide) rfl ?_
  refine N_goto hO 29 dX5_begin_46 (by decide) ?_
  refine N_iload_n hO 0 dX5_begin_29 rfl rfl ?_
  refine N_bipush hO 16 dX5_begin_30 (by decide) ?_
  refine N_geF hO 49 dX5_begin_32 (by decide) (by decide) ?_
  refine N_aload_n hO 1 dX5_begin_35 rfl rfl ?_
  refine N_get hO (kp := 0) (v := .ref (f 0)) fg_X5_9 rfl rfl dX5_begin_36 ?_
  refine N_iload_n hO 0 dX5_begin_39 rfl rfl ?_
  refine N_bipush hO 10 dX5_begin_40 (by decide) ?_
  refine N_iast hO (kp := 1) (ws2 := [(q, .inr (5, [.int 3, .int 9, .int 0, .int 0, .int 0, .ref (f 0), .ref (f 1)])), (f 0, .inl (cI, 16, .inl (upd (upd (upd (upd (upd (upd (upd (upd (upd (upd (upd (upd (fun _ => 0) (Int32.toNatClampNeg 0) 10) (Int32.toNatClampNeg 1) 10) (Int32.toNatClampNeg 2) 10) (Int32.toNatClampNeg 3) 10) (Int32.toNatClampNeg 4) 10) (Int32.toNatClampNeg 5) 10) (Int32.toNatClampNeg 6) 10) (Int32.toNatClampNeg 7) 10) (Int32.toNatClampNeg 8) 10) (Int32.toNatClampNeg 9) 10) (Int32.toNatClampNeg 10) 10) (Int32.toNatClampNeg 11) 10)))]) rfl (inb_in (by decide)) rfl dX5_begin_42 ?_
  refine N_iinc hO (ls2 := [(3, .int 12), (0, .ref q), (1, .int 3), (2, .int 3)]) (z := 12) 0 dX5_begin_43 rfl (by decide) (by decide) rfl ?_
  refine N_goto hO 29 dX5_begin_46 (by decide) ?_
  refine N_iload_n hO 0 dX5_begin_29 rfl rfl ?_
  refine N_bipush hO 16 dX5_begin_30 (by decide) ?_
  refine N_geF hO 49 dX5_begin_32 (by decide) (by decide) ?_
  refine N_aload_n hO 1 dX5_begin_35 rfl rfl ?_
  refine N_get hO (kp := 0) (v := .ref (f 0)) fg_X5_9 rfl rfl dX5_begin_36 ?_
  refine N_iload_n hO 0 dX5_begin_39 rfl rfl ?_
  refine N_bipush hO 10 dX5_begin_40 (by decide) ?_
  refine N_iast hO (kp := 1) (ws2 := [(q, .inr (5, [.int 3, .int 9, .int 0, .int 0, .int 0, .ref (f 0), .ref (f 1)])), (f 0, .inl (cI, 16, .inl (upd (upd (upd (upd (upd (upd (upd (upd (upd (upd (upd (upd (upd (fun _ => 0) (Int32.toNatClampNeg 0) 10) (Int32.toNatClampNeg 1) 10) (Int32.toNatClampNeg 2) 10) (Int32.toNatClampNeg 3) 10) (Int32.toNatClampNeg 4) 10) (Int32.toNatClampNeg 5) 10) (Int32.toNatClampNeg 6) 10) (Int32.toNatClampNeg 7) 10) (Int32.toNatClampNeg 8) 10) (Int32.toNatClampNeg 9) 10) (Int32.toNatClampNeg 10) 10) (Int32.toNatClampNeg 11) 10) (Int32.toNatClampNeg 12) 10)))]) rfl (inb_in (by decide)) rfl dX5_begin_42 ?_
  refine N_iinc hO (ls2 := [(3, .int 13), (0, .ref q), (1, .int 3), (2, .int 3)]) (z := 13) 0 dX5_begin_43 rfl (by decide) (by decide) rfl ?_
  refine N_goto hO 29 dX5_begin_46 (by decide) ?_
  refine N_iload_n hO 0 dX5_begin_29 rfl rfl ?_
  refine N_bipush hO 16 dX5_begin_30 (by decide) ?_
  refine N_geF hO 49 dX5_begin_32 (by decide) (by decide) ?_
  refine N_aload_n hO 1 dX5_begin_35 rfl rfl ?_
  refine N_get hO (kp := 0) (v := .ref (f 0)) fg_X5_9 rfl rfl dX5_begin_36 ?_
  refine N_iload_n hO 0 dX5_begin_39 rfl rfl ?_
  refine N_bipush hO 10 dX5_begin_40 (by decide) ?_
  refine N_iast hO (kp := 1) (ws2 := [(q, .inr (5, [.int 3, .int 9, .int 0, .int 0, .int 0, .ref (f 0), .ref (f 1)])), (f 0, .inl (cI, 16, .inl (upd (upd (upd (upd (upd (upd (upd (upd (upd (upd (upd (upd (upd (upd (fun _ => 0) (Int32.toNatClampNeg 0) 10) (Int32.toNatClampNeg 1) 10) (Int32.toNatClampNeg 2) 10) (Int32.toNatClampNeg 3) 10) (Int32.toNatClampNeg 4) 10) (Int32.toNatClampNeg 5) 10) (Int32.toNatClampNeg 6) 10) (Int32.toNatClampNeg 7) 10) (Int32.toNatClampNeg 8) 10) (Int32.toNatClampNeg 9) 10) (Int32.toNatClampNeg 10) 10) (Int32.toNatClampNeg 11) 10) (Int32.toNatClampNeg 12) 10) (Int32.toNatClampNeg 13) 10)))]) rfl (inb_in (by decide)) rfl dX5_begin_42 ?_
  refine N_iinc hO (ls2 := [(3, .int 14), (0, .ref q), (1, .int 3), (2, .int 3)]) (z := 14) 0 dX5_begin_43 rfl (by decide) (by decide) rfl ?_
  refine N_goto hO 29 dX5_begin_46 (by decide) ?_
  refine N_iload_n hO 0 dX5_begin_29 rfl rfl ?_
  refine N_bipush hO 16 dX5_begin_30 (by decide) ?_
  refine N_geF hO 49 dX5_begin_32 (by decide) (by decide) ?_
  refine N_aload_n hO 1 dX5_begin_35 rfl rfl ?_
  refine N_get hO (kp := 0) (v := .ref (f 0)) fg_X5_9 rfl rfl dX5_begin_36 ?_
  refine N_iload_n hO 0 dX5_begin_39 rfl rfl ?_
  refine N_bipush hO 10 dX5_begin_40 (by decide) ?_
  refine N_iast hO (kp := 1) (ws2 := [(q, .inr (5, [.int 3, .int 9, .int 0, .int 0, .int 0, .ref (f 0), .ref (f 1)])), (f 0, .inl (cI, 16, .inl (upd (upd (upd (upd (upd (upd (upd (upd (upd (upd (upd (upd (upd (upd (upd (fun _ => 0) (Int32.toNatClampNeg 0) 10) (Int32.toNatClampNeg 1) 10) (Int32.toNatClampNeg 2) 10) (Int32.toNatClampNeg 3) 10) (Int32.toNatClampNeg 4) 10) (Int32.toNatClampNeg 5) 10) (Int32.toNatClampNeg 6) 10) (Int32.toNatClampNeg 7) 10) (Int32.toNatClampNeg 8) 10) (Int32.toNatClampNeg 9) 10) (Int32.toNatClampNeg 10) 10) (Int32.toNatClampNeg 11) 10) (Int32.toNatClampNeg 12) 10) (Int32.toNatClampNeg 13) 10) (Int32.toNatClampNeg 14) 10)))]) rfl (inb_in (by decide)) rfl dX5_begin_42 ?_
  refine N_iinc hO (ls2 := [(3, .int 15), (0, .ref q), (1, .int 3), (2, .int 3)]) (z := 15) 0 dX5_begin_43 rfl (by decide) (by decide) rfl ?_
  refine N_goto hO 29 dX5_begin_46 (by decide) ?_
  refine N_iload_n hO 0 dX5_begin_29 rfl rfl ?_
  refine N_bipush hO 16 dX5_begin_30 (by decide) ?_
  refine N_geF hO 49 dX5_begin_32 (by decide) (by decide) ?_
  refine N_aload_n hO 1 dX5_begin_35 rfl rfl ?_
  refine N_get hO (kp := 0) (v := .ref (f 0)) fg_X5_9 rfl rfl dX5_begin_36 ?_
  refine N_iload_n hO 0 dX5_begin_39 rfl rfl ?_
  refine N_bipush hO 10 dX5_begin_40 (by decide) ?_
  refine N_iast hO (kp := 1) (ws2 := [(q, .inr (5, [.int 3, .int 9, .int 0, .int 0, .int 0, .ref (f 0), .ref (f 1)])), (f 0, .inl (cI, 16, .inl (upd (upd (upd (upd (upd (upd (upd (upd (upd (upd (upd (upd (upd (upd (upd (upd (fun _ => 0) (Int32.toNatClampNeg 0) 10) (Int32.toNatClampNeg 1) 10) (Int32.toNatClampNeg 2) 10) (Int32.toNatClampNeg 3) 10) (Int32.toNatClampNeg 4) 10) (Int32.toNatClampNeg 5) 10) (Int32.toNatClampNeg 6) 10) (Int32.toNatClampNeg 7) 10) (Int32.toNatClampNeg 8) 10) (Int32.toNatClampNeg 9) 10) (Int32.toNatClampNeg 10) 10) (Int32.toNatClampNeg 11) 10) (Int32.toNatClampNeg 12) 10) (Int32.toNatClampNeg 13) 10) (Int32.toNatClampNeg 14) 10) (Int32.toNatClampNeg 15) 10)))]) rfl (inb_in (by decide)) rfl dX5_begin_42 ?_
  refine N_iinc hO (ls2 := [(3, .int 16), (0, .ref q), (1, .int 3), (2, .int 3)]) (z := 16) 0 dX5_begin_43 rfl (by decide) (by decide) rfl ?_
  refine N_goto hO 29 dX5_begin_46 (by decide) ?_
  refine N_iload_n hO 0 dX5_begin_29 rfl rfl ?_
  refine N_bipush hO 16 dX5_begin_30 (by decide) ?_
  refine N_geT hO 49 dX5_begin_32 (by decide) (by decide) ?_
  refine N_convI 1 (ws2 := [(q, .inr (5, [.int 3, .int 9, .int 0, .int 0, .int 0, .ref (f 0), .ref (f 1)])), (f 0, .inl (cI, 16, .inl (fun _ => 10)))]) rfl (all16 (by decide +kernel)) rfl ?_
  exact N_ret hO f hR rfl (by decide) (by decide) dX5_begin_49)
def wX7 (cI : ClassId) (h0 : Nat) (f : Nat → Nat) : va_W := [(h0, .inr (7, [.int 3, .int 3, .int 0, .ref (f 0), .ref (f 1), .int 0, .int 0, .ref (f 2), .ref (f 3), .int 0, .int 0, .int 0, .ref (f 4), .ref (f 5), .int 0, .ref (f 6), .ref (f 7), .ref (f 8), .ref (f 9), .ref (f 10), .ref (f 11), .ref (f 12), .ref (f 13), .int 0, .int (-1), .int 0, .int 0, .ref (f 14), .ref (f 15), .ref (f 16), .long 0])), (f 0, .inl (cI, 16, .inl (fun _ => 10))), (f 1, az cI 16), (f 2, az cI 80), (f 3, az cI 24), (f 4, az cI 12), (f 5, az cI 12), (f 6, az cI 1024), (f 7, az cI 64), (f 8, az cI 6), (f 9, az cI 16), (f 10, az cI 16), (f 11, az cI 16), (f 12, az cI 16), (f 13, az cI 80), (f 14, az cI 16), (f 15, az cI 16), (f 16, az cI 80)]
set_option maxHeartbeats 8000000 in
set_option maxRecDepth 100000 in
theorem K_X7_init (cI cD : ClassId) (h0 : Nat) : CtN yX7_init cX7_init 2 1 12 17 1510 cI cD [.ref h0] [(h0, .inr (7, [.int 0, .int 0, .int 0, .null, .null, .int 0, .int 0, .null, .null, .int 0, .int 0, .int 0, .null, .null, .int 0, .null, .null, .null, .null, .null, .null, .null, .null, .int 0, .int 0, .int 0, .int 0, .null, .null, .null, .long 0]))] (wX7 cI h0) := ctN_of (own := RX7) rfl (by decide +kernel) (Nat.le_of_ble_eq_true rfl) (by
  intro G hO hR hI
  show N G 2 0 [(0, .ref h0)] [] [(h0, .inr (7, [.int 0, .int 0, .int 0, .null, .null, .int 0, .int 0, .null, .null, .int 0, .int 0, .int 0, .null, .null, .int 0, .null, .null, .null, .null, .null, .null, .null, .null, .int 0, .int 0, .int 0, .int 0, .null, .null, .null, .long 0]))] 0 0
  refine N_aload_n hO 0 dX7_init_0 rfl rfl ?_
  refine N_obj hO fo_X7 (by decide) (Nat.le_of_ble_eq_true rfl) dX7_init_1 ?_
  refine N_aload_n hO 0 dX7_init_4 rfl rfl ?_
  refine N_bipush hO 16 dX7_init_5 (by decide) ?_
  refine N_newa hO (NN := 16) (ws2 := fun q0 => [(h0, .inr (7, [.int 0, .int 0, .int 0, .null, .null, .int 0, .int 0, .null, .null, .int 0, .int 0, .int 0, .null, .null, .int 0, .null, .null, .null, .null, .null, .null, .null, .null, .int 0, .int 0, .int 0, .int 0, .null, .null, .null, .long 0])), (q0, az cI 16)]) (by decide) (by decide) (by decide) ow_a (by decide) (by decide) (fun _ => rfl) dX7_init_7 (fun q0 => ?_)
  refine N_putF hO (kp := 0) (ws2 := [(h0, .inr (7, [.int 0, .int 0, .int 0, .ref q0, .null, .int 0, .int 0, .null, .null, .int 0, .int 0, .int 0, .null, .null, .int 0, .null, .null, .null, .null, .null, .null, .null, .null, .int 0, .int 0, .int 0, .int 0, .null, .null, .null, .long 0])), (q0, az cI 16)]) (hI rfl) ff_X7_7 rfl rfl rfl (Nat.le_of_ble_eq_true rfl) rfl dX7_init_9 ?_
  refine N_aload_n hO 0 dX7_init_12 rfl rfl ?_
  refine N_bipush hO 16 dX7_init_13 (by decide) ?_
  refine N_newa hO (NN := 16) (ws2 := fun q1 => [(h0, .inr (7, [.int 0, .int 0, .int 0, .ref q0, .null, .int 0, .int 0, .null, .null, .int 0, .int 0, .int 0, .null, .null, .int 0, .null, .null, .null, .null, .null, .null, .null, .null, .int 0, .int 0, .int 0, .int 0, .null, .null, .null, .long 0])), (q0, az cI 16), (q1, az cI 16)]) (by decide) (by decide) (by decide) ow_a (by decide) (by decide) (fun _ => rfl) dX7_init_15 (fun q1 => ?_)
  refine N_putF hO (kp := 0) (ws2 := [(h0, .inr (7, [.int 0, .int 0, .int 0, .ref q0, .ref q1, .int 0, .int 0, .null, .null, .int 0, .int 0, .int 0, .null, .null, .int 0, .null, .null, .null, .null, .null, .null, .null, .null, .int 0, .int 0, .int 0, .int 0, .null, .null, .null, .long 0])), (q0, az cI 16), (q1, az cI 16)]) (hI rfl) ff_X7_13 rfl rfl rfl (Nat.le_of_ble_eq_true rfl) rfl dX7_init_17 ?_
  refine N_aload_n hO 0 dX7_init_20 rfl rfl ?_
  refine N_bipush hO 80 dX7_init_21 (by decide) ?_
  refine N_newa hO (NN := 80) (ws2 := fun q2 => [(h0, .inr (7, [.int 0, .int 0, .int 0, .ref q0, .ref q1, .int 0, .int 0, .null, .null, .int 0, .int 0, .int 0, .null, .null, .int 0, .null, .null, .null, .null, .null, .null, .null, .null, .int 0, .int 0, .int 0, .int 0, .null, .null, .null, .long 0])), (q0, az cI 16), (q1, az cI 16), (q2, az cI 80)]) (by decide) (by decide) (by decide) ow_a (by decide) (by decide) (fun _ => rfl) dX7_init_23 (fun q2 => ?_)
  refine N_putF hO (kp := 0) (ws2 := [(h0, .inr (7, [.int 0, .int 0, .int 0, .ref q0, .ref q1, .int 0, .int 0, .ref q2, .null, .int 0, .int 0, .int 0, .null, .null, .int 0, .null, .null, .null, .null, .null, .null, .null, .null, .int 0, .int 0, .int 0, .int 0, .null, .null, .null, .long 0])), (q0, az cI 16), (q1, az cI 16), (q2, az cI 80)]) (hI rfl) ff_X7_16 rfl rfl rfl (Nat.le_of_ble_eq_true rfl) rfl dX7_init_25 ?_
  refine N_aload_n hO 0 dX7_init_28 rfl rfl ?_
  refine N_bipush hO 24 dX7_init_29 (by decide) ?_
  refine N_newa hO (NN := 24) (ws2 := fun q3 => [(h0, .inr (7, [.int 0, .int 0, .int 0, .ref q0, .ref q1, .int 0, .int 0, .ref q2, .null, .int 0, .int 0, .int 0, .null, .null, .int 0, .null, .null, .null, .null, .null, .null, .null, .null, .int 0, .int 0, .int 0, .int 0, .null, .null, .null, .long 0])), (q0, az cI 16), (q1, az cI 16), (q2, az cI 80), (q3, az cI 24)]) (by decide) (by decide) (by decide) ow_a (by decide) (by decide) (fun _ => rfl) dX7_init_31 (fun q3 => ?_)
  refine N_putF hO (kp := 0) (ws2 := [(h0, .inr (7, [.int 0, .int 0, .int 0, .ref q0, .ref q1, .int 0, .int 0, .ref q2, .ref q3, .int 0, .int 0, .int 0, .null, .null, .int 0, .null, .null, .null, .null, .null, .null, .null, .null, .int 0, .int 0, .int 0, .int 0, .null, .null, .null, .long 0])), (q0, az cI 16), (q1, az cI 16), (q2, az cI 80), (q3, az cI 24)]) (hI rfl) ff_X7_19 rfl rfl rfl (Nat.le_of_ble_eq_true rfl) rfl dX7_init_33 ?_
  refine N_aload_n hO 0 dX7_init_36 rfl rfl ?_
  refine N_bipush hO 12 dX7_init_37 (by decide) ?_
  refine N_newa hO (NN := 12) (ws2 := fun q4 => [(h0, .inr (7, [.int 0, .int 0, .int 0, .ref q0, .ref q1, .int 0, .int 0, .ref q2, .ref q3, .int 0, .int 0, .int 0, .null, .null, .int 0, .null, .null, .null, .null, .null, .null, .null, .null, .int 0, .int 0, .int 0, .int 0, .null, .null, .null, .long 0])), (q0, az cI 16), (q1, az cI 16), (q2, az cI 80), (q3, az cI 24), (q4, az cI 12)]) (by decide) (by decide) (by decide) ow_a (by decide) (by decide) (fun _ => rfl) dX7_init_39 (fun q4 => ?_)
  refine N_putF hO (kp := 0) (ws2 := [(h0, .inr (7, [.int 0, .int 0, .int 0, .ref q0, .ref q1, .int 0, .int 0, .ref q2, .ref q3, .int 0, .int 0, .int 0, .ref q4, .null, .int 0, .null, .null, .null, .null, .null, .null, .null, .null, .int 0, .int 0, .int 0, .int 0, .null, .null, .null, .long 0])), (q0, az cI 16), (q1, az cI 16), (q2, az cI 80), (q3, az cI 24), (q4, az cI 12)]) (hI rfl) ff_X7_22 rfl rfl rfl (Nat.le_of_ble_eq_true rfl) rfl dX7_init_41 ?_
  refine N_aload_n hO 0 dX7_init_44 rfl rfl ?_
  refine N_bipush hO 12 dX7_init_45 (by decide) ?_
  refine N_newa hO (NN := 12) (ws2 := fun q5 => [(h0, .inr (7, [.int 0, .int 0, .int 0, .ref q0, .ref q1, .int 0, .int 0, .ref q2, .ref q3, .int 0, .int 0, .int 0, .ref q4, .null, .int 0, .null, .null, .null, .null, .null, .null, .null, .null, .int 0, .int 0, .int 0, .int 0, .null, .null, .null, .long 0])), (q0, az cI 16), (q1, az cI 16), (q2, az cI 80), (q3, az cI 24), (q4, az cI 12), (q5, az cI 12)]) (by decide) (by decide) (by decide) ow_a (by decide) (by decide) (fun _ => rfl) dX7_init_47 (fun q5 => ?_)
  refine N_putF hO (kp := 0) (ws2 := [(h0, .inr (7, [.int 0, .int 0, .int 0, .ref q0, .ref q1, .int 0, .int 0, .ref q2, .ref q3, .int 0, .int 0, .int 0, .ref q4, .ref q5, .int 0, .null, .null, .null, .null, .null, .null, .null, .null, .int 0, .int 0, .int 0, .int 0, .null, .null, .null, .long 0])), (q0, az cI 16), (q1, az cI 16), (q2, az cI 80), (q3, az cI 24), (q4, az cI 12), (q5, az cI 12)]) (hI rfl) ff_X7_25 rfl rfl rfl (Nat.le_of_ble_eq_true rfl) rfl dX7_init_49 ?_
  refine N_aload_n hO 0 dX7_init_52 rfl rfl ?_
  refine N_sipush hO 1024 dX7_init_53 (by decide) ?_
  refine N_newa hO (NN := 1024) (ws2 := fun q6 => [(h0, .inr (7, [.int 0, .int 0, .int 0, .ref q0, .ref q1, .int 0, .int 0, .ref q2, .ref q3, .int 0, .int 0, .int 0, .ref q4, .ref q5, .int 0, .null, .null, .null, .null, .null, .null, .null, .null, .int 0, .int 0, .int 0, .int 0, .null, .null, .null, .long 0])), (q0, az cI 16), (q1, az cI 16), (q2, az cI 80), (q3, az cI 24), (q4, az cI 12), (q5, az cI 12), (q6, az cI 1024)]) (by decide) (by decide) (by decide) ow_a (by decide) (by decide) (fun _ => rfl) dX7_init_56 (fun q6 => ?_)
  refine N_putF hO (kp := 0) (ws2 := [(h0, .inr (7, [.int 0, .int 0, .int 0, .ref q0, .ref q1, .int 0, .int 0, .ref q2, .ref q3, .int 0, .int 0, .int 0, .ref q4, .ref q5, .int 0, .ref q6, .null, .null, .null, .null, .null, .null, .null, .int 0, .int 0, .int 0, .int 0, .null, .null, .null, .long 0])), (q0, az cI 16), (q1, az cI 16), (q2, az cI 80), (q3, az cI 24), (q4, az cI 12), (q5, az cI 12), (q6, az cI 1024)]) (hI rfl) ff_X7_28 rfl rfl rfl (Nat.le_of_ble_eq_true rfl) rfl dX7_init_58 ?_
  refine N_aload_n hO 0 dX7_init_61 rfl rfl ?_
  refine N_bipush hO 64 dX7_init_62 (by decide) ?_
  refine N_newa hO (NN := 64) (ws2 := fun q7 => [(h0, .inr (7, [.int 0, .int 0, .int 0, .ref q0, .ref q1, .int 0, .int 0, .ref q2, .ref q3, .int 0, .int 0, .int 0, .ref q4, .ref q5, .int 0, .ref q6, .null, .null, .null, .null, .null, .null, .null, .int 0, .int 0, .int 0, .int 0, .null, .null, .null, .long 0])), (q0, az cI 16), (q1, az cI 16), (q2, az cI 80), (q3, az cI 24), (q4, az cI 12), (q5, az cI 12), (q6, az cI 1024), (q7, az cI 64)]) (by decide) (by decide) (by decide) ow_a (by decide) (by decide) (fun _ => rfl) dX7_init_64 (fun q7 => ?_)
  refine N_putF hO (kp := 0) (ws2 := [(h0, .inr (7, [.int 0, .int 0, .int 0, .ref q0, .ref q1, .int 0, .int 0, .ref q2, .ref q3, .int 0, .int 0, .int 0, .ref q4, .ref q5, .int 0, .ref q6, .ref q7, .null, .null, .null, .null, .null, .null, .int 0, .int 0, .int 0, .int 0, .null, .null, .null, .long 0])), (q0, az cI 16), (q1, az cI 16), (q2, az cI 80), (q3, az cI 24), (q4, az cI 12), (q5, az cI 12), (q6, az cI 1024), (q7, az cI 64)]) (hI rfl) ff_X7_31 rfl rfl rfl (Nat.le_of_ble_eq_true rfl) rfl dX7_init_66 ?_
  refine N_aload_n hO 0 dX7_init_69 rfl rfl ?_
  refine N_bipush hO 6 dX7_init_70 (by decide) ?_
  refine N_newa hO (NN := 6) (ws2 := fun q8 => [(h0, .inr (7, [.int 0, .int 0, .int 0, .ref q0, .ref q1, .int 0, .int 0, .ref q2, .ref q3, .int 0, .int 0, .int 0, .ref q4, .ref q5, .int 0, .ref q6, .ref q7, .null, .null, .null, .null, .null, .null, .int 0, .int 0, .int 0, .int 0, .null, .null, .null, .long 0])), (q0, az cI 16), (q1, az cI 16), (q2, az cI 80), (q3, az cI 24), (q4, az cI 12), (q5, az cI 12), (q6, az cI 1024), (q7, az cI 64), (q8, az cI 6)]) (by decide) (by decide) (by decide) ow_a (by decide) (by decide) (fun _ => rfl) dX7_init_72 (fun q8 => ?_)
  refine N_putF hO (kp := 0) (ws2 := [(h0, .inr (7, [.int 0, .int 0, .int 0, .ref q0, .ref q1, .int 0, .int 0, .ref q2, .ref q3, .int 0, .int 0, .int 0, .ref q4, .ref q5, .int 0, .ref q6, .ref q7, .ref q8, .null, .null, .null, .null, .null, .int 0, .int 0, .int 0, .int 0, .null, .null, .null, .long 0])), (q0, az cI 16), (q1, az cI 16), (q2, az cI 80), (q3, az cI 24), (q4, az cI 12), (q5, az cI 12), (q6, az cI 1024), (q7, az cI 64), (q8, az cI 6)]) (hI rfl) ff_X7_34 rfl rfl rfl (Nat.le_of_ble_eq_true rfl) rfl dX7_init_74 ?_
  refine N_aload_n hO 0 dX7_init_77 rfl rfl ?_
  refine N_bipush hO 16 dX7_init_78 (by decide) ?_
  refine N_newa hO (NN := 16) (ws2 := fun q9 => [(h0, .inr (7, [.int 0, .int 0, .int 0, .ref q0, .ref q1, .int 0, .int 0, .ref q2, .ref q3, .int 0, .int 0, .int 0, .ref q4, .ref q5, .int 0, .ref q6, .ref q7, .ref q8, .null, .null, .null, .null, .null, .int 0, .int 0, .int 0, .int 0, .null, .null, .null, .long 0])), (q0, az cI 16), (q1, az cI 16), (q2, az cI 80), (q3, az cI 24), (q4, az cI 12), (q5, az cI 12), (q6, az cI 1024), (q7, az cI 64), (q8, az cI 6), (q9, az cI 16)]) (by decide) (by decide) (by decide) ow_a (by decide) (by decide) (fun _ => rfl) dX7_init_80 (fun q9 => ?_)
  refine N_putF hO (kp := 0) (ws2 := [(h0, .inr (7, [.int 0, .int 0, .int 0, .ref q0, .ref q1, .int 0, .int 0, .ref q2, .ref q3, .int 0, .int 0, .int 0, .ref q4, .ref q5, .int 0, .ref q6, .ref q7, .ref q8, .ref q9, .null, .null, .null, .null, .int 0, .int 0, .int 0, .int 0, .null, .null, .null, .long 0])), (q0, az cI 16), (q1, az cI 16), (q2, az cI 80), (q3, az cI 24), (q4, az cI 12), (q5, az cI 12), (q6, az cI 1024), (q7, az cI 64), (q8, az cI 6), (q9, az cI 16)]) (hI rfl) ff_X7_37 rfl rfl rfl (Nat.le_of_ble_eq_true rfl) rfl dX7_init_82 ?_
  refine N_aload_n hO 0 dX7_init_85 rfl rfl ?_
  refine N_bipush hO 16 dX7_init_86 (by decide) ?_
  refine N_newa hO (NN := 16) (ws2 := fun q10 => [(h0, .inr (7, [.int 0, .int 0, .int 0, .ref q0, .ref q1, .int 0, .int 0, .ref q2, .ref q3, .int 0, .int 0, .int 0, .ref q4, .ref q5, .int 0, .ref q6, .ref q7, .ref q8, .ref q9, .null, .null, .null, .null, .int 0, .int 0, .int 0, .int 0, .null, .null, .null, .long 0])), (q0, az cI 16), (q1, az cI 16), (q2, az cI 80), (q3, az cI 24), (q4, az cI 12), (q5, az cI 12), (q6, az cI 1024), (q7, az cI 64), (q8, az cI 6), (q9, az cI 16), (q10, az cI 16)]) (by decide) (by decide) (by decide) ow_a (by decide) (by decide) (fun _ => rfl) dX7_init_88 (fun q10 => ?_)
  refine N_putF hO (kp := 0) (ws2 := [(h0, .inr (7, [.int 0, .int 0, .int 0, .ref q0, .ref q1, .int 0, .int 0, .ref q2, .ref q3, .int 0, .int 0, .int 0, .ref q4, .ref q5, .int 0, .ref q6, .ref q7, .ref q8, .ref q9, .ref q10, .null, .null, .null, .int 0, .int 0, .int 0, .int 0, .null, .null, .null, .long 0])), (q0, az cI 16), (q1, az cI 16), (q2, az cI 80), (q3, az cI 24), (q4, az cI 12), (q5, az cI 12), (q6, az cI 1024), (q7, az cI 64), (q8, az cI 6), (q9, az cI 16), (q10, az cI 16)]) (hI rfl) ff_X7_40 rfl rfl rfl (Nat.le_of_ble_eq_true rfl) rfl dX7_init_90 ?_
  refine N_aload_n hO 0 dX7_init_93 rfl rfl ?_
  refine N_bipush hO 16 dX7_init_94 (by decide) ?_
  refine N_newa hO (NN := 16) (ws2 := fun q11 => [(h0, .inr (7, [.int 0, .int 0, .int 0, .ref q0, .ref q1, .int 0, .int 0, .ref q2, .ref q3, .int 0, .int 0, .int 0, .ref q4, .ref q5, .int 0, .ref q6, .ref q7, .ref q8, .ref q9, .ref q10, .null, .null, .null, .int 0, .int 0, .int 0, .int 0, .null, .null, .null, .long 0])), (q0, az cI 16), (q1, az cI 16), (q2, az cI 80), (q3, az cI 24), (q4, az cI 12), (q5, az cI 12), (q6, az cI 1024), (q7, az cI 64), (q8, az cI 6), (q9, az cI 16), (q10, az cI 16), (q11, az cI 16)]) (by decide) (by decide) (by decide) ow_a (by decide) (by decide) (fun _ => rfl) dX7_init_96 (fun q11 => ?_)
  refine N_putF hO (kp := 0) (ws2 := [(h0, .inr (7, [.int 0, .int 0, .int 0, .ref q0, .ref q1, .int 0, .int 0, .ref q2, .ref q3, .int 0, .int 0, .int 0, .ref q4, .ref q5, .int 0, .ref q6, .ref q7, .ref q8, .ref q9, .ref q10, .ref q11, .null, .null, .int 0, .int 0, .int 0, .int 0, .null, .null, .null, .long 0])), (q0, az cI 16), (q1, az cI 16), (q2, az cI 80), (q3, az cI 24), (q4, az cI 12), (q5, az cI 12), (q6, az cI 1024), (q7, az cI 64), (q8, az cI 6), (q9, az cI 16), (q10, az cI 16), (q11, az cI 16)]) (hI rfl) ff_X7_43 rfl rfl rfl (Nat.le_of_ble_eq_true rfl) rfl dX7_init_98 ?_
  refine N_aload_n hO 0 dX7_init_101 rfl rfl ?_
  refine N_bipush hO 16 dX7_init_102 (by decide) ?_
  refine N_newa hO (NN := 16) (ws2 := fun q12 => [(h0, .inr (7, [.int 0, .int 0, .int 0, .ref q0, .ref q1, .int 0, .int 0, .ref q2, .ref q3, .int 0, .int 0, .int 0, .ref q4, .ref q5, .int 0, .ref q6, .ref q7, .ref q8, .ref q9, .ref q10, .ref q11, .null, .null, .int 0, .int 0, .int 0, .int 0, .null, .null, .null, .long 0])), (q0, az cI 16), (q1, az cI 16), (q2, az cI 80), (q3, az cI 24), (q4, az cI 12), (q5, az cI 12), (q6, az cI 1024), (q7, az cI 64), (q8, az cI 6), (q9, az cI 16), (q10, az cI 16), (q11, az cI 16), (q12, az cI 16)]) (by decide) (by decide) (by decide) ow_a (by decide) (by decide) (fun _ => rfl) dX7_init_104 (fun q12 => ?_)
  refine N_putF hO (kp := 0) (ws2 := [(h0, .inr (7, [.int 0, .int 0, .int 0, .ref q0, .ref q1, .int 0, .int 0, .ref q2, .ref q3, .int 0, .int 0, .int 0, .ref q4, .ref q5, .int 0, .ref q6, .ref q7, .ref q8, .ref q9, .ref q10, .ref q11, .ref q12, .null, .int 0, .int 0, .int 0, .int 0, .null, .null, .null, .long 0])), (q0, az cI 16), (q1, az cI 16), (q2, az cI 80), (q3, az cI 24), (q4, az cI 12), (q5, az cI 12), (q6, az cI 1024), (q7, az cI 64), (q8, az cI 6), (q9, az cI 16), (q10, az cI 16), (q11, az cI 16), (q12, az cI 16)]) (hI rfl) ff_X7_46 rfl rfl rfl (Nat.le_of_ble_eq_true rfl) rfl dX7_init_106 ?_
  refine N_aload_n hO 0 dX7_init_109 rfl rfl ?_
  refine N_bipush hO 80 dX7_init_110 (by decide) ?_
  refine N_newa hO (NN := 80) (ws2 := fun q13 => [(h0, .inr (7, [.int 0, .int 0, .int 0, .ref q0, .ref q1, .int 0, .int 0, .ref q2, .ref q3, .int 0, .int 0, .int 0, .ref q4, .ref q5, .int 0, .ref q6, .ref q7, .ref q8, .ref q9, .ref q10, .ref q11, .ref q12, .null, .int 0, .int 0, .int 0, .int 0, .null, .null, .null, .long 0])), (q0, az cI 16), (q1, az cI 16), (q2, az cI 80), (q3, az cI 24), (q4, az cI 12), (q5, az cI 12), (q6, az cI 1024), (q7, az cI 64), (q8, az cI 6), (q9, az cI 16), (q10, az cI 16), (q11, az cI 16), (q12, az cI 16), (q13, az cI 80)]) (by decide) (by decide) (by decide) ow_a (by decide) (by decide) (fun _ => rfl) dX7_init_112 (fun q13 => ?_)
  refine N_putF hO (kp := 0) (ws2 := [(h0, .inr (7, [.int 0, .int 0, .int 0, .ref q0, .ref q1, .int 0, .int 0, .ref q2, .ref q3, .int 0, .int 0, .int 0, .ref q4, .ref q5, .int 0, .ref q6, .ref q7, .ref q8, .ref q9, .ref q10, .ref q11, .ref q12, .ref q13, .int 0, .int 0, .int 0, .int 0, .null, .null, .null, .long 0])), (q0, az cI 16), (q1, az cI 16), (q2, az cI 80), (q3, az cI 24), (q4, az cI 12), (q5, az cI 12), (q6, az cI 1024), (q7, az cI 64), (q8, az cI 6), (q9, az cI 16), (q10, az cI 16), (q11, az cI 16), (q12, az cI 16), (q13, az cI 80)]) (hI rfl) ff_X7_49 rfl rfl rfl (Nat.le_of_ble_eq_true rfl) rfl dX7_init_114 ?_
  refine N_aload_n hO 0 dX7_init_117 rfl rfl ?_
  refine N_bipush hO 16 dX7_init_118 (by decide) ?_
  refine N_newa hO (NN := 16) (ws2 := fun q14 => [(h0, .inr (7, [.int 0, .int 0, .int 0, .ref q0, .ref q1, .int 0, .int 0, .ref q2, .ref q3, .int 0, .int 0, .int 0, .ref q4, .ref q5, .int 0, .ref q6, .ref q7, .ref q8, .ref q9, .ref q10, .ref q11, .ref q12, .ref q13, .int 0, .int 0, .int 0, .int 0, .null, .null, .null, .long 0])), (q0, az cI 16), (q1, az cI 16), (q2, az cI 80), (q3, az cI 24), (q4, az cI 12), (q5, az cI 12), (q6, az cI 1024), (q7, az cI 64), (q8, az cI 6), (q9, az cI 16), (q10, az cI 16), (q11, az cI 16), (q12, az cI 16), (q13, az cI 80), (q14, az cI 16)]) (by decide) (by decide) (by decide) ow_a (by decide) (by decide) (fun _ => rfl) dX7_init_120 (fun q14 => ?_)
  refine N_putF hO (kp := 0) (ws2 := [(h0, .inr (7, [.int 0, .int 0, .int 0, .ref q0, .ref q1, .int 0, .int 0, .ref q2, .ref q3, .int 0, .int 0, .int 0, .ref q4, .ref q5, .int 0, .ref q6, .ref q7, .ref q8, .ref q9, .ref q10, .ref q11, .ref q12, .ref q13, .int 0, .int 0, .int 0, .int 0, .ref q14, .null, .null, .long 0])), (q0, az cI 16), (q1, az cI 16), (q2, az cI 80), (q3, az cI 24), (q4, az cI 12), (q5, az cI 12), (q6, az cI 1024), (q7, az cI 64), (q8, az cI 6), (q9, az cI 16), (q10, az cI 16), (q11, az cI 16), (q12, az cI 16), (q13, az cI 80), (q14, az cI 16)]) (hI rfl) ff_X7_52 rfl rfl rfl (Nat.le_of_ble_eq_true rfl) rfl dX7_init_122 ?_
  refine N_aload_n hO 0 dX7_init_125 rfl rfl ?_
  refine N_bipush hO 16 dX7_init_126 (by decide) ?_
  refine N_newa hO (NN := 16) (ws2 := fun q15 => [(h0, .inr (7, [.int 0, .int 0, .int 0, .ref q0, .ref q1, .int 0, .int 0, .ref q2, .ref q3, .int 0, .int 0, .int 0, .ref q4, .ref q5, .int 0, .ref q6, .ref q7, .ref q8, .ref q9, .ref q10, .ref q11, .ref q12, .ref q13, .int 0, .int 0, .int 0, .int 0, .ref q14, .null, .null, .long 0])), (q0, az cI 16), (q1, az cI 16), (q2, az cI 80), (q3, az cI 24), (q4, az cI 12), (q5, az cI 12), (q6, az cI 1024), (q7, az cI 64), (q8, az cI 6), (q9, az cI 16), (q10, az cI 16), (q11, az cI 16), (q12, az cI 16), (q13, az cI 80), (q14, az cI 16), (q15, az cI 16)]) (by decide) (by decide) (by decide) ow_a (by decide) (by decide) (fun _ => rfl) dX7_init_128 (fun q15 => ?_)
  refine N_putF hO (kp := 0) (ws2 := [(h0, .inr (7, [.int 0, .int 0, .int 0, .ref q0, .ref q1, .int 0, .int 0, .ref q2, .ref q3, .int 0, .int 0, .int 0, .ref q4, .ref q5, .int 0, .ref q6, .ref q7, .ref q8, .ref q9, .ref q10, .ref q11, .ref q12, .ref q13, .int 0, .int 0, .int 0, .int 0, .ref q14, .ref q15, .null, .long 0])), (q0, az cI 16), (q1, az cI 16), (q2, az cI 80), (q3, az cI 24), (q4, az cI 12), (q5, az cI 12), (q6, az cI 1024), (q7, az cI 64), (q8, az cI 6), (q9, az cI 16), (q10, az cI 16), (q11, az cI 16), (q12, az cI 16), (q13, az cI 80), (q14, az cI 16), (q15, az cI 16)]) (hI rfl) ff_X7_55 rfl rfl rfl (Nat.le_of_ble_eq_true rfl) rfl dX7_init_130 ?_
  refine N_aload_n hO 0 dX7_init_133 rfl rfl ?_
  refine N_bipush hO 80 dX7_init_134 (by decide) ?_
  refine N_newa hO (NN := 80) (ws2 := fun q16 => [(h0, .inr (7, [.int 0, .int 0, .int 0, .ref q0, .ref q1, .int 0, .int 0, .ref q2, .ref q3, .int 0, .int 0, .int 0, .ref q4, .ref q5, .int 0, .ref q6, .ref q7, .ref q8, .ref q9, .ref q10, .ref q11, .ref q12, .ref q13, .int 0, .int 0, .int 0, .int 0, .ref q14, .ref q15, .null, .long 0])), (q0, az cI 16), (q1, az cI 16), (q2, az cI 80), (q3, az cI 24), (q4, az cI 12), (q5, az cI 12), (q6, az cI 1024), (q7, az cI 64), (q8, az cI 6), (q9, az cI 16), (q10, az cI 16), (q11, az cI 16), (q12, az cI 16), (q13, az cI 80), (q14, az cI 16), (q15, az cI 16), (q16, az cI 80)]) (by decide) (by decide) (by decide) ow_a (by decide) (by decide) (fun _ => rfl) dX7_init_136 (fun q16 => ?_)
  refine N_putF hO (kp := 0) (ws2 := [(h0, .inr (7, [.int 0, .int 0, .int 0, .ref q0, .ref q1, .int 0, .int 0, .ref q2, .ref q3, .int 0, .int 0, .int 0, .ref q4, .ref q5, .int 0, .ref q6, .ref q7, .ref q8, .ref q9, .ref q10, .ref q11, .ref q12, .ref q13, .int 0, .int 0, .int 0, .int 0, .ref q14, .ref q15, .ref q16, .long 0])), (q0, az cI 16), (q1, az cI 16), (q2, az cI 80), (q3, az cI 24), (q4, az cI 12), (q5, az cI 12), (q6, az cI 1024), (q7, az cI 64), (q8, az cI 6), (q9, az cI 16), (q10, az cI 16), (q11, az cI 16), (q12, az cI 16), (q13, az cI 80), (q14, az cI 16), (q15, az cI 16), (q16, az cI 80)]) (hI rfl) ff_X7_58 rfl rfl rfl (Nat.le_of_ble_eq_true rfl) rfl dX7_init_138 ?_
  refine N_aload_n hO 0 dX7_init_141 rfl rfl ?_
  refine N_iconst hO (-1) dX7_init_142 (by decide) ?_
  refine N_put hO (kp := 0) (ws2 := [(h0, .inr (7, [.int 0, .int 0, .int 0, .ref q0, .ref q1, .int 0, .int 0, .ref q2, .ref q3, .int 0, .int 0, .int 0, .ref q4, .ref q5, .int 0, .ref q6, .ref q7, .ref q8, .ref q9, .ref q10, .ref q11, .ref q12, .ref q13, .int 0, .int (-1), .int 0, .int 0, .ref q14, .ref q15, .ref q16, .long 0])), (q0, az cI 16), (q1, az cI 16), (q2, az cI 80), (q3, az cI 24), (q4, az cI 12), (q5, az cI 12), (q6, az cI 1024), (q7, az cI 64), (q8, az cI 6), (q9, az cI 16), (q10, az cI 16), (q11, az cI 16), (q12, az cI 16), (q13, az cI 80), (q14, az cI 16), (q15, az cI 16), (q16, az cI 80)]) fq_X7_61 rfl rfl rfl (Nat.le_of_ble_eq_true rfl) rfl dX7_init_143 ?_
  refine N_aload_n hO 0 dX7_init_146 rfl rfl ?_
  refine N_iconst hO 3 dX7_init_147 (by decide) ?_
  refine N_put hO (kp := 0) (ws2 := [(h0, .inr (7, [.int 3, .int 0, .int 0, .ref q0, .ref q1, .int 0, .int 0, .ref q2, .ref q3, .int 0, .int 0, .int 0, .ref q4, .ref q5, .int 0, .ref q6, .ref q7, .ref q8, .ref q9, .ref q10, .ref q11, .ref q12, .ref q13, .int 0, .int (-1), .int 0, .int 0, .ref q14, .ref q15, .ref q16, .long 0])), (q0, az cI 16), (q1, az cI 16), (q2, az cI 80), (q3, az cI 24), (q4, az cI 12), (q5, az cI 12), (q6, az cI 1024), (q7, az cI 64), (q8, az cI 6), (q9, az cI 16), (q10, az cI 16), (q11, az cI 16), (q12, az cI 16), (q13, az cI 80), (q14, az cI 16), (q15, az cI 16), (q16, az cI 80)]) fq_X7_65 rfl rfl rfl (Nat.le_of_ble_eq_true rfl) rfl dX7_init_148 ?_
  refine N_aload_n hO 0 dX7_init_151 rfl rfl ?_
  refine N_iconst hO 3 dX7_init_152 (by decide) ?_
  refine N_put hO (kp := 0) (ws2 := [(h0, .inr (7, [.int 3, .int 3, .int 0, .ref q0, .ref q1, .int 0, .int 0, .ref q2, .ref q3, .int 0, .int 0, .int 0, .ref q4, .ref q5, .int 0, .ref q6, .ref q7, .ref q8, .ref q9, .ref q10, .ref q11, .ref q12, .ref q13, .int 0, .int (-1), .int 0, .int 0, .ref q14, .ref q15, .ref q16, .long 0])), (q0, az cI 16), (q1, az cI 16), (q2, az cI 80), (q3, az cI 24), (q4, az cI 12), (q5, az cI 12), (q6, az cI 1024), (q7, az cI 64), (q8, az cI 6), (q9, az cI 16), (q10, az cI 16), (q11, az cI 16), (q12, az cI 16), (q13, az cI 80), (q14, az cI 16), (q15, az cI 16), (q16, az cI 80)]) fq_X7_68 rfl rfl rfl (Nat.le_of_ble_eq_true rfl) rfl dX7_init_153 ?_
  refine N_iconst hO 0 dX7_init_156 (by decide) ?_
  refine N_istore_n hO (ls2 := [(1, .int 0), (0, .ref h0)]) dX7_init_157 rfl (by decide) rfl ?_
  refine N_iload_n hO 0 dX7_init_158 rfl rfl ?_
  refine N_bipush hO 16 dX7_init_159 (by decide) ?_
  refine N_geF hO 178 dX7_init_161 (by decide) (by decide) ?_
  refine N_aload_n hO 1 dX7_init_164 rfl rfl ?_
  refine N_get hO (kp := 0) (v := .ref q0) fg_X7_7 rfl rfl dX7_init_165 ?_
  refine N_iload_n hO 0 dX7_init_168 rfl rfl ?_
  refine N_bipush hO 10 dX7_init_169 (by decide) ?_
  refine N_iast hO (kp := 1) (ws2 := [(h0, .inr (7, [.int 3, .int 3, .int 0, .ref q0, .ref q1, .int 0, .int 0, .ref q2, .ref q3, .int 0, .int 0, .int 0, .ref q4, .ref q5, .int 0, .ref q6, .ref q7, .ref q8, .ref q9, .ref q10, .ref q11, .ref q12, .ref q13, .int 0, .int (-1), .int 0, .int 0, .ref q14, .ref q15, .ref q16, .long 0])), (q0, .inl (cI, 16, .inl (upd (fun _ => 0) (Int32.toNatClampNeg 0) 10))), (q1, az cI 16), (q2, az cI 80), (q3, az cI 24), (q4, az cI 12), (q5, az cI 12), (q6, az cI 1024), (q7, az cI 64), (q8, az cI 6), (q9, az cI 16), (q10, az cI 16), (q11, az cI 16), (q12, az cI 16), (q13, az cI 80), (q14, az cI 16), (q15, az cI 16), (q16, az cI 80)]) rfl (inb_in (by decide)) rfl dX7_init_171 ?_
  refine N_iinc hO (ls2 := [(1, .int 1), (0, .ref h0)]) (z := 1) 0 dX7_init_172 rfl (by decide) (by decide) rfl ?_
  refine N_goto hO 158 dX7_init_175 (by decide) ?_
  refine N_iload_n hO 0 dX7_init_158 rfl rfl ?_
  refine N_bipush hO 16 dX7_init_159 (by decide) ?_
  refine N_geF hO 178 dX7_init_161 (by decide) (by decide) ?_
  refine N_aload_n hO 1 dX7_init_164 rfl rfl ?_
  refine N_get hO (kp := 0) (v := .ref q0) fg_X7_7 rfl rfl dX7_init_165 ?_
  refine N_iload_n hO 0 dX7_init_168 rfl rfl ?_
  refine N_bipush hO 10 dX7_init_169 (by decide) ?_
  refine N_iast hO (kp := 1) (ws2 := [(h0, .inr (7, [.int 3, .int 3, .int 0, .ref q0, .ref q1, .int 0, .int 0, .ref q2, .ref q3, .int 0, .int 0, .int 0, .ref q4, .ref q5, .int 0, .ref q6, .ref q7, .ref q8, .ref q9, .ref q10, .ref q11, .ref q12, .ref q13, .int 0, .int (-1), .int 0, .int 0, .ref q14, .ref q15, .ref q16, .long 0])), (q0, .inl (cI, 16, .inl (upd (upd (fun _ => 0) (Int32.toNatClampNeg 0) 10) (Int32.toNatClampNeg 1) 10))), (q1, az cI 16), (q2, az cI 80), (q3, az cI 24), (q4, az cI 12), (q5, az cI 12), (q6, az cI 1024), (q7, az cI 64), (q8, az cI 6), (q9, az cI 16), (q10, az cI 16), (q11, az cI 16), (q12, az cI 16), (q13, az cI 80), (q14, az cI 16), (q15, az cI 16), (q16, az cI 80)]) rfl (inb_in (by decide)) rfl dX7_init_171 ?_
  refine N_iinc hO (ls2 := [(1, .int 2), (0, .ref h0)]) (z := 2) 0 dX7_init_172 rfl (by decide) (by decide) rfl ?_
  refine N_goto hO 158 dX7_init_175 (by decide) ?_
  refine N_iload_n hO 0 dX7_init_158 rfl rfl ?_
  refine N_bipush hO 16 dX7_init_159 (by decide) ?_
  refine N_geF hO 178 dX7_init_161 (by decide) (by decide) ?_
  refine N_aload_n hO 1 dX7_init_164 rfl rfl ?_
  refine N_get hO (kp := 0) (v := .ref q0) fg_X7_7 rfl rfl dX7_init_165 ?_
  refine N_iload_n hO 0 dX7_init_168 rfl rfl ?_
  refine N_bipush hO 10 dX7_init_169 (by decide) ?_
  refine N_iast hO (kp := 1) (ws2 := [(h0, .inr (7, [.int 3, .int 3, .int 0, .ref q0, .ref q1, .int 0, .int 0, .ref q2, .ref q3, .int 0, .int 0, .int 0, .ref q4, .ref q5, .int 0, .ref q6, .ref q7, .ref q8, .ref q9, .ref q10, .ref q11, .ref q12, .ref q13, .int 0, .int (-1), .int 0, .int 0, .ref q14, .ref q15, .ref q16, .long 0])), (q0, .inl (cI, 16, .inl (upd (upd (upd (fun _ => 0) (Int32.toNatClampNeg 0) 10) (Int32.toNatClampNeg 1) 10) (Int32.toNatClampNeg 2) 10))), (q1, az cI 16), (q2, az cI 80), (q3, az cI 24), (q4, az cI 12), (q5, az cI 12), (q6, az cI 1024), (q7, az cI 64), (q8, az cI 6), (q9, az cI 16), (q10, az cI 16), (q11, az cI 16), (q12, az cI 16), (q13, az cI 80), (q14, az cI 16), (q15, az cI 16), (q16, az cI 80)]) rfl (inb_in (by decide)) rfl dX7_init_171 ?_
  refine N_iinc hO (ls2 := [(1, .int 3), (0, .ref h0)]) (z := 3) 0 dX7_init_172 rfl (by decide) (by decide) rfl ?_
  refine N_goto hO 158 dX7_init_175 (by decide) ?_
  refine N_iload_n hO 0 dX7_init_158 rfl rfl ?_
  refine N_bipush hO 16 dX7_init_159 (by decide) ?_
  refine N_geF hO 178 dX7_init_161 (by decide) (by decide) ?_
  refine N_aload_n hO 1 dX7_init_164 rfl rfl ?_
  refine N_get hO (kp := 0) (v := .ref q0) fg_X7_7 rfl rfl dX7_init_165 ?_
  refine N_iload_n hO 0 dX7_init_168 rfl rfl ?_
  refine N_bipush hO 10 dX7_init_169 (by decide) ?_
  refine N_iast hO (kp := 1) (ws2 := [(h0, .inr (7, [.int 3, .int 3, .int 0, .ref q0, .ref q1, .int 0, .int 0, .ref q2, .ref q3, .int 0, .int 0, .int 0, .ref q4, .ref q5, .int 0, .ref q6, .ref q7, .ref q8, .ref q9, .ref q10, .ref q11, .ref q12, .ref q13, .int 0, .int (-1), .int 0, .int 0, .ref q14, .ref q15, .ref q16, .long 0])), (q0, .inl (cI, 16, .inl (upd (upd (upd (upd (fun _ => 0) (Int32.toNatClampNeg 0) 10) (Int32.toNatClampNeg 1) 10) (Int32.toNatClampNeg 2) 10) (Int32.toNatClampNeg 3) 10))), (q1, az cI 16), (q2, az cI 80), (q3, az cI 24), (q4, az cI 12), (q5, az cI 12), (q6, az cI 1024), (q7, az cI 64), (q8, az cI 6), (q9, az cI 16), (q10, az cI 16), (q11, az cI 16), (q12, az cI 16), (q13, az cI 80), (q14, az cI 16), (q15, az cI 16), (q16, az cI 80)]) rfl (inb_in (by decide)) rfl dX7_init_171 ?_
  refine N_iinc hO (ls2 := [(1, .int 4), (0, .ref h0)]) (z := 4) 0 dX7_init_172 rfl (by decide) (by decide) rfl ?_
  refine N_goto hO 158 dX7_init_175 (by decide) ?_
  refine N_iload_n hO 0 dX7_init_158 rfl rfl ?_
  refine N_bipush hO 16 dX7_init_159 (by decide) ?_
  refine N_geF hO 178 dX7_init_161 (by decide) (by decide) ?_
  refine N_aload_n hO 1 dX7_init_164 rfl rfl ?_
  refine N_get hO (kp := 0) (v := .ref q0) fg_X7_7 rfl rfl dX7_init_165 ?_
  refine N_iload_n hO 0 dX7_init_168 rfl rfl ?_
  refine N_bipush hO 10 dX7_init_169 (by decide) ?_
  refine N_iast hO (kp := 1) (ws2 := [(h0, .inr (7, [.int 3, .int 3, .int 0, .ref q0, .ref q1, .int 0, .int 0, .ref q2, .ref q3, .int 0, .int 0, .int 0, .ref q4, .ref q5, .int 0, .ref q6, .ref q7, .ref q8, .ref q9, .ref q10, .ref q11, .ref q12, .ref q13, .int 0, .int (-1), .int 0, .int 0, .ref q14, .ref q15, .ref q16, .long 0])), (q0, .inl (cI, 16, .inl (upd (upd (upd (upd (upd (fun _ => 0) (Int32.toNatClampNeg 0) 10) (Int32.toNatClampNeg 1) 10) (Int32.toNatClampNeg 2) 10) (Int32.toNatClampNeg 3) 10) (Int32.toNatClampNeg 4) 10))), (q1, az cI 16), (q2, az cI 80), (q3, az cI 24), (q4, az cI 12), (q5, az cI 12), (q6, az cI 1024), (q7, az cI 64), (q8, az cI 6), (q9, az cI 16), (q10, az cI 16), (q11, az cI 16), (q12, az cI 16), (q13, az cI 80), (q14, az cI 16), (q15, az cI 16), (q16, az cI 80)]) rfl (inb_in (by decide)) rfl dX7_init_171 ?_
  refine N_iinc hO (ls2 := [(1, .int 5), (0, .ref h0)]) (z := 5) 0 dX7_init_172 rfl (by decide) (by decide) rfl ?_
  refine N_goto hO 158 dX7_init_175 (by decide) ?_
  refine N_iload_n hO 0 dX7_init_158 rfl rfl ?_
  refine N_bipush hO 16 dX7_init_159 (by decide) ?_
  refine N_geF hO 178 dX7_init_161 (by decide) (by decide) ?_
  refine N_aload_n hO 1 dX7_init_164 rfl rfl ?_
  refine N_get hO (kp := 0) (v := .ref q0) fg_X7_7 rfl rfl dX7_init_165 ?_
  refine N_iload_n hO 0 dX7_init_168 rfl rfl ?_
  refine N_bipush hO 10 dX7_init_169 (by decide) ?_
  refine N_iast hO (kp := 1) (ws2 := [(h0, .inr (7, [.int 3, .int 3, .int 0, .ref q0, .ref q1, .int 0, .int 0, .ref q2, .ref q3, .int 0, .int 0, .int 0, .ref q4, .ref q5, .int 0, .ref q6, .ref q7, .ref q8, .ref q9, .ref q10, .ref q11, .ref q12, .ref q13, .int 0, .int (-1), .int 0, .int 0, .ref q14, .ref q15, .ref q16, .long 0])), (q0, .inl (cI, 16, .inl (upd (upd (upd (upd (upd (upd (fun _ => 0) (Int32.toNatClampNeg 0) 10) (Int32.toNatClampNeg 1) 10) (Int32.toNatClampNeg 2) 10) (Int32.toNatClampNeg 3) 10) (Int32.toNatClampNeg 4) 10) (Int32.toNatClampNeg 5) 10))), (q1, az cI 16), (q2, az cI 80), (q3, az cI 24), (q4, az cI 12), (q5, az cI 12), (q6, az cI 1024), (q7, az cI 64), (q8, az cI 6), (q9, az cI 16), (q10, az cI 16), (q11, az cI 16), (q12, az cI 16), (q13, az cI 80), (q14, az cI 16), (q15, az cI 16), (q16, az cI 80)]) rfl (inb_in (by decide)) rfl dX7_init_171 ?_
  refine N_iinc hO (ls2 := [(1, .int 6), (0, .ref h0)]) (z := 6) 0 dX7_init_172 rfl (by decide) (by decide) rfl ?_
  refine N_goto hO 158 dX7_init_175 (by decide) ?_
  refine N_iload_n hO 0 dX7_init_158 rfl rfl ?_
  refine N_bipush hO 16 dX7_init_159 (by decide) ?_
  refine N_geF hO 178 dX7_init_161 (by decide) (by decide) ?_
  refine N_aload_n hO 1 dX7_init_164 rfl rfl ?_
  refine N_get hO (kp := 0) (v := .ref q0) fg_X7_7 rfl rfl dX7_init_165 ?_
  refine N_iload_n hO 0 dX7_init_168 rfl rfl ?_
  refine N_bipush hO 10 dX7_init_169 (by decide) ?_
  refine N_iast hO (kp := 1) (ws2 := [(h0, .inr (7, [.int 3, .int 3, .int 0, .ref q0, .ref q1, .int 0, .int 0, .ref q2, .ref q3, .int 0, .int 0, .int 0, .ref q4, .ref q5, .int 0, .ref q6, .ref q7, .ref q8, .ref q9, .ref q10, .ref q11, .ref q12, .ref q13, .int 0, .int (-1), .int 0, .int 0, .ref q14, .ref q15, .ref q16, .long 0])), (q0, .inl (cI, 16, .inl (upd (upd (upd (upd (upd (upd (upd (fun _ => 0) (Int32.toNatClampNeg 0) 10) (Int32.toNatClampNeg 1) 10) (Int32.toNatClampNeg 2) 10) (Int32.toNatClampNeg 3) 10) (Int32.toNatClampNeg 4) 10) (Int32.toNatClampNeg 5) 10) (Int32.toNatClampNeg 6) 10))), (q1, az cI 16), (q2, az cI 80), (q3, az cI 24), (q4, az cI 12), (q5, az cI 12), (q6, az cI 1024), (q7, az cI 64), (q8, az cI 6), (q9, az cI 16), (q10, az cI 16), (q11, az cI 16), (q12, az cI 16), (q13, az cI 80), (q14, az cI 16), (q15, az cI 16), (q16, az cI 80)]) rfl (inb_in (by decide)) rfl dX7_init_171 ?_
  refine N_iinc hO (ls2 := [(1, .int 7), (0, .ref h0)]) (z := 7) 0 dX7_init_172 rfl (by decide) (by decide) rfl ?_
  refine N_goto hO 158 dX7_init_175 (by decide) ?_
  refine N_iload_n hO 0 dX7_init_158 rfl rfl ?_
  refine N_bipush hO 16 dX7_init_159 (by decide) ?_
  refine N_geF hO 178 dX7_init_161 (by decide) (by decide) ?_
  refine N_aload_n hO 1 dX7_init_164 rfl rfl ?_
  refine N_get hO (kp := 0) (v := .ref q0) fg_X7_7 rfl rfl dX7_init_165 ?_
  refine N_iload_n hO 0 dX7_init_168 rfl rfl ?_
  refine N_bipush hO 10 dX7_init_169 (by decide) ?_
  refine N_iast hO (kp := 1) (ws2 := [(h0, .inr (7, [.int 3, .int 3, .int 0, .ref q0, .ref q1, .int 0, .int 0, .ref q2, .ref q3, .int 0, .int 0, .int 0, .ref q4, .ref q5, .int 0, .ref q6, .ref q7, .ref q8, .ref q9, .ref q10, .ref q11, .ref q12, .ref q13, .int 0, .int (-1), .int 0, .int 0, .ref q14, .ref q15, .ref q16, .long 0])), (q0, .inl (cI, 16, .inl (upd (upd (upd (upd (upd (upd (upd (upd (fun _ => 0) (Int32.toNatClampNeg 0) 10) (Int32.toNatClampNeg 1) 10) (Int32.toNatClampNeg 2) 10) (Int32.toNatClampNeg 3) 10) (Int32.toNatClampNeg 4) 10) (Int32.toNatClampNeg 5) 10) (Int32.toNatClampNeg 6) 10) (Int32.toNatClampNeg 7) 10))), (q1, az cI 16), (q2, az cI 80), (q3, az cI 24), (q4, az cI 12), (q5, az cI 12), (q6, az cI 1024), (q7, az cI 64), (q8, az cI 6), (q9, az cI 16), (q10, az cI 16), (q11, az cI 16), (q12, az cI 16), (q13, az cI 80), (q14, az cI 16), (q15, az cI 16), (q16, az cI 80)]) rfl (inb_in (by decide)) rfl dX7_init_171 ?_
  refine N_iinc hO (ls2 := [(1, .int 8), (0, .ref h0)]) (z := 8) 0 dX7_init_172 rfl (by decide) (by decide) rfl ?_
  refine N_goto hO 158 dX7_init_175 (by decide) ?_
  refine N_iload_n hO 0 dX7_init_158 rfl rfl ?_
  refine N_bipush hO 16 dX7_init_159 (by decide) ?_
  refine N_geF hO 178 dX7_init_161 (by decide) (by decide) ?_
  refine N_aload_n hO 1 dX7_init_164 rfl rfl ?_
  refine N_get hO (kp := 0) (v := .ref q0) fg_X7_7 rfl rfl dX7_init_165 ?_
  refine N_iload_n hO 0 dX7_init_168 rfl rfl ?_
  refine N_bipush hO 10 dX7_init_169 (by decide) ?_
  refine N_iast hO (kp := 1) (ws2 := [(h0, .inr (7, [.int 3, .int 3, .int 0, .ref q0, .ref q1, .int 0, .int 0, .ref q2, .ref q3, .int 0, .int 0, .int 0, .ref q4, .ref q5, .int 0, .ref q6, .ref q7, .ref q8, .ref q9, .ref q10, .ref q11, .ref q12, .ref q13, .int 0, .int (-1), .int 0, .int 0, .ref q14, .ref q15, .ref q16, .long 0])), (q0, .inl (cI, 16, .inl (upd (upd (upd (upd (upd (upd (upd (upd (upd (fun _ => 0) (Int32.toNatClampNeg 0) 10) (Int32.toNatClampNeg 1) 10) (Int32.toNatClampNeg 2) 10) (Int32.toNatClampNeg 3) 10) (Int32.toNatClampNeg 4) 10) (Int32.toNatClampNeg 5) 10) (Int32.toNatClampNeg 6) 10) (Int32.toNatClampNeg 7) 10) (Int32.toNatClampNeg 8) 10))), (q1, az cI 16), (q2, az cI 80), (q3, az cI 24), (q4, az cI 12), (q5, az cI 12), (q6, az cI 1024), (q7, az cI 64), (q8, az cI 6), (q9, az cI 16), (q10, az cI 16), (q11, az cI 16), (q12, az cI 16), (q13, az cI 80), (q14, az cI 16), (q15, az cI 16), (q16, az cI 80)]) rfl (inb_in (by decide)) rfl dX7_init_171 ?_
  refine N_iinc hO (ls2 := [(1, .int 9), (0, .ref h0)]) (z := 9) 0 dX7_init_172 rfl (by decide) (by decide) rfl ?_
  refine N_goto hO 158 dX7_init_175 (by decide) ?_
  refine N_iload_n hO 0 dX7_init_158 rfl rfl ?_
  refine N_bipush hO 16 dX7_init_159 (by decide) ?_
  refine N_geF hO 178 dX7_init_161 (by decide) (by decide) ?_
  refine N_aload_n hO 1 dX7_init_164 rfl rfl ?_
  refine N_get hO (kp := 0) (v := .ref q0) fg_X7_7 rfl rfl dX7_init_165 ?_
  refine N_iload_n hO 0 dX7_init_168 rfl rfl ?_
  refine N_bipush hO 10 dX7_init_169 (by decide) ?_
  refine N_iast hO (kp := 1) (ws2 := [(h0, .inr (7, [.int 3, .int 3, .int 0, .ref q0, .ref q1, .int 0, .int 0, .ref q2, .ref q3, .int 0, .int 0, .int 0, .ref q4, .ref q5, .int 0, .ref q6, .ref q7, .ref q8, .ref q9, .ref q10, .ref q11, .ref q12, .ref q13, .int 0, .int (-1), .int 0, .int 0, .ref q14, .ref q15, .ref q16, .long 0])), (q0, .inl (cI, 16, .inl (upd (upd (upd (upd (upd (upd (upd (upd (upd (upd (fun _ => 0) (Int32.toNatClampNeg 0) 10) (Int32.toNatClampNeg 1) 10) (Int32.toNatClampNeg 2) 10) (Int32.toNatClampNeg 3) 10) (Int32.toNatClampNeg 4) 10) (Int32.toNatClampNeg 5) 10) (Int32.toNatClampNeg 6) 10) (Int32.toNatClampNeg 7) 10) (Int32.toNatClampNeg 8) 10) (Int32.toNatClampNeg 9) 10))), (q1, az cI 16), (q2, az cI 80), (q3, az cI 24), (q4, az cI 12), (q5, az cI 12), (q6, az cI 1024), (q7, az cI 64), (q8, az cI 6), (q9, az cI 16), (q10, az cI 16), (q11, az cI 16), (q12, az cI 16), (q13, az cI 80), (q14, az cI 16), (q15, az cI 16), (q16, az cI 80)]) rfl (inb_in (by decide)) rfl dX7_init_171 ?_
  refine N_iinc hO (ls2 := [(1, .int 10), (0, .ref h0)]) (z := 10) 0 dX7_init_172 rfl (by decide) (by decide) rfl ?_
  refine N_goto hO 158 dX7_init_175 (by decide) ?_
  refine N_iload_n hO 0 dX7_init_158 rfl rfl ?_
  refine N_bipush hO 16 dX7_init_159 (by decide) ?_
  refine N_geF hO 178 dX7_init_161 (by decide) (by decide) ?_
  refine N_aload_n hO 1 dX7_init_164 rfl rfl ?_
  refine N_get hO (kp := 0) (v := .ref q0) fg_X7_7 rfl rfl dX7_init_165 ?_
  refine N_iload_n hO 0 dX7_init_168 rfl rfl ?_
  refine N_bipush hO 10 dX7_init_169 (by decide) ?_
  refine N_iast hO (kp := 1) (ws2 := [(h0, .inr (7, [.int 3, .int 3, .int 0, .ref q0, .ref q1, .int 0, .int 0, .ref q2, .ref q3, .int 0, .int 0, .int 0, .ref q4, .ref q5, .int 0, .ref q6, .ref q7, .ref q8, .ref q9, .ref q10, .ref q11, .ref q12, .ref q13, .int 0, .int (-1), .int 0, .int 0, .ref q14, .ref q15, .ref q16, .long 0])), (q0, .inl (cI, 16, .inl (upd (upd (upd (upd (upd (upd (upd (upd (upd (upd (upd (fun _ => 0) (Int32.toNatClampNeg 0) 10) (Int32.toNatClampNeg 1) 10) (Int32.toNatClampNeg 2) 10) (Int32.toNatClampNeg 3) 10) (Int32.toNatClampNeg 4) 10) (Int32.toNatClampNeg 5) 10) (Int32.toNatClampNeg 6) 10) (Int32.toNatClampNeg 7) 10) (Int32.toNatClampNeg 8) 10) (Int32.toNatClampNeg 9) 10) (Int32.toNatClampNeg 10) 10))), (q1, az cI 16), (q2, az cI 80), (q3, az cI 24), (q4, az cI 12), (q5, az cI 12), (q6, az cI 1024), (q7, az cI 64), (q8, az cI 6), (q9, az cI 16), (q10, az cI 16), (q11, az cI 16), (q12, az cI 16), (q13, az cI 80), (q14, az cI 16), (q15, az cI 16), (q16, az cI 80)]) rfl (inb_in (by decide)) rfl dX7_init_171 ?_
  refine N_iinc hO (ls2 := [(1, .int 11), (0, .ref h0)]) (z := 11) 0 dX7_init_172 rfl (by decide) (by decide) rfl ?_
  refine N_goto hO 158 dX7_init_175 (by decide) ?_
  refine N_iload_n hO 0 dX7_init_158 rfl rfl ?_
  refine N_bipush hO 16 dX7_init_159 (by decide) ?_
  refine N_geF hO 178 dX7_init_161 (by decide) (by decide) ?_
  refine N_aload_n hO 1 dX7_init_164 rfl rfl ?_
  refine N_get hO (kp := 0) (v := .ref q0) fg_X7_7 rfl rfl dX7_init_165 ?_
  refine N_iload_n hO 0 dX7_init_168 rfl rfl ?_
  refine N_bipush hO 10 dX7_init_169 (by decide) ?_
  refine N_iast hO (kp := 1) (ws2 := [(h0, .inr (7, [.int 3, .int 3, .int 0, .ref q0, .ref q1, .int 0, .int 0, .ref q2, .ref q3, .int 0, .int 0, .int 0, .ref q4, .ref q5, .int 0, .ref q6, .ref q7, .ref q8, .ref q9, .ref q10, .ref q11, .ref q12, .ref q13, .int 0, .int (-1), .int 0, .int 0, .ref q14, .ref q15, .ref q16, .long 0])), (q0, .inl (cI, 16, .inl (upd (upd (upd (upd (upd (upd (upd (upd (upd (upd (upd (upd (fun _ => 0) (Int32.toNatClampNeg 0) 10) (Int32.toNatClampNeg 1) 10) (Int32.toNatClampNeg 2) 10) (Int32.toNatClampNeg 3) 10) (Int32.toNatClampNeg 4) 10) (Int32.toNatClampNeg 5) 10) (Int32.toNatClampNeg 6) 10) (Int32.toNatClampNeg 7) 10) (Int32.toNatClampNeg 8) 10) (Int32.toNatClampNeg 9) 10) (Int32.toNatClampNeg 10) 10) (Int32.toNatClampNeg 11) 10))), (q1, az cI 16), (q2, az cI 80), (q3, az cI 24), (q4, az cI 12), (q5, az cI 12), (q6, az cI 1024), (q7, az cI 64), (q8, az cI 6), (q9, az cI 16), (q10, az cI 16), (q11, az cI 16), (q12, az cI 16), (q13, az cI 80), (q14, az cI 16), (q15, az cI 16), (q16, az cI 80)]) rfl (inb_in (by decide)) rfl dX7_init_171 ?_
  refine N_iinc hO (ls2 := [(1, .int 12), (0, .ref h0)]) (z := 12) 0 dX7_init_172 rfl (by decide) (by decide) rfl ?_
  refine N_goto hO 158 dX7_init_175 (by decide) ?_
  refine N_iload_n hO 0 dX7_init_158 rfl rfl ?_
  refine N_bipush hO 16 dX7_init_159 (by decide) ?_
  refine N_geF hO 178 dX7_init_161 (by decide) (by decide) ?_
  refine N_aload_n hO 1 dX7_init_164 rfl rfl ?_
  refine N_get hO (kp := 0) (v := .ref q0) fg_X7_7 rfl rfl dX7_init_165 ?_
  refine N_iload_n hO 0 dX7_init_168 rfl rfl ?_
  refine N_bipush hO 10 dX7_init_169 (by decide) ?_
  refine N_iast hO (kp := 1) (ws2 := [(h0, .inr (7, [.int 3, .int 3, .int 0, .ref q0, .ref q1, .int 0, .int 0, .ref q2, .ref q3, .int 0, .int 0, .int 0, .ref q4, .ref q5, .int 0, .ref q6, .ref q7, .ref q8, .ref q9, .ref q10, .ref q11, .ref q12, .ref q13, .int 0, .int (-1), .int 0, .int 0, .ref q14, .ref q15, .ref q16, .long 0])), (q0, .inl (cI, 16, .inl (upd (upd (upd (upd (upd (upd (upd (upd (upd (upd (upd (upd (upd (fun _ => 0) (Int32.toNatClampNeg 0) 10) (Int32.toNatClampNeg 1) 10) (Int32.toNatClampNeg 2) 10) (Int32.toNatClampNeg 3) 10) (Int32.toNatClampNeg 4) 10) (Int32.toNatClampNeg 5) 10) (Int32.toNatClampNeg 6) 10) (Int32.toNatClampNeg 7) 10) (Int32.toNatClampNeg 8) 10) (Int32.toNatClampNeg 9) 10) (Int32.toNatClampNeg 10) 10) (Int32.toNatClampNeg 11) 10) (Int32.toNatClampNeg 12) 10))), (q1, az cI 16), (q2, az cI 80), (q3, az cI 24), (q4, az cI 12), (q5, az cI 12), (q6, az cI 1024), (q7, az cI 64), (q8, az cI 6), (q9, az cI 16), (q10, az cI 16), (q11, az cI 16), (q12, az cI 16), (q13, az cI 80), (q14, az cI 16), (q15, az cI 16), (q16, az cI 80)]) rfl (inb_in (by decide)) rfl dX7_init_171 ?_
  refine N_iinc hO (ls2 := [(1, .int 13), (0, .ref h0)]) (z := 13) 0 dX7_init_172 rfl (by decide) (by decide) rfl ?_
  refine N_goto hO 158 dX7_init_175 (by decide) ?_
  refine N_iload_n hO 0 dX7_init_158 rfl rfl ?_
  refine N_bipush hO 16 dX7_init_159 (by decide) ?_
  refine N_geF hO 178 dX7_init_161 (by decide) (by decide) ?_
  refine N_aload_n hO 1 dX7_init_164 rfl rfl ?_
  refine N_get hO (kp := 0) (v := .ref q0) fg_X7_7 rfl rfl dX7_init_165 ?_
  refine N_iload_n hO 0 dX7_init_168 rfl rfl ?_
  refine N_bipush hO 10 dX7_init_169 (by decide) ?_
  refine N_iast hO (kp := 1) (ws2 := [(h0, .inr (7, [.int 3, .int 3, .int 0, .ref q0, .ref q1, .int 0, .int 0, .ref q2, .ref q3, .int 0, .int 0, .int 0, .ref q4, .ref q5, .int 0, .ref q6, .ref q7, .ref q8, .ref q9, .ref q10, .ref q11, .ref q12, .ref q13, .int 0, .int (-1), .int 0, .int 0, .ref q14, .ref q15, .ref q16, .long 0])), (q0, .inl (cI, 16, .inl (upd (upd (upd (upd (upd (upd (upd (upd (upd (upd (upd (upd (upd (upd (fun _ => 0) (Int32.toNatClampNeg 0) 10) (Int32.toNatClampNeg 1) 10) (Int32.toNatClampNeg 2) 10) (Int32.toNatClampNeg 3) 10) (Int32.toNatClampNeg 4) 10) (Int32.toNatClampNeg 5) 10) (Int32.toNatClampNeg 6) 10) (Int32.toNatClampNeg 7) 10) (Int32.toNatClampNeg 8) 10) (Int32.toNatClampNeg 9) 10) (Int32.toNatClampNeg 10) 10) (Int32.toNatClampNeg 11) 10) (Int32.toNatClampNeg 12) 10) (Int32.toNatClampNeg 13) 10))), (q1, az cI 16), (q2, az cI 80), (q3, az cI 24), (q4, az cI 12), (q5, az cI 12), (q6, az cI 1024), (q7, az cI 64), (q8, az cI 6), (q9, az cI 16), (q10, az cI 16), (q11, az cI 16), (q12, az cI 16), (q13, az cI 80), (q14, az cI 16), (q15, az cI 16), (q16, az cI 80)]) rfl (inb_in (by decide)) rfl dX7_init_171 ?_
  refine N_iinc hO (ls2 := [(1, .int 14), (0, .ref h0)]) (z := 14) 0 dX7_init_172 rfl (by decide) (by decide) rfl ?_
  refine N_goto hO 158 dX7_init_175 (by decide) ?_
  refine N_iload_n hO 0 dX7_init_158 rfl rfl ?_
  refine N_bipush hO 16 dX7_init_159 (by decide) ?_
  refine N_geF hO 178 dX7_init_161 (by decide) (by decide) ?_
  refine N_aload_n hO 1 dX7_init_164 rfl rfl ?_
  refine N_get hO (kp := 0) (v := .ref q0) fg_X7_7 rfl rfl dX7_init_165 ?_
  refine N_iload_n hO 0 dX7_init_168 rfl rfl ?_
  refine N_bipush hO 10 dX7_init_169 (by decide) ?_
  refine N_iast hO (kp := 1) (ws2 := [(h0, .inr (7, [.int 3, .int 3, .int 0, .ref q0, .ref q1, .int 0, .int 0, .ref q2, .ref q3, .int 0, .int 0, .int 0, .ref q4, .ref q5, .int 0, .ref q6, .ref q7, .ref q8, .ref q9, .ref q10, .ref q11, .ref q12, .ref q13, .int 0, .int (-1), .int 0, .int 0, .ref q14, .ref q15, .ref q16, .long 0])), (q0, .inl (cI, 16, .inl (upd (upd (upd (upd (upd (upd (upd (upd (upd (upd (upd (upd (upd (upd (upd (fun _ => 0) (Int32.toNatClampNeg 0) 10) (Int32.toNatClampNeg 1) 10) (Int32.toNatClampNeg 2) 10) (Int32.toNatClampNeg 3) 10) (Int32.toNatClampNeg 4) 10) (Int32.toNatClampNeg 5) 10) (Int32.toNatClampNeg 6) 10) (Int32.toNatClampNeg 7) 10) (Int32.toNatClampNeg 8) 10) (Int32.toNatClampNeg 9) 10) (Int32.toNatClampNeg 10) 10) (Int32.toNatClampNeg 11) 10) (Int32.toNatClampNeg 12) 10) (Int32.toNatClampNeg 13) 10) (Int32.toNatClampNeg 14) 10))), (q1, az cI 16), (q2, az cI 80), (q3, az cI 24), (q4, az cI 12), (q5, az cI 12), (q6, az cI 1024), (q7, az cI 64), (q8, az cI 6), (q9, az cI 16), (q10, az cI 16), (q11, az cI 16), (q12, az cI 16), (q13, az cI 80), (q14, az cI 16), (q15, az cI 16), (q16, az cI 80)]) rfl (inb_in (by decide)) rfl dX7_init_171 ?_
  refine N_iinc hO (ls2 := [(1, .int 15), (0, .ref h0)]) (z := 15) 0 dX7_init_172 rfl (by decide) (by decide) rfl ?_
  refine N_goto hO 158 dX7_init_175 (by decide) ?_
  refine N_iload_n hO 0 dX7_init_158 rfl rfl ?_
  refine N_bipush hO 16 dX7_init_159 (by decide) ?_
  refine N_geF hO 178 dX7_init_161 (by decide) (by decide) ?_
  refine N_aload_n hO 1 dX7_init_164 rfl rfl ?_
  refine N_get hO (kp := 0) (v := .ref q0) fg_X7_7 rfl rfl dX7_init_165 ?_
  refine N_iload_n hO 0 dX7_init_168 rfl rfl ?_
  refine N_bipush hO 10 dX7_init_169 (by decide) ?_
  refine N_iast hO (kp := 1) (ws2 := [(h0, .inr (7, [.int 3, .int 3, .int 0, .ref q0, .ref q1, .int 0, .int 0, .ref q2, .ref q3, .int 0, .int 0, .int 0, .ref q4, .ref q5, .int 0, .ref q6, .ref q7, .ref q8, .ref q9, .ref q10, .ref q11, .ref q12, .ref q13, .int 0, .int (-1), .int 0, .int 0, .ref q14, .ref q15, .ref q16, .long 0])), (q0, .inl (cI, 16, .inl (upd (upd (upd (upd (upd (upd (upd (upd (upd (upd (upd (upd (upd (upd (upd (upd (fun _ => 0) (Int32.toNatClampNeg 0) 10) (Int32.toNatClampNeg 1) 10) (Int32.toNatClampNeg 2) 10) (Int32.toNatClampNeg 3) 10) (Int32.toNatClampNeg 4) 10) (Int32.toNatClampNeg 5) 10) (Int32.toNatClampNeg 6) 10) (Int32.toNatClampNeg 7) 10) (Int32.toNatClampNeg 8) 10) (Int32.toNatClampNeg 9) 10) (Int32.toNatClampNeg 10) 10) (Int32.toNatClampNeg 11) 10) (Int32.toNatClampNeg 12) 10) (Int32.toNatClampNeg 13) 10) (Int32.toNatClampNeg 14) 10) (Int32.toNatClampNeg 15) 10))), (q1, az cI 16), (q2, az cI 80), (q3, az cI 24), (q4, az cI 12), (q5, az cI 12), (q6, az cI 1024), (q7, az cI 64), (q8, az cI 6), (q9, az cI 16), (q10, az cI 16), (q11, az cI 16), (q12, az cI 16), (q13, az cI 80), (q14, az cI 16), (q15, az cI 16), (q16, az cI 80)]) rfl (inb_in (by decide)) rfl dX7_init_171 ?_
  refine N_iinc hO (ls2 := [(1, .int 16), (0, .ref h0)]) (z := 16) 0 dX7_init_172 rfl (by decide) (by decide) rfl ?_
  refine N_goto hO 158 dX7_init_175 (by decide) ?_
  refine N_iload_n hO 0 dX7_init_158 rfl rfl ?_
  refine N_bipush hO 16 dX7_init_159 (by decide) ?_
  refine N_geT hO 178 dX7_init_161 (by decide) (by decide) ?_
  refine N_convI 1 (ws2 := [(h0, .inr (7, [.int 3, .int 3, .int 0, .ref q0, .ref q1, .int 0, .int 0, .ref q2, .ref q3, .int 0, .int 0, .int 0, .ref q4, .ref q5, .int 0, .ref q6, .ref q7, .ref q8, .ref q9, .ref q10, .ref q11, .ref q12, .ref q13, .int 0, .int (-1), .int 0, .int 0, .ref q14, .ref q15, .ref q16, .long 0])), (q0, .inl (cI, 16, .inl (fun _ => 10))), (q1, az cI 16), (q2, az cI 80), (q3, az cI 24), (q4, az cI 12), (q5, az cI 12), (q6, az cI 1024), (q7, az cI 64), (q8, az cI 6), (q9, az cI 16), (q10, az cI 16), (q11, az cI 16), (q12, az cI 16), (q13, az cI 80), (q14, az cI 16), (q15, az cI 16), (q16, az cI 80)]) rfl (all16 (by decide +kernel)) rfl ?_
  exact N_ret hO (fun k => [q0, q1, q2, q3, q4, q5, q6, q7, q8, q9, q10, q11, q12, q13, q14, q15, q16].getD k 0) hR rfl (by decide) (by decide) dX7_init_178)
