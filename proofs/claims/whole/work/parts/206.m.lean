/-! X6_image -/
noncomputable def F_X6_image  (σ : Hp) : Option (Int32 × Hp) :=
  (F_X5_copyFrom 1 0 σ).bind fun q1 =>
  lt (up q1 54 7 (1 : Int32)) fun h2 =>
  some ((h2.1 30 4), h2)
set_option maxHeartbeats 4000000 in
set_option maxRecDepth 100000 in
theorem T_X6_image {G : Gm} {α : Nat → Nat} (hO : Ok G α cX6_image 1 RX6 3 67) (hR : Rt G α (some .int)) (σ : Hp) : V G α 1 (kSI) 0 [(0, .ref (α (54)))] [] σ (F_X6_image σ) := by
  rw [F_X6_image]
  refine V_aload_n hO 0 dX6_image_0 rfl rfl ?_
  refine V_get hO (v := .ref (α (31))) fl_X6_16 (by decide) (fun _ _ => ce_54) rfl dX6_image_1 ?_
  refine V_aload_n hO 0 dX6_image_4 rfl rfl ?_
  refine V_get hO (v := .ref (α (30))) fl_X6_10 (by decide) (fun _ _ => ce_54) rfl dX6_image_5 ?_
  refine V_callV hO ml_X6_256 (C_X5_copyFrom α (t := 1) (u := 0) (by decide) (by decide) σ) (by decide) (fun _ _ => ce_town (t := 1) (by decide)) rfl rfl (rest := []) rfl rfl (Nat.le_of_ble_eq_true rfl) ⟨Nat.le_of_ble_eq_true rfl, Nat.le_of_ble_eq_true rfl⟩ dX6_image_8 (kc_SV rfl fun q1 => ?_)
  refine V_aload_n hO 0 dX6_image_11 rfl rfl ?_
  refine V_iconst hO 1 dX6_image_12 (by decide) ?_
  refine V_putz hO fp_X6_58 (by decide) (fun _ _ => ce_54) (Nat.le_of_ble_eq_true rfl) (by decide) (fun _ _ => pe_54_7) dX6_image_13 (V_name fun h2 => ?_)
  refine V_aload_n hO 0 dX6_image_16 rfl rfl ?_
  refine V_get hO (v := .ref (α (30))) fl_X6_10 (by decide) (fun _ _ => ce_54) rfl dX6_image_17 ?_
  refine V_get hO (v := .int (h2.1 30 4)) fl_X6_97 (by decide) (fun _ _ => ce_town (t := 0) (by decide)) rfl dX6_image_20 ?_
  exact V_iret hO hR rfl dX6_image_23
set_option maxHeartbeats 4000000 in
set_option maxRecDepth 100000 in
theorem C_X6_image (α : Nat → Nat) (σ : Hp) : Ct yX6_image cX6_image 1 (some .int) 3 67 α [.ref (α (54))] σ (kSI (F_X6_image σ)) := ct_of_V (own := RX6) rfl (by decide +kernel) (Nat.le_of_ble_eq_true rfl) fun _ hO hR => T_X6_image hO hR σ
/-! X6_restore -/
noncomputable def F_X6_restore  (σ : Hp) : Option (Int32 × Hp) :=
  if (σ.1 54 7) = 0 then
  some (((-103) : Int32), σ)
  else
  (F_X5_copyFrom 0 1 σ).bind fun q1 =>
  some ((q1.1 30 4), q1)
set_option maxHeartbeats 4000000 in
set_option maxRecDepth 100000 in
theorem T_X6_restore {G : Gm} {α : Nat → Nat} (hO : Ok G α cX6_restore 1 RX6 3 67) (hR : Rt G α (some .int)) (σ : Hp) : V G α 1 (kSI) 0 [(0, .ref (α (54)))] [] σ (F_X6_restore σ) := by
  rw [F_X6_restore]
  refine V_aload_n hO 0 dX6_restore_0 rfl rfl ?_
  refine V_get hO (v := .int (σ.1 54 7)) fl_X6_58 (by decide) (fun _ _ => ce_54) rfl dX6_restore_1 ?_
  refine V_if_ne hO 10 dX6_restore_4 (by decide) ?_ ?_
  · refine V_aload_n hO 0 dX6_restore_10 rfl rfl ?_
    refine V_get hO (v := .ref (α (30))) fl_X6_10 (by decide) (fun _ _ => ce_54) rfl dX6_restore_11 ?_
    refine V_aload_n hO 0 dX6_restore_14 rfl rfl ?_
    refine V_get hO (v := .ref (α (31))) fl_X6_16 (by decide) (fun _ _ => ce_54) rfl dX6_restore_15 ?_
    refine V_callV hO ml_X6_256 (C_X5_copyFrom α (t := 0) (u := 1) (by decide) (by decide) σ) (by decide) (fun _ _ => ce_town (t := 0) (by decide)) rfl rfl (rest := []) rfl rfl (Nat.le_of_ble_eq_true rfl) ⟨Nat.le_of_ble_eq_true rfl, Nat.le_of_ble_eq_true rfl⟩ dX6_restore_18 (kc_SV rfl fun q1 => ?_)
    refine V_aload_n hO 0 dX6_restore_21 rfl rfl ?_
    refine V_get hO (v := .ref (α (30))) fl_X6_10 (by decide) (fun _ _ => ce_54) rfl dX6_restore_22 ?_
    refine V_get hO (v := .int (q1.1 30 4)) fl_X6_97 (by decide) (fun _ _ => ce_town (t := 0) (by decide)) rfl dX6_restore_25 ?_
    exact V_iret hO hR rfl dX6_restore_28
  · refine V_bipush hO (-103) dX6_restore_7 (by decide) ?_
    exact V_iret hO hR rfl dX6_restore_9
set_option maxHeartbeats 4000000 in
set_option maxRecDepth 100000 in
theorem C_X6_restore (α : Nat → Nat) (σ : Hp) : Ct yX6_restore cX6_restore 1 (some .int) 3 67 α [.ref (α (54))] σ (kSI (F_X6_restore σ)) := ct_of_V (own := RX6) rfl (by decide +kernel) (Nat.le_of_ble_eq_true rfl) fun _ hO hR => T_X6_restore hO hR σ
/-! X6_count -/
noncomputable def F_X6_count  (p1 : Int32) (σ : Hp) : Option Int32 :=
  if p1 = 0 then
  some (σ.1 30 1)
  else if p1 = 1 then
  some (σ.1 30 4)
  else if p1 = 2 then
  (F_X5_debtsStanding 0 σ).bind fun v5 =>
  some v5
  else if p1 = 3 then
  some (σ.1 30 3)
  else if p1 = 4 then
  some (σ.1 39 1)
  else if p1 = 5 then
  some (σ.1 54 8)
  else 
  some ((-102) : Int32)
set_option maxHeartbeats 4000000 in
set_option maxRecDepth 100000 in
theorem T_X6_count {G : Gm} {α : Nat → Nat} (hO : Ok G α cX6_count 2 RX6 1 22) (hR : Rt G α (some .int)) (p1 : Int32) (σ : Hp) : V G α 2 (kOI σ) 0 [(0, .ref (α (54))), (1, .int p1)] [] σ (F_X6_count p1 σ) := by
  rw [F_X6_count]
  refine V_iload_n hO 1 dX6_count_0 rfl rfl ?_
  refine V_case (fun c1 => ?_) (fun n2 => ?_)
  · refine V_tsIn hO (off := 39) 40 dX6_count_1 (by rw [c1]; decide) (by rw [c1]; decide) (by rw [c1]; first | done | rfl | decide) (by decide) ?_
    refine V_aload_n hO 0 dX6_count_40 rfl rfl ?_
    refine V_get hO (v := .ref (α (30))) fl_X6_10 (by decide) (fun _ _ => ce_54) rfl dX6_count_41 ?_
    refine V_get hO (v := .int (σ.1 30 1)) fl_X6_62 (by decide) (fun _ _ => ce_town (t := 0) (by decide)) rfl dX6_count_44 ?_
    exact V_iret hO hR rfl dX6_count_47
  refine V_case (fun c3 => ?_) (fun n4 => ?_)
  · refine V_tsIn hO (off := 47) 48 dX6_count_1 (by rw [c3]; decide) (by rw [c3]; decide) (by rw [c3]; first | done | rfl | decide) (by decide) ?_
    refine V_aload_n hO 0 dX6_count_48 rfl rfl ?_
    refine V_get hO (v := .ref (α (30))) fl_X6_10 (by decide) (fun _ _ => ce_54) rfl dX6_count_49 ?_
    refine V_get hO (v := .int (σ.1 30 4)) fl_X6_97 (by decide) (fun _ _ => ce_town (t := 0) (by decide)) rfl dX6_count_52 ?_
    exact V_iret hO hR rfl dX6_count_55
  refine V_case (fun c6 => ?_) (fun n7 => ?_)
  · refine V_tsIn hO (off := 55) 56 dX6_count_1 (by rw [c6]; decide) (by rw [c6]; decide) (by rw [c6]; first | done | rfl | decide) (by decide) ?_
    refine V_aload_n hO 0 dX6_count_56 rfl rfl ?_
    refine V_get hO (v := .ref (α (30))) fl_X6_10 (by decide) (fun _ _ => ce_54) rfl dX6_count_57 ?_
    refine V_callV hO ml_X6_266 (C_X5_debtsStanding α (t := 0) (by decide) σ) (by decide) (fun _ _ => ce_town (t := 0) (by decide)) rfl rfl (rest := []) rfl rfl (Nat.le_of_ble_eq_true rfl) ⟨Nat.le_of_ble_eq_true rfl, Nat.le_of_ble_eq_true rfl⟩ dX6_count_60 (kc_OI rfl fun v5 => ?_)
    exact V_iret hO hR rfl dX6_count_63
  refine V_case (fun c8 => ?_) (fun n9 => ?_)
  · refine V_tsIn hO (off := 63) 64 dX6_count_1 (by rw [c8]; decide) (by rw [c8]; decide) (by rw [c8]; first | done | rfl | decide) (by decide) ?_
    refine V_aload_n hO 0 dX6_count_64 rfl rfl ?_
    refine V_get hO (v := .ref (α (30))) fl_X6_10 (by decide) (fun _ _ => ce_54) rfl dX6_count_65 ?_
    refine V_get hO (v := .int (σ.1 30 3)) fl_X6_186 (by decide) (fun _ _ => ce_town (t := 0) (by decide)) rfl dX6_count_68 ?_
    exact V_iret hO hR rfl dX6_count_71
  refine V_case (fun c10 => ?_) (fun n11 => ?_)
  · refine V_tsIn hO (off := 71) 72 dX6_count_1 (by rw [c10]; decide) (by rw [c10]; decide) (by rw [c10]; first | done | rfl | decide) (by decide) ?_
    refine V_aload_n hO 0 dX6_count_72 rfl rfl ?_
    refine V_get hO (v := .ref (α (39))) fl_X6_25 (by decide) (fun _ _ => ce_54) rfl dX6_count_73 ?_
    refine V_get hO (v := .int (σ.1 39 1)) fl_X6_160 (by decide) (fun _ _ => ce_39) rfl dX6_count_76 ?_
    exact V_iret hO hR rfl dX6_count_79
  refine V_case (fun c12 => ?_) (fun n13 => ?_)
  · refine V_tsIn hO (off := 79) 80 dX6_count_1 (by rw [c12]; decide) (by rw [c12]; decide) (by rw [c12]; first | done | rfl | decide) (by decide) ?_
    refine V_aload_n hO 0 dX6_count_80 rfl rfl ?_
    refine V_get hO (v := .int (σ.1 54 8)) fl_X6_202 (by decide) (fun _ _ => ce_54) rfl dX6_count_81 ?_
    exact V_iret hO hR rfl dX6_count_84
  refine V_tsOut hO 85 dX6_count_1 (by have h9 := ts_out 6 (p9_ts (lt_s (lt_s (lt_s (lt_s (lt_s (lt_s lt_0 n2) n4) n7) n9) n11) n13)) (by decide); omega) (by decide) ?_
  refine V_bipush hO (-102) dX6_count_85 (by decide) ?_
  exact V_iret hO hR rfl dX6_count_87
set_option maxHeartbeats 4000000 in
set_option maxRecDepth 100000 in
theorem C_X6_count (α : Nat → Nat) (p1 : Int32) (σ : Hp) : Ct yX6_count cX6_count 2 (some .int) 1 22 α [.ref (α (54)), .int p1] σ (kOI σ (F_X6_count p1 σ)) := ct_of_V (own := RX6) rfl (by decide +kernel) (Nat.le_of_ble_eq_true rfl) fun _ hO hR => T_X6_count hO hR p1 σ
/-! X6_digest -/
noncomputable def F_X6_digest_20 (k6 : Int64 → Int32 → Hp → (Option (Int64 × Hp))) : Nat → Int64 → Int32 → Int32 → Hp → Option (Int64 × Hp)
  | 0, _, _, _, _ => none
  | n + 1, w1, w3, w4, h =>
    if (3 : Int32) < w4 then
    k6 w1 (w3 + 1) h
    else
    (F_X6_square w3 w4 h).bind fun v1 =>
    lt (((31 : Int64) * w1) + (Int32.toInt64 v1)) fun v2 =>
    F_X6_digest_20 k6 n v2 w3 (w4 + 1) h
noncomputable def F_X6_digest_69 (k55 : Int64 → Int32 → Hp → (Option (Int64 × Hp))) : Nat → Int64 → Int32 → Int32 → Hp → Option (Int64 × Hp)
  | 0, _, _, _, _ => none
  | n + 1, w1, w3, w4, h =>
    if (7 : Int32) < w4 then
    k55 w1 (w3 + 1) h
    else
    (F_X6_about w3 w4 h).bind fun v3 =>
    lt (((31 : Int64) * w1) + (Int32.toInt64 v3)) fun v4 =>
    F_X6_digest_69 k55 n v4 w3 (w4 + 1) h
noncomputable def F_X6_digest_240  : Nat → Int64 → Int32 → Hp → Option (Int64 × Hp)
  | 0, _, _, _ => none
  | n + 1, w1, w3, h =>
    if (5 : Int32) < w3 then
    some (w1, h)
    else
    (F_X6_count w3 h).bind fun v5 =>
    lt (((31 : Int64) * w1) + (Int32.toInt64 v5)) fun v6 =>
    F_X6_digest_240 n v6 (w3 + 1) h
noncomputable def F_X6_digest_204  : Nat → Int64 → Int32 → Hp → Option (Int64 × Hp)
  | 0, _, _, _ => none
  | n + 1, w1, w3, h =>
    if (h.1 39 1) ≤ w3 then
    F_X6_digest_240 fuel w1 (0 : Int32) h
    else
    if inb w3 24 = true then
    lt (((31 : Int64) * w1) + (Int32.toInt64 (h.1 40 (Int32.toNatClampNeg w3)))) fun v8 =>
    F_X6_digest_204 n v8 (w3 + 1) h
    else none
noncomputable def F_X6_digest_105  : Nat → Int64 → Int32 → Hp → Option (Int64 × Hp)
  | 0, _, _, _ => none
  | n + 1, w1, w3, h =>
    if (6 : Int32) ≤ w3 then
    (F_X6_settled (0 : Int32) h).bind fun q9 =>
    lt (((31 : Int64) * w1) + (Int32.toInt64 q9.1)) fun v10 =>
    (F_X6_settled (1 : Int32) q9.2).bind fun q11 =>
    lt (((31 : Int64) * v10) + (Int32.toInt64 q11.1)) fun v12 =>
    (F_X6_skate (0 : Int32) ((q11.2.1 30 1) - (1 : Int32)) (0 : Int32) q11.2).bind fun q13 =>
    lt (((31 : Int64) * v12) + (Int32.toInt64 q13.1)) fun v14 =>
    (F_X6_skate (0 : Int32) ((q13.2.1 30 1) - (1 : Int32)) (1 : Int32) q13.2).bind fun q15 =>
    lt (((31 : Int64) * v14) + (Int32.toInt64 q15.1)) fun v16 =>
    F_X6_digest_204 fuel v16 (0 : Int32) q15.2
    else
    (F_X6_rest w3 h).bind fun v17 =>
    lt (((31 : Int64) * w1) + (Int32.toInt64 v17)) fun v18 =>
    F_X6_digest_105 n v18 (w3 + 1) h
noncomputable def F_X6_digest_55  : Nat → Int64 → Int32 → Hp → Option (Int64 × Hp)
  | 0, _, _, _ => none
  | n + 1, w1, w3, h =>
    if (h.1 30 4) ≤ w3 then
    F_X6_digest_105 fuel w1 (0 : Int32) h
    else
    F_X6_digest_69 (F_X6_digest_55 n) fuel w1 w3 (0 : Int32) h
noncomputable def F_X6_digest_6  : Nat → Int64 → Int32 → Hp → Option (Int64 × Hp)
  | 0, _, _, _ => none
  | n + 1, w1, w3, h =>
    if (h.1 30 1) ≤ w3 then
    F_X6_digest_55 fuel w1 (0 : Int32) h
    else
    F_X6_digest_20 (F_X6_digest_6 n) fuel w1 w3 (0 : Int32) h
noncomputable def F_X6_digest  (σ : Hp) : Option (Int64 × Hp) :=
  F_X6_digest_6 fuel (617 : Int64) (0 : Int32) σ
set_option maxHeartbeats 4000000 in
set_option maxRecDepth 100000 in
theorem T_X6_digest_20 {G : Gm} {α : Nat → Nat} (hO : Ok G α cX6_digest 5 RX6 6 134) (hR : Rt G α (some .long)) (k6 : Int64 → Int32 → Hp → (Option (Int64 × Hp))) (hk6 : ∀ (w1 : Int64) (w3 : Int32) (h : Hp), V G α 5 (kSJ) 6 [(0, .ref (α (54))), (1, .long w1), (3, .int w3)] [] h (k6 w1 w3 h)) : ∀ (fuel : Nat) (w1 : Int64) (w3 : Int32) (w4 : Int32) (h : Hp), V G α 5 (kSJ) 20 [(0, .ref (α (54))), (1, .long w1), (3, .int w3), (4, .int w4)] [] h (F_X6_digest_20 k6 fuel w1 w3 w4 h) := by
  intro fuel
  induction fuel with
  | zero => intro w1 w3 w4 h; exact V_none rfl
  | succ n ih =>
    intro w1 w3 w4 h
    rw [F_X6_digest_20]
    refine V_iload hO 3 dX6_digest_20 rfl ?_
    refine V_iconst hO 3 dX6_digest_22 (by decide) ?_
    refine V_icmp_gt hO 47 dX6_digest_23 (by decide) ?_ ?_
    · refine V_iinc hO (ls2 := [(3, .int (w3 + 1)), (0, .ref (α (54))), (1, .long w1), (4, .int w4)]) (z := 1) 2 dX6_digest_47 rfl (by decide) (by decide) rfl ?_
      refine V_goto hO 6 dX6_digest_50 (by decide) ?_
      exact V_sub [1, 2, 0] rfl (hk6 w1 (w3 + 1) h )
    · refine V_ldc2 hO (v := 31) dX6_digest_26 cn_X6_280 ?_
      refine V_lload_n hO 1 dX6_digest_29 rfl rfl ?_
      refine V_lmul hO dX6_digest_30 ?_
      refine V_aload_n hO 0 dX6_digest_31 rfl rfl ?_
      refine V_iload_n hO 2 dX6_digest_32 rfl rfl ?_
      refine V_iload hO 3 dX6_digest_33 rfl ?_
      refine V_callV hO ml_X6_282 (C_X6_square α w3 w4 h) (by decide) (fun _ _ => ce_54) rfl rfl (rest := [.long ((31 : Int64) * w1)]) rfl rfl (Nat.le_of_ble_eq_true rfl) ⟨Nat.le_of_ble_eq_true rfl, Nat.le_of_ble_eq_true rfl⟩ dX6_digest_35 (kc_OI rfl fun v1 => ?_)
      refine V_i2l hO dX6_digest_38 ?_
      refine V_ladd hO dX6_digest_39 ?_
      refine V_lstore_nN hO (ls2 := fun v2 => [(1, .long v2), (0, .ref (α (54))), (3, .int w3), (4, .int w4)]) dX6_digest_40 rfl (by decide) (fun _ => rfl) (fun v2 => ?_)
      refine V_iinc hO (ls2 := [(4, .int (w4 + 1)), (1, .long v2), (0, .ref (α (54))), (3, .int w3)]) (z := 1) 3 dX6_digest_41 rfl (by decide) (by decide) rfl ?_
      refine V_goto hO 20 dX6_digest_44 (by decide) ?_
      exact V_sub [2, 1, 3, 0] rfl (ih v2 w3 (w4 + 1) h )
set_option maxHeartbeats 4000000 in
set_option maxRecDepth 100000 in
theorem T_X6_digest_69 {G : Gm} {α : Nat → Nat} (hO : Ok G α cX6_digest 5 RX6 6 134) (hR : Rt G α (some .long)) (k55 : Int64 → Int32 → Hp → (Option (Int64 × Hp))) (hk55 : ∀ (w1 : Int64) (w3 : Int32) (h : Hp), V G α 5 (kSJ) 55 [(0, .ref (α (54))), (1, .long w1), (3, .int w3)] [] h (k55 w1 w3 h)) : ∀ (fuel : Nat) (w1 : Int64) (w3 : Int32) (w4 : Int32) (h : Hp), V G α 5 (kSJ) 69 [(0, .ref (α (54))), (1, .long w1), (3, .int w3), (4, .int w4)] [] h (F_X6_digest_69 k55 fuel w1 w3 w4 h) := by
  intro fuel
  induction fuel with
  | zero => intro w1 w3 w4 h; exact V_none rfl
  | succ n ih =>
    intro w1 w3 w4 h
    rw [F_X6_digest_69]
    refine V_iload hO 3 dX6_digest_69 rfl ?_
    refine V_bipush hO 7 dX6_digest_71 (by decide) ?_
    refine V_icmp_gt hO 97 dX6_digest_73 (by decide) ?_ ?_
    · refine V_iinc hO (ls2 := [(3, .int (w3 + 1)), (0, .ref (α (54))), (1, .long w1), (4, .int w4)]) (z := 1) 2 dX6_digest_97 rfl (by decide) (by decide) rfl ?_
      refine V_goto hO 55 dX6_digest_100 (by decide) ?_
      exact V_sub [1, 2, 0] rfl (hk55 w1 (w3 + 1) h )
    · refine V_ldc2 hO (v := 31) dX6_digest_76 cn_X6_280 ?_
      refine V_lload_n hO 1 dX6_digest_79 rfl rfl ?_
      refine V_lmul hO dX6_digest_80 ?_
      refine V_aload_n hO 0 dX6_digest_81 rfl rfl ?_
      refine V_iload_n hO 2 dX6_digest_82 rfl rfl ?_
      refine V_iload hO 3 dX6_digest_83 rfl ?_
      refine V_callV hO ml_X6_285 (C_X6_about α w3 w4 h) (by decide) (fun _ _ => ce_54) rfl rfl (rest := [.long ((31 : Int64) * w1)]) rfl rfl (Nat.le_of_ble_eq_true rfl) ⟨Nat.le_of_ble_eq_true rfl, Nat.le_of_ble_eq_true rfl⟩ dX6_digest_85 (kc_OI rfl fun v3 => ?_)
      refine V_i2l hO dX6_digest_88 ?_
      refine V_ladd hO dX6_digest_89 ?_
      refine V_lstore_nN hO (ls2 := fun v4 => [(1, .long v4), (0, .ref (α (54))), (3, .int w3), (4, .int w4)]) dX6_digest_90 rfl (by decide) (fun _ => rfl) (fun v4 => ?_)
      refine V_iinc hO (ls2 := [(4, .int (w4 + 1)), (1, .long v4), (0, .ref (α (54))), (3, .int w3)]) (z := 1) 3 dX6_digest_91 rfl (by decide) (by decide) rfl ?_
      refine V_goto hO 69 dX6_digest_94 (by decide) ?_
      exact V_sub [2, 1, 3, 0] rfl (ih v4 w3 (w4 + 1) h )
set_option maxHeartbeats 4000000 in
set_option maxRecDepth 100000 in
theorem T_X6_digest_240 {G : Gm} {α : Nat → Nat} (hO : Ok G α cX6_digest 5 RX6 6 134) (hR : Rt G α (some .long)) : ∀ (fuel : Nat) (w1 : Int64) (w3 : Int32) (h : Hp), V G α 5 (kSJ) 240 [(0, .ref (α (54))), (1, .long w1), (3, .int w3)] [] h (F_X6_digest_240 fuel w1 w3 h) := by
  intro fuel
  induction fuel with
  | zero => intro w1 w3 h; exact V_none rfl
  | succ n ih =>
    intro w1 w3 h
    rw [F_X6_digest_240]
    refine V_iload_n hO 2 dX6_digest_240 rfl rfl ?_
    refine V_iconst hO 5 dX6_digest_241 (by decide) ?_
    refine V_icmp_gt hO 264 dX6_digest_242 (by decide) ?_ ?_
    · refine V_lload_n hO 1 dX6_digest_264 rfl rfl ?_
      exact V_lret hO hR rfl dX6_digest_265
    · refine V_ldc2 hO (v := 31) dX6_digest_245 cn_X6_280 ?_
      refine V_lload_n hO 1 dX6_digest_248 rfl rfl ?_
      refine V_lmul hO dX6_digest_249 ?_
      refine V_aload_n hO 0 dX6_digest_250 rfl rfl ?_
      refine V_iload_n hO 2 dX6_digest_251 rfl rfl ?_
      refine V_callV hO ml_X6_300 (C_X6_count α w3 h) (by decide) (fun _ _ => ce_54) rfl rfl (rest := [.long ((31 : Int64) * w1)]) rfl rfl (Nat.le_of_ble_eq_true rfl) ⟨Nat.le_of_ble_eq_true rfl, Nat.le_of_ble_eq_true rfl⟩ dX6_digest_252 (kc_OI rfl fun v5 => ?_)
      refine V_i2l hO dX6_digest_255 ?_
      refine V_ladd hO dX6_digest_256 ?_
      refine V_lstore_nN hO (ls2 := fun v6 => [(1, .long v6), (0, .ref (α (54))), (3, .int w3)]) dX6_digest_257 rfl (by decide) (fun _ => rfl) (fun v6 => ?_)
      refine V_iinc hO (ls2 := [(3, .int (w3 + 1)), (1, .long v6), (0, .ref (α (54)))]) (z := 1) 2 dX6_digest_258 rfl (by decide) (by decide) rfl ?_
      refine V_goto hO 240 dX6_digest_261 (by decide) ?_
      exact V_sub [2, 1, 0] rfl (ih v6 (w3 + 1) h )
set_option maxHeartbeats 4000000 in
set_option maxRecDepth 100000 in
theorem T_X6_digest_204 {G : Gm} {α : Nat → Nat} (hO : Ok G α cX6_digest 5 RX6 6 134) (hR : Rt G α (some .long)) : ∀ (fuel : Nat) (w1 : Int64) (w3 : Int32) (h : Hp), V G α 5 (kSJ) 204 [(0, .ref (α (54))), (1, .long w1), (3, .int w3)] [] h (F_X6_digest_204 fuel w1 w3 h) := by
  intro fuel
  induction fuel with
  | zero => intro w1 w3 h; exact V_none rfl
  | succ n ih =>
    intro w1 w3 h
    rw [F_X6_digest_204]
    refine V_iload_n hO 2 dX6_digest_204 rfl rfl ?_
    refine V_aload_n hO 0 dX6_digest_205 rfl rfl ?_
    refine V_get hO (v := .ref (α (39))) fl_X6_25 (by decide) (fun _ _ => ce_54) rfl dX6_digest_206 ?_
    refine V_get hO (v := .int (h.1 39 1)) fl_X6_160 (by decide) (fun _ _ => ce_39) rfl dX6_digest_209 ?_
    refine V_icmp_ge hO 238 dX6_digest_212 (by decide) ?_ ?_
    · refine V_iconst hO 0 dX6_digest_238 (by decide) ?_
      refine V_istore_n hO (ls2 := [(3, .int 0), (0, .ref (α (54))), (1, .long w1)]) dX6_digest_239 rfl (by decide) rfl ?_
      exact V_sub [1, 2, 0] rfl (T_X6_digest_240 hO hR fuel w1 (0 : Int32) h )
    · refine V_ldc2 hO (v := 31) dX6_digest_215 cn_X6_280 ?_
      refine V_lload_n hO 1 dX6_digest_218 rfl rfl ?_
      refine V_lmul hO dX6_digest_219 ?_
      refine V_aload_n hO 0 dX6_digest_220 rfl rfl ?_
      refine V_get hO (v := .ref (α (39))) fl_X6_25 (by decide) (fun _ _ => ce_54) rfl dX6_digest_221 ?_
      refine V_get hO (v := .ref (α (40))) fl_X6_297 (by decide) (fun _ _ => ce_39) rfl dX6_digest_224 ?_
      refine V_iload_n hO 2 dX6_digest_227 rfl rfl ?_
      refine V_chk rfl fun c7 => ?_
      refine V_iald hO (by decide) (fun _ _ => ce_40) (inb_in c7) dX6_digest_228 ?_
      refine V_i2l hO dX6_digest_229 ?_
      refine V_ladd hO dX6_digest_230 ?_
      refine V_lstore_nN hO (ls2 := fun v8 => [(1, .long v8), (0, .ref (α (54))), (3, .int w3)]) dX6_digest_231 rfl (by decide) (fun _ => rfl) (fun v8 => ?_)
      refine V_iinc hO (ls2 := [(3, .int (w3 + 1)), (1, .long v8), (0, .ref (α (54)))]) (z := 1) 2 dX6_digest_232 rfl (by decide) (by decide) rfl ?_
      refine V_goto hO 204 dX6_digest_235 (by decide) ?_
      exact V_sub [2, 1, 0] rfl (ih v8 (w3 + 1) h )
set_option maxHeartbeats 4000000 in
set_option maxRecDepth 100000 in
theorem T_X6_digest_105 {G : Gm} {α : Nat → Nat} (hO : Ok G α cX6_digest 5 RX6 6 134) (hR : Rt G α (some .long)) : ∀ (fuel : Nat) (w1 : Int64) (w3 : Int32) (h : Hp), V G α 5 (kSJ) 105 [(0, .ref (α (54))), (1, .long w1), (3, .int w3)] [] h (F_X6_digest_105 fuel w1 w3 h) := by
  intro fuel
  induction fuel with
  | zero => intro w1 w3 h; exact V_none rfl
  | succ n ih =>
    intro w1 w3 h
    rw [F_X6_digest_105]
    refine V_iload_n hO 2 dX6_digest_105 rfl rfl ?_
    refine V_bipush hO 6 dX6_digest_106 (by decide) ?_
    refine V_icmp_ge hO 130 dX6_digest_108 (by decide) ?_ ?_
    · refine V_ldc2 hO (v := 31) dX6_digest_130 cn_X6_280 ?_
      refine V_lload_n hO 1 dX6_digest_133 rfl rfl ?_
      refine V_lmul hO dX6_digest_134 ?_
      refine V_aload_n hO 0 dX6_digest_135 rfl rfl ?_
      refine V_iconst hO 0 dX6_digest_136 (by decide) ?_
      refine V_callV hO ml_X6_291 (C_X6_settled α (0 : Int32) h) (by decide) (fun _ _ => ce_54) rfl rfl (rest := [.long ((31 : Int64) * w1)]) rfl rfl (Nat.le_of_ble_eq_true rfl) ⟨Nat.le_of_ble_eq_true rfl, Nat.le_of_ble_eq_true rfl⟩ dX6_digest_137 (kc_SI rfl fun q9 => ?_)
      refine V_i2l hO dX6_digest_140 ?_
      refine V_ladd hO dX6_digest_141 ?_
      refine V_lstore_nN hO (ls2 := fun v10 => [(1, .long v10), (0, .ref (α (54))), (3, .int w3)]) dX6_digest_142 rfl (by decide) (fun _ => rfl) (fun v10 => ?_)
      refine V_ldc2 hO (v := 31) dX6_digest_143 cn_X6_280 ?_
      refine V_lload_n hO 0 dX6_digest_146 rfl rfl ?_
      refine V_lmul hO dX6_digest_147 ?_
      refine V_aload_n hO 1 dX6_digest_148 rfl rfl ?_
      refine V_iconst hO 1 dX6_digest_149 (by decide) ?_
      refine V_callV hO ml_X6_291 (C_X6_settled α (1 : Int32) q9.2) (by decide) (fun _ _ => ce_54) rfl rfl (rest := [.long ((31 : Int64) * v10)]) rfl rfl (Nat.le_of_ble_eq_true rfl) ⟨Nat.le_of_ble_eq_true rfl, Nat.le_of_ble_eq_true rfl⟩ dX6_digest_150 (kc_SI rfl fun q11 => ?_)
      refine V_i2l hO dX6_digest_153 ?_
      refine V_ladd hO dX6_digest_154 ?_
      refine V_lstore_nN hO (ls2 := fun v12 => [(1, .long v12), (0, .ref (α (54))), (3, .int w3)]) dX6_digest_155 rfl (by decide) (fun _ => rfl) (fun v12 => ?_)
      refine V_ldc2 hO (v := 31) dX6_digest_156 cn_X6_280 ?_
      refine V_lload_n hO 0 dX6_digest_159 rfl rfl ?_
      refine V_lmul hO dX6_digest_160 ?_
      refine V_aload_n hO 1 dX6_digest_161 rfl rfl ?_
      refine V_iconst hO 0 dX6_digest_162 (by decide) ?_
      refine V_aload_n hO 1 dX6_digest_163 rfl rfl ?_
      refine V_get hO (v := .ref (α (30))) fl_X6_10 (by decide) (fun _ _ => ce_54) rfl dX6_digest_164 ?_
      refine V_get hO (v := .int (q11.2.1 30 1)) fl_X6_62 (by decide) (fun _ _ => ce_town (t := 0) (by decide)) rfl dX6_digest_167 ?_
      refine V_iconst hO 1 dX6_digest_170 (by decide) ?_
      refine V_isub hO dX6_digest_171 ?_
      refine V_iconst hO 0 dX6_digest_172 (by decide) ?_
      refine V_callV hO ml_X6_294 (C_X6_skate α (0 : Int32) ((q11.2.1 30 1) - (1 : Int32)) (0 : Int32) q11.2) (by decide) (fun _ _ => ce_54) rfl rfl (rest := [.long ((31 : Int64) * v12)]) rfl rfl (Nat.le_of_ble_eq_true rfl) ⟨Nat.le_of_ble_eq_true rfl, Nat.le_of_ble_eq_true rfl⟩ dX6_digest_173 (kc_SI rfl fun q13 => ?_)
      refine V_i2l hO dX6_digest_176 ?_
      refine V_ladd hO dX6_digest_177 ?_
      refine V_lstore_nN hO (ls2 := fun v14 => [(1, .long v14), (0, .ref (α (54))), (3, .int w3)]) dX6_digest_178 rfl (by decide) (fun _ => rfl) (fun v14 => ?_)
      refine V_ldc2 hO (v := 31) dX6_digest_179 cn_X6_280 ?_
      refine V_lload_n hO 0 dX6_digest_182 rfl rfl ?_
      refine V_lmul hO dX6_digest_183 ?_
      refine V_aload_n hO 1 dX6_digest_184 rfl rfl ?_
      refine V_iconst hO 0 dX6_digest_185 (by decide) ?_
      refine V_aload_n hO 1 dX6_digest_186 rfl rfl ?_
      refine V_get hO (v := .ref (α (30))) fl_X6_10 (by decide) (fun _ _ => ce_54) rfl dX6_digest_187 ?_
      refine V_get hO (v := .int (q13.2.1 30 1)) fl_X6_62 (by decide) (fun _ _ => ce_town (t := 0) (by decide)) rfl dX6_digest_190 ?_
      refine V_iconst hO 1 dX6_digest_193 (by decide) ?_
      refine V_isub hO dX6_digest_194 ?_
      refine V_iconst hO 1 dX6_digest_195 (by decide) ?_
      refine V_callV hO ml_X6_294 (C_X6_skate α (0 : Int32) ((q13.2.1 30 1) - (1 : Int32)) (1 : Int32) q13.2) (by decide) (fun _ _ => ce_54) rfl rfl (rest := [.long ((31 : Int64) * v14)]) rfl rfl (Nat.le_of_ble_eq_true rfl) ⟨Nat.le_of_ble_eq_true rfl, Nat.le_of_ble_eq_true rfl⟩ dX6_digest_196 (kc_SI rfl fun q15 => ?_)
      refine V_i2l hO dX6_digest_199 ?_
      refine V_ladd hO dX6_digest_200 ?_
      refine V_lstore_nN hO (ls2 := fun v16 => [(1, .long v16), (0, .ref (α (54))), (3, .int w3)]) dX6_digest_201 rfl (by decide) (fun _ => rfl) (fun v16 => ?_)
      refine V_iconst hO 0 dX6_digest_202 (by decide) ?_
      refine V_istore_n hO (ls2 := [(3, .int 0), (1, .long v16), (0, .ref (α (54)))]) dX6_digest_203 rfl (by decide) rfl ?_
      exact V_sub [2, 1, 0] rfl (T_X6_digest_204 hO hR fuel v16 (0 : Int32) q15.2 )
    · refine V_ldc2 hO (v := 31) dX6_digest_111 cn_X6_280 ?_
      refine V_lload_n hO 1 dX6_digest_114 rfl rfl ?_
      refine V_lmul hO dX6_digest_115 ?_
      refine V_aload_n hO 0 dX6_digest_116 rfl rfl ?_
      refine V_iload_n hO 2 dX6_digest_117 rfl rfl ?_
      refine V_callV hO ml_X6_288 (C_X6_rest α w3 h) (by decide) (fun _ _ => ce_54) rfl rfl (rest := [.long ((31 : Int64) * w1)]) rfl rfl (Nat.le_of_ble_eq_true rfl) ⟨Nat.le_of_ble_eq_true rfl, Nat.le_of_ble_eq_true rfl⟩ dX6_digest_118 (kc_OI rfl fun v17 => ?_)
      refine V_i2l hO dX6_digest_121 ?_
      refine V_ladd hO dX6_digest_122 ?_
      refine V_lstore_nN hO (ls2 := fun v18 => [(1, .long v18), (0, .ref (α (54))), (3, .int w3)]) dX6_digest_123 rfl (by decide) (fun _ => rfl) (fun v18 => ?_)
      refine V_iinc hO (ls2 := [(3, .int (w3 + 1)), (1, .long v18), (0, .ref (α (54)))]) (z := 1) 2 dX6_digest_124 rfl (by decide) (by decide) rfl ?_
      refine V_goto hO 105 dX6_digest_127 (by decide) ?_
      exact V_sub [2, 1, 0] rfl (ih v18 (w3 + 1) h )
set_option maxHeartbeats 4000000 in
set_option maxRecDepth 100000 in
theorem T_X6_digest_55 {G : Gm} {α : Nat → Nat} (hO : Ok G α cX6_digest 5 RX6 6 134) (hR : Rt G α (some .long)) : ∀ (fuel : Nat) (w1 : Int64) (w3 : Int32) (h : Hp), V G α 5 (kSJ) 55 [(0, .ref (α (54))), (1, .long w1), (3, .int w3)] [] h (F_X6_digest_55 fuel w1 w3 h) := by
  intro fuel
  induction fuel with
  | zero => intro w1 w3 h; exact V_none rfl
  | succ n ih =>
    intro w1 w3 h
    rw [F_X6_digest_55]
    refine V_iload_n hO 2 dX6_digest_55 rfl rfl ?_
    refine V_aload_n hO 0 dX6_digest_56 rfl rfl ?_
    refine V_get hO (v := .ref (α (30))) fl_X6_10 (by decide) (fun _ _ => ce_54) rfl dX6_digest_57 ?_
    refine V_get hO (v := .int (h.1 30 4)) fl_X6_97 (by decide) (fun _ _ => ce_town (t := 0) (by decide)) rfl dX6_digest_60 ?_
    refine V_icmp_ge hO 103 dX6_digest_63 (by decide) ?_ ?_
    · refine V_iconst hO 0 dX6_digest_103 (by decide) ?_
      refine V_istore_n hO (ls2 := [(3, .int 0), (0, .ref (α (54))), (1, .long w1)]) dX6_digest_104 rfl (by decide) rfl ?_
      exact V_sub [1, 2, 0] rfl (T_X6_digest_105 hO hR fuel w1 (0 : Int32) h )
    · refine V_iconst hO 0 dX6_digest_66 (by decide) ?_
      refine V_istore hO (ls2 := [(4, .int 0), (0, .ref (α (54))), (1, .long w1), (3, .int w3)]) dX6_digest_67 (by decide) rfl ?_
      exact V_sub [1, 2, 3, 0] rfl (T_X6_digest_69 hO hR (F_X6_digest_55 n) ih fuel w1 w3 (0 : Int32) h )
set_option maxHeartbeats 4000000 in
set_option maxRecDepth 100000 in
theorem T_X6_digest_6 {G : Gm} {α : Nat → Nat} (hO : Ok G α cX6_digest 5 RX6 6 134) (hR : Rt G α (some .long)) : ∀ (fuel : Nat) (w1 : Int64) (w3 : Int32) (h : Hp), V G α 5 (kSJ) 6 [(0, .ref (α (54))), (1, .long w1), (3, .int w3)] [] h (F_X6_digest_6 fuel w1 w3 h) := by
  intro fuel
  induction fuel with
  | zero => intro w1 w3 h; exact V_none rfl
  | succ n ih =>
    intro w1 w3 h
    rw [F_X6_digest_6]
    refine V_iload_n hO 2 dX6_digest_6 rfl rfl ?_
    refine V_aload_n hO 0 dX6_digest_7 rfl rfl ?_
    refine V_get hO (v := .ref (α (30))) fl_X6_10 (by decide) (fun _ _ => ce_54) rfl dX6_digest_8 ?_
    refine V_get hO (v := .int (h.1 30 1)) fl_X6_62 (by decide) (fun _ _ => ce_town (t := 0) (by decide)) rfl dX6_digest_11 ?_
    refine V_icmp_ge hO 53 dX6_digest_14 (by decide) ?_ ?_
    · refine V_iconst hO 0 dX6_digest_53 (by decide) ?_
      refine V_istore_n hO (ls2 := [(3, .int 0), (0, .ref (α (54))), (1, .long w1)]) dX6_digest_54 rfl (by decide) rfl ?_
      exact V_sub [1, 2, 0] rfl (T_X6_digest_55 hO hR fuel w1 (0 : Int32) h )
    · refine V_iconst hO 0 dX6_digest_17 (by decide) ?_
      refine V_istore hO (ls2 := [(4, .int 0), (0, .ref (α (54))), (1, .long w1), (3, .int w3)]) dX6_digest_18 (by decide) rfl ?_
      exact V_sub [1, 2, 3, 0] rfl (T_X6_digest_20 hO hR (F_X6_digest_6 n) ih fuel w1 w3 (0 : Int32) h )
set_option maxHeartbeats 4000000 in
set_option maxRecDepth 100000 in
theorem T_X6_digest {G : Gm} {α : Nat → Nat} (hO : Ok G α cX6_digest 5 RX6 6 134) (hR : Rt G α (some .long)) (σ : Hp) : V G α 5 (kSJ) 0 [(0, .ref (α (54)))] [] σ (F_X6_digest σ) := by
  rw [F_X6_digest]
  refine V_ldc2 hO (v := 617) dX6_digest_0 cn_X6_278 ?_
  refine V_lstore_n hO (ls2 := [(1, .long 617), (0, .ref (α (54)))]) dX6_digest_3 rfl (by decide) rfl ?_
  refine V_iconst hO 0 dX6_digest_4 (by decide) ?_
  refine V_istore_n hO (ls2 := [(3, .int 0), (1, .long 617), (0, .ref (α (54)))]) dX6_digest_5 rfl (by decide) rfl ?_
  exact V_sub [2, 1, 0] rfl (T_X6_digest_6 hO hR fuel (617 : Int64) (0 : Int32) σ )
set_option maxHeartbeats 4000000 in
set_option maxRecDepth 100000 in
theorem C_X6_digest (α : Nat → Nat) (σ : Hp) : Ct yX6_digest cX6_digest 5 (some .long) 6 134 α [.ref (α (54))] σ (kSJ (F_X6_digest σ)) := ct_of_V (own := RX6) rfl (by decide +kernel) (Nat.le_of_ble_eq_true rfl) fun _ hO hR => T_X6_digest hO hR σ
/-! X7_in -/
noncomputable def F_X7_in  (p1 : Int64) (p2 : Int64) (p3 : Int64) (σ : Hp) : Bool :=
  if p1 < p2 then
  false
  else
  if p3 < p1 then
  false
  else
  true
set_option maxHeartbeats 4000000 in
set_option maxRecDepth 100000 in
theorem T_X7_in {G : Gm} {α : Nat → Nat} (hO : Ok G α cX7_in 6 RX7 0 0) (hR : Rt G α (some .boolean)) (p1 : Int64) (p2 : Int64) (p3 : Int64) (σ : Hp) : V G α 6 (kZ σ) 0 [(0, .long p1), (2, .long p2), (4, .long p3)] [] σ (F_X7_in p1 p2 p3 σ) := by
  rw [F_X7_in]
  refine V_lload_n hO 0 dX7_in_0 rfl rfl ?_
  refine V_lload_n hO 1 dX7_in_1 rfl rfl ?_
  refine V_lcmp_lt hO 17 dX7_in_2 dX7_in_3 (by decide) ?_ ?_
  · refine V_iconst hO 0 dX7_in_17 (by decide) ?_
    exact V_zret hO hR (by decide) rfl dX7_in_18
  · refine V_lload_n hO 0 dX7_in_6 rfl rfl ?_
    refine V_lload hO 2 dX7_in_7 rfl ?_
    refine V_lcmp_gt hO 17 dX7_in_9 dX7_in_10 (by decide) ?_ ?_
    · refine V_iconst hO 0 dX7_in_17 (by decide) ?_
      exact V_zret hO hR (by decide) rfl dX7_in_18
    · refine V_iconst hO 1 dX7_in_13 (by decide) ?_
      refine V_goto hO 18 dX7_in_14 (by decide) ?_
      exact V_zret hO hR (by decide) rfl dX7_in_18
set_option maxHeartbeats 4000000 in
set_option maxRecDepth 100000 in
theorem C_X7_in (α : Nat → Nat) (p1 : Int64) (p2 : Int64) (p3 : Int64) (σ : Hp) : Ct yX7_in cX7_in 6 (some .boolean) 0 0 α [.long p1, .long p2, .long p3] σ (kZ σ (F_X7_in p1 p2 p3 σ)) := ct_of_V (own := RX7) rfl (by decide +kernel) (Nat.le_of_ble_eq_true rfl) fun _ hO hR => T_X7_in hO hR p1 p2 p3 σ
/-! X7_squares -/
noncomputable def F_X7_squares  (σ : Hp) : Int32 :=
  ((σ.1 55 0) * (σ.1 55 1))
set_option maxHeartbeats 4000000 in
set_option maxRecDepth 100000 in
theorem T_X7_squares {G : Gm} {α : Nat → Nat} (hO : Ok G α cX7_squares 1 RX7 0 0) (hR : Rt G α (some .int)) (σ : Hp) : V G α 1 (kI σ) 0 [(0, .ref (α (55)))] [] σ (F_X7_squares σ) := by
  rw [F_X7_squares]
  refine V_aload_n hO 0 dX7_squares_0 rfl rfl ?_
  refine V_get hO (v := .int (σ.1 55 0)) fl_X7_65 (by decide) (fun _ _ => ce_55) rfl dX7_squares_1 ?_
  refine V_aload_n hO 0 dX7_squares_4 rfl rfl ?_
  refine V_get hO (v := .int (σ.1 55 1)) fl_X7_68 (by decide) (fun _ _ => ce_55) rfl dX7_squares_5 ?_
  refine V_imul hO dX7_squares_8 ?_
  exact V_iret hO hR rfl dX7_squares_9
set_option maxHeartbeats 4000000 in
set_option maxRecDepth 100000 in
theorem C_X7_squares (α : Nat → Nat) (σ : Hp) : Ct yX7_squares cX7_squares 1 (some .int) 0 0 α [.ref (α (55))] σ (kI σ (F_X7_squares σ)) := ct_of_V (own := RX7) rfl (by decide +kernel) (Nat.le_of_ble_eq_true rfl) fun _ hO hR => T_X7_squares hO hR σ
/-! X7_isSquare -/
noncomputable def F_X7_isSquare  (p1 : Int32) (σ : Hp) : Bool :=
  (F_X7_in (Int32.toInt64 p1) (0 : Int64) (Int32.toInt64 ((F_X7_squares σ) - (1 : Int32))) σ)
set_option maxHeartbeats 4000000 in
set_option maxRecDepth 100000 in
theorem T_X7_isSquare {G : Gm} {α : Nat → Nat} (hO : Ok G α cX7_isSquare 2 RX7 1 25) (hR : Rt G α (some .boolean)) (p1 : Int32) (σ : Hp) : V G α 2 (kZ σ) 0 [(0, .ref (α (55))), (1, .int p1)] [] σ (F_X7_isSquare p1 σ) := by
  rw [F_X7_isSquare]
  refine V_iload_n hO 1 dX7_isSquare_0 rfl rfl ?_
  refine V_i2l hO dX7_isSquare_1 ?_
  refine V_lconst hO 0 dX7_isSquare_2 (by decide) ?_
  refine V_aload_n hO 0 dX7_isSquare_3 rfl rfl ?_
  refine V_callV hO ml_X7_71 (C_X7_squares α σ) (by decide) (fun _ _ => ce_55) rfl rfl (rest := [.long 0, .long (Int32.toInt64 p1)]) rfl rfl (Nat.le_of_ble_eq_true rfl) ⟨Nat.le_of_ble_eq_true rfl, Nat.le_of_ble_eq_true rfl⟩ dX7_isSquare_4 (kc_I ?_)
  refine V_iconst hO 1 dX7_isSquare_7 (by decide) ?_
  refine V_isub hO dX7_isSquare_8 ?_
  refine V_i2l hO dX7_isSquare_9 ?_
  refine V_callS hO ml_X7_75 (C_X7_in α (Int32.toInt64 p1) (0 : Int64) (Int32.toInt64 ((F_X7_squares σ) - (1 : Int32))) σ) (rest := []) rfl rfl (Nat.le_of_ble_eq_true rfl) ⟨Nat.le_of_ble_eq_true rfl, Nat.le_of_ble_eq_true rfl⟩ dX7_isSquare_10 (kc_Z ?_)
  exact V_zret hO hR (b2i_01 _) rfl dX7_isSquare_13
set_option maxHeartbeats 4000000 in
set_option maxRecDepth 100000 in
theorem C_X7_isSquare (α : Nat → Nat) (p1 : Int32) (σ : Hp) : Ct yX7_isSquare cX7_isSquare 2 (some .boolean) 1 25 α [.ref (α (55)), .int p1] σ (kZ σ (F_X7_isSquare p1 σ)) := ct_of_V (own := RX7) rfl (by decide +kernel) (Nat.le_of_ble_eq_true rfl) fun _ hO hR => T_X7_isSquare hO hR p1 σ
/-! X7_isDebt -/
noncomputable def F_X7_isDebt  (p1 : Int32) (σ : Hp) : Bool :=
  (F_X7_in (Int32.toInt64 p1) (0 : Int64) (Int32.toInt64 ((σ.1 55 6) - (1 : Int32))) σ)
set_option maxHeartbeats 4000000 in
set_option maxRecDepth 100000 in
theorem T_X7_isDebt {G : Gm} {α : Nat → Nat} (hO : Ok G α cX7_isDebt 2 RX7 1 25) (hR : Rt G α (some .boolean)) (p1 : Int32) (σ : Hp) : V G α 2 (kZ σ) 0 [(0, .ref (α (55))), (1, .int p1)] [] σ (F_X7_isDebt p1 σ) := by
  rw [F_X7_isDebt]
  refine V_iload_n hO 1 dX7_isDebt_0 rfl rfl ?_
  refine V_i2l hO dX7_isDebt_1 ?_
  refine V_lconst hO 0 dX7_isDebt_2 (by decide) ?_
  refine V_aload_n hO 0 dX7_isDebt_3 rfl rfl ?_
  refine V_get hO (v := .int (σ.1 55 6)) fl_X7_79 (by decide) (fun _ _ => ce_55) rfl dX7_isDebt_4 ?_
  refine V_iconst hO 1 dX7_isDebt_7 (by decide) ?_
  refine V_isub hO dX7_isDebt_8 ?_
  refine V_i2l hO dX7_isDebt_9 ?_
  refine V_callS hO ml_X7_75 (C_X7_in α (Int32.toInt64 p1) (0 : Int64) (Int32.toInt64 ((σ.1 55 6) - (1 : Int32))) σ) (rest := []) rfl rfl (Nat.le_of_ble_eq_true rfl) ⟨Nat.le_of_ble_eq_true rfl, Nat.le_of_ble_eq_true rfl⟩ dX7_isDebt_10 (kc_Z ?_)
  exact V_zret hO hR (b2i_01 _) rfl dX7_isDebt_13
set_option maxHeartbeats 4000000 in
set_option maxRecDepth 100000 in
theorem C_X7_isDebt (α : Nat → Nat) (p1 : Int32) (σ : Hp) : Ct yX7_isDebt cX7_isDebt 2 (some .boolean) 1 25 α [.ref (α (55)), .int p1] σ (kZ σ (F_X7_isDebt p1 σ)) := ct_of_V (own := RX7) rfl (by decide +kernel) (Nat.le_of_ble_eq_true rfl) fun _ hO hR => T_X7_isDebt hO hR p1 σ
/-! X7_isPerson -/
noncomputable def F_X7_isPerson  (p1 : Int32) (σ : Hp) : Bool :=
  (F_X7_in (Int32.toInt64 p1) (0 : Int64) (5 : Int64) σ)
set_option maxHeartbeats 4000000 in
set_option maxRecDepth 100000 in
theorem T_X7_isPerson {G : Gm} {α : Nat → Nat} (hO : Ok G α cX7_isPerson 1 RX7 1 25) (hR : Rt G α (some .boolean)) (p1 : Int32) (σ : Hp) : V G α 1 (kZ σ) 0 [(0, .int p1)] [] σ (F_X7_isPerson p1 σ) := by
  rw [F_X7_isPerson]
  refine V_iload_n hO 0 dX7_isPerson_0 rfl rfl ?_
  refine V_i2l hO dX7_isPerson_1 ?_
  refine V_lconst hO 0 dX7_isPerson_2 (by decide) ?_
  refine V_ldc2 hO (v := 5) dX7_isPerson_3 cn_X7_82 ?_
  refine V_callS hO ml_X7_75 (C_X7_in α (Int32.toInt64 p1) (0 : Int64) (5 : Int64) σ) (rest := []) rfl rfl (Nat.le_of_ble_eq_true rfl) ⟨Nat.le_of_ble_eq_true rfl, Nat.le_of_ble_eq_true rfl⟩ dX7_isPerson_6 (kc_Z ?_)
  exact V_zret hO hR (b2i_01 _) rfl dX7_isPerson_9
set_option maxHeartbeats 4000000 in
set_option maxRecDepth 100000 in
theorem C_X7_isPerson (α : Nat → Nat) (p1 : Int32) (σ : Hp) : Ct yX7_isPerson cX7_isPerson 1 (some .boolean) 1 25 α [.int p1] σ (kZ σ (F_X7_isPerson p1 σ)) := ct_of_V (own := RX7) rfl (by decide +kernel) (Nat.le_of_ble_eq_true rfl) fun _ hO hR => T_X7_isPerson hO hR p1 σ
/-! X7_lake -/
noncomputable def F_X7_lake_43  : Nat → Int32 → Hp → Option (Int32 × Hp)
  | 0, _, _ => none
  | n + 1, w3, h =>
    if (16 : Int32) ≤ w3 then
    lt (up h 55 6 (0 : Int32)) fun h1 =>
    lt (up h1 55 5 (0 : Int32)) fun h2 =>
    lt (up h2 55 2 ((h2.1 55 2) + (1 : Int32))) fun h3 =>
    some ((F_X7_squares h3), h3)
    else
    if inb w3 16 = true then
    lt (up h 56 (Int32.toNatClampNeg w3) (10 : Int32)) fun h5 =>
    if inb w3 16 = true then
    lt (up h5 57 (Int32.toNatClampNeg w3) (0 : Int32)) fun h7 =>
    F_X7_lake_43 n (w3 + 1) h7
    else none
    else none
noncomputable def F_X7_lake  (p1 : Int32) (p2 : Int32) (σ : Hp) : Option (Int32 × Hp) :=
  if (F_X7_in (Int32.toInt64 p1) (2 : Int64) (4 : Int64) σ) = true then
  if (F_X7_in (Int32.toInt64 p2) (2 : Int64) (4 : Int64) σ) = true then
  lt (up σ 55 0 p1) fun h8 =>
  lt (up h8 55 1 p2) fun h9 =>
  F_X7_lake_43 fuel (0 : Int32) h9
  else
  some (((-102) : Int32), σ)
  else
  some (((-102) : Int32), σ)
set_option maxHeartbeats 4000000 in
set_option maxRecDepth 100000 in
theorem T_X7_lake_43 {G : Gm} {α : Nat → Nat} (hO : Ok G α cX7_lake 4 RX7 1 25) (hR : Rt G α (some .int)) : ∀ (fuel : Nat) (w3 : Int32) (h : Hp), V G α 4 (kSI) 43 [(0, .ref (α (55))), (3, .int w3)] [] h (F_X7_lake_43 fuel w3 h) := by
  intro fuel
  induction fuel with
  | zero => intro w3 h; exact V_none rfl
  | succ n ih =>
    intro w3 h
    rw [F_X7_lake_43]
    refine V_iload_n hO 1 dX7_lake_43 rfl rfl ?_
    refine V_bipush hO 16 dX7_lake_44 (by decide) ?_
    refine V_icmp_ge hO 70 dX7_lake_46 (by decide) ?_ ?_
    · refine V_aload_n hO 0 dX7_lake_70 rfl rfl ?_
      refine V_iconst hO 0 dX7_lake_71 (by decide) ?_
      refine V_puti hO fp_X7_79 (by decide) (fun _ _ => ce_55) (Nat.le_of_ble_eq_true rfl) (fun _ _ => pe_55_6) dX7_lake_72 (V_name fun h1 => ?_)
      refine V_aload_n hO 0 dX7_lake_75 rfl rfl ?_
      refine V_iconst hO 0 dX7_lake_76 (by decide) ?_
      refine V_puti hO fp_X7_88 (by decide) (fun _ _ => ce_55) (Nat.le_of_ble_eq_true rfl) (fun _ _ => pe_55_5) dX7_lake_77 (V_name fun h2 => ?_)
      refine V_aload_n hO 0 dX7_lake_80 rfl rfl ?_
      refine V_dup hO dX7_lake_81 rfl ?_
      refine V_get hO (v := .int (h2.1 55 2)) fl_X7_91 (by decide) (fun _ _ => ce_55) rfl dX7_lake_82 ?_
      refine V_iconst hO 1 dX7_lake_85 (by decide) ?_
      refine V_iadd hO dX7_lake_86 ?_
      refine V_puti hO fp_X7_91 (by decide) (fun _ _ => ce_55) (Nat.le_of_ble_eq_true rfl) (fun _ _ => pe_55_2) dX7_lake_87 (V_name fun h3 => ?_)
      refine V_aload_n hO 0 dX7_lake_90 rfl rfl ?_
      refine V_callV hO ml_X7_71 (C_X7_squares α h3) (by decide) (fun _ _ => ce_55) rfl rfl (rest := []) rfl rfl (Nat.le_of_ble_eq_true rfl) ⟨Nat.le_of_ble_eq_true rfl, Nat.le_of_ble_eq_true rfl⟩ dX7_lake_91 (kc_I ?_)
      exact V_iret hO hR rfl dX7_lake_94
    · refine V_aload_n hO 0 dX7_lake_49 rfl rfl ?_
      refine V_get hO (v := .ref (α (56))) fl_X7_7 (by decide) (fun _ _ => ce_55) rfl dX7_lake_50 ?_
      refine V_iload_n hO 1 dX7_lake_53 rfl rfl ?_
      refine V_bipush hO 10 dX7_lake_54 (by decide) ?_
      refine V_chk rfl fun c4 => ?_
      refine V_iast hO (by decide) (fun _ _ _ => ce_56) (inb_in c4) dX7_lake_56 (V_name fun h5 => ?_)
      refine V_aload_n hO 0 dX7_lake_57 rfl rfl ?_
      refine V_get hO (v := .ref (α (57))) fl_X7_13 (by decide) (fun _ _ => ce_55) rfl dX7_lake_58 ?_
      refine V_iload_n hO 1 dX7_lake_61 rfl rfl ?_
      refine V_iconst hO 0 dX7_lake_62 (by decide) ?_
      refine V_chk rfl fun c6 => ?_
      refine V_iast hO (by decide) (fun _ _ _ => ce_57) (inb_in c6) dX7_lake_63 (V_name fun h7 => ?_)
      refine V_iinc hO (ls2 := [(3, .int (w3 + 1)), (0, .ref (α (55)))]) (z := 1) 1 dX7_lake_64 rfl (by decide) (by decide) rfl ?_
      refine V_goto hO 43 dX7_lake_67 (by decide) ?_
      exact V_sub [1, 0] rfl (ih (w3 + 1) h7 )
set_option maxHeartbeats 4000000 in
set_option maxRecDepth 100000 in
theorem T_X7_lake {G : Gm} {α : Nat → Nat} (hO : Ok G α cX7_lake 4 RX7 1 25) (hR : Rt G α (some .int)) (p1 : Int32) (p2 : Int32) (σ : Hp) : V G α 4 (kSI) 0 [(0, .ref (α (55))), (1, .int p1), (2, .int p2)] [] σ (F_X7_lake p1 p2 σ) := by
  rw [F_X7_lake]
  refine V_iload_n hO 1 dX7_lake_0 rfl rfl ?_
  refine V_i2l hO dX7_lake_1 ?_
  refine V_ldc2 hO (v := 2) dX7_lake_2 cn_X7_84 ?_
  refine V_ldc2 hO (v := 4) dX7_lake_5 cn_X7_86 ?_
  refine V_callS hO ml_X7_75 (C_X7_in α (Int32.toInt64 p1) (2 : Int64) (4 : Int64) σ) (rest := []) rfl rfl (Nat.le_of_ble_eq_true rfl) ⟨Nat.le_of_ble_eq_true rfl, Nat.le_of_ble_eq_true rfl⟩ dX7_lake_8 (kc_Z ?_)
  refine V_ifeqZ hO 28 dX7_lake_11 (by decide) ?_ ?_
  · refine V_bipush hO (-102) dX7_lake_28 (by decide) ?_
    exact V_iret hO hR rfl dX7_lake_30
  · refine V_iload_n hO 2 dX7_lake_14 rfl rfl ?_
    refine V_i2l hO dX7_lake_15 ?_
    refine V_ldc2 hO (v := 2) dX7_lake_16 cn_X7_84 ?_
    refine V_ldc2 hO (v := 4) dX7_lake_19 cn_X7_86 ?_
    refine V_callS hO ml_X7_75 (C_X7_in α (Int32.toInt64 p2) (2 : Int64) (4 : Int64) σ) (rest := []) rfl rfl (Nat.le_of_ble_eq_true rfl) ⟨Nat.le_of_ble_eq_true rfl, Nat.le_of_ble_eq_true rfl⟩ dX7_lake_22 (kc_Z ?_)
    refine V_ifneZ hO 31 dX7_lake_25 (by decide) ?_ ?_
    · refine V_aload_n hO 0 dX7_lake_31 rfl rfl ?_
      refine V_iload_n hO 1 dX7_lake_32 rfl rfl ?_
      refine V_puti hO fp_X7_65 (by decide) (fun _ _ => ce_55) (Nat.le_of_ble_eq_true rfl) (fun _ _ => pe_55_0) dX7_lake_33 (V_name fun h8 => ?_)
      refine V_aload_n hO 0 dX7_lake_36 rfl rfl ?_
      refine V_iload_n hO 2 dX7_lake_37 rfl rfl ?_
      refine V_puti hO fp_X7_68 (by decide) (fun _ _ => ce_55) (Nat.le_of_ble_eq_true rfl) (fun _ _ => pe_55_1) dX7_lake_38 (V_name fun h9 => ?_)
      refine V_iconst hO 0 dX7_lake_41 (by decide) ?_
      refine V_istore_n hO (ls2 := [(3, .int 0), (0, .ref (α (55))), (1, .int p1), (2, .int p2)]) dX7_lake_42 rfl (by decide) rfl ?_
      exact V_sub [1, 0] rfl (T_X7_lake_43 hO hR fuel (0 : Int32) h9 )
    · refine V_bipush hO (-102) dX7_lake_28 (by decide) ?_
      exact V_iret hO hR rfl dX7_lake_30
set_option maxHeartbeats 4000000 in
set_option maxRecDepth 100000 in
theorem C_X7_lake (α : Nat → Nat) (p1 : Int32) (p2 : Int32) (σ : Hp) : Ct yX7_lake cX7_lake 4 (some .int) 1 25 α [.ref (α (55)), .int p1, .int p2] σ (kSI (F_X7_lake p1 p2 σ)) := ct_of_V (own := RX7) rfl (by decide +kernel) (Nat.le_of_ble_eq_true rfl) fun _ hO hR => T_X7_lake hO hR p1 p2 σ
/-! X7_isThere -/
noncomputable def F_X7_isThere  (p1 : Int32) (σ : Hp) : Option Bool :=
  if inb (((8 : Int32) * p1) + (6 : Int32)) 80 = true then
  if (σ.1 58 (Int32.toNatClampNeg (((8 : Int32) * p1) + (6 : Int32)))) = (1 : Int32) then
  some true
  else
  some false
  else none
set_option maxHeartbeats 4000000 in
set_option maxRecDepth 100000 in
theorem T_X7_isThere {G : Gm} {α : Nat → Nat} (hO : Ok G α cX7_isThere 2 RX7 0 0) (hR : Rt G α (some .boolean)) (p1 : Int32) (σ : Hp) : V G α 2 (kOZ σ) 0 [(0, .ref (α (55))), (1, .int p1)] [] σ (F_X7_isThere p1 σ) := by
  rw [F_X7_isThere]
  refine V_aload_n hO 0 dX7_isThere_0 rfl rfl ?_
  refine V_get hO (v := .ref (α (58))) fl_X7_16 (by decide) (fun _ _ => ce_55) rfl dX7_isThere_1 ?_
  refine V_bipush hO 8 dX7_isThere_4 (by decide) ?_
  refine V_iload_n hO 1 dX7_isThere_6 rfl rfl ?_
  refine V_imul hO dX7_isThere_7 ?_
  refine V_bipush hO 6 dX7_isThere_8 (by decide) ?_
  refine V_iadd hO dX7_isThere_10 ?_
  refine V_chk rfl fun c1 => ?_
  refine V_iald hO (by decide) (fun _ _ => ce_58) (inb_in c1) dX7_isThere_11 ?_
  refine V_iconst hO 1 dX7_isThere_12 (by decide) ?_
  refine V_icmp_ne hO 20 dX7_isThere_13 (by decide) ?_ ?_
  · refine V_iconst hO 0 dX7_isThere_20 (by decide) ?_
    exact V_zret hO hR (by decide) rfl dX7_isThere_21
  · refine V_iconst hO 1 dX7_isThere_16 (by decide) ?_
    refine V_goto hO 21 dX7_isThere_17 (by decide) ?_
    exact V_zret hO hR (by decide) rfl dX7_isThere_21
set_option maxHeartbeats 4000000 in
set_option maxRecDepth 100000 in
theorem C_X7_isThere (α : Nat → Nat) (p1 : Int32) (σ : Hp) : Ct yX7_isThere cX7_isThere 2 (some .boolean) 0 0 α [.ref (α (55)), .int p1] σ (kOZ σ (F_X7_isThere p1 σ)) := ct_of_V (own := RX7) rfl (by decide +kernel) (Nat.le_of_ble_eq_true rfl) fun _ hO hR => T_X7_isThere hO hR p1 σ
/-! X7_thereIn -/
noncomputable def F_X7_thereIn_41 (σ : Hp) (k4 : Int32 → Int32 → Int32 → (Option Int32)) (w1 : Int32) (w3 : Int32) (s0 : Bool) (s1 : Int32) : Option Int32 :=
  lt (s1 + (b2i s0)) fun v1 =>
  k4 w1 v1 (w3 + 1)
noncomputable def F_X7_thereIn_4 (σ : Hp) : Nat → Int32 → Int32 → Int32 → Option Int32
  | 0, _, _, _ => none
  | n + 1, w1, w2, w3 =>
    if (σ.1 55 6) ≤ w3 then
    some w2
    else
    (F_X7_isThere w3 σ).bind fun v2 =>
    if v2 = true then
    if inb (((8 : Int32) * w3) + (1 : Int32)) 80 = true then
    if (σ.1 58 (Int32.toNatClampNeg (((8 : Int32) * w3) + (1 : Int32)))) = w1 then
    F_X7_thereIn_41 σ (F_X7_thereIn_4 σ n) w1 w3 true w2
    else
    F_X7_thereIn_41 σ (F_X7_thereIn_4 σ n) w1 w3 false w2
    else none
    else
    F_X7_thereIn_41 σ (F_X7_thereIn_4 σ n) w1 w3 false w2
noncomputable def F_X7_thereIn  (p1 : Int32) (σ : Hp) : Option Int32 :=
  F_X7_thereIn_4 σ fuel p1 (0 : Int32) (0 : Int32)
set_option maxHeartbeats 4000000 in
set_option maxRecDepth 100000 in
theorem T_X7_thereIn_41 {G : Gm} {α : Nat → Nat} (hO : Ok G α cX7_thereIn 4 RX7 1 21) (hR : Rt G α (some .int)) (σ : Hp) (k4 : Int32 → Int32 → Int32 → (Option Int32)) (hk4 : ∀ (w1 : Int32) (w2 : Int32) (w3 : Int32), V G α 4 (kOI σ) 4 [(0, .ref (α (55))), (1, .int w1), (2, .int w2), (3, .int w3)] [] σ (k4 w1 w2 w3)) : ∀ (w1 : Int32) (w3 : Int32) (s0 : Bool) (s1 : Int32), V G α 4 (kOI σ) 41 [(0, .ref (α (55))), (1, .int w1), (3, .int w3)] [.int (b2i s0), .int s1] σ (F_X7_thereIn_41 σ k4 w1 w3 s0 s1) := by
  intro w1 w3 s0 s1
  rw [F_X7_thereIn_41]
  refine V_iadd hO dX7_thereIn_41 ?_
  refine V_istore_nN hO (ls2 := fun v1 => [(2, .int v1), (0, .ref (α (55))), (1, .int w1), (3, .int w3)]) dX7_thereIn_42 rfl (by decide) (fun _ => rfl) (fun v1 => ?_)
  refine V_iinc hO (ls2 := [(3, .int (w3 + 1)), (2, .int v1), (0, .ref (α (55))), (1, .int w1)]) (z := 1) 3 dX7_thereIn_43 rfl (by decide) (by decide) rfl ?_
  refine V_goto hO 4 dX7_thereIn_46 (by decide) ?_
  exact V_sub [2, 3, 1, 0] rfl (hk4 w1 v1 (w3 + 1) )
set_option maxHeartbeats 4000000 in
set_option maxRecDepth 100000 in
theorem T_X7_thereIn_4 {G : Gm} {α : Nat → Nat} (hO : Ok G α cX7_thereIn 4 RX7 1 21) (hR : Rt G α (some .int)) (σ : Hp) : ∀ (fuel : Nat) (w1 : Int32) (w2 : Int32) (w3 : Int32), V G α 4 (kOI σ) 4 [(0, .ref (α (55))), (1, .int w1), (2, .int w2), (3, .int w3)] [] σ (F_X7_thereIn_4 σ fuel w1 w2 w3) := by
  intro fuel
  induction fuel with
  | zero => intro w1 w2 w3; exact V_none rfl
  | succ n ih =>
    intro w1 w2 w3
    rw [F_X7_thereIn_4]
    refine V_iload_n hO 3 dX7_thereIn_4 rfl rfl ?_
    refine V_aload_n hO 0 dX7_thereIn_5 rfl rfl ?_
    refine V_get hO (v := .int (σ.1 55 6)) fl_X7_79 (by decide) (fun _ _ => ce_55) rfl dX7_thereIn_6 ?_
    refine V_icmp_ge hO 49 dX7_thereIn_9 (by decide) ?_ ?_
    · refine V_iload_n hO 2 dX7_thereIn_49 rfl rfl ?_
      exact V_iret hO hR rfl dX7_thereIn_50
    · refine V_iload_n hO 2 dX7_thereIn_12 rfl rfl ?_
      refine V_aload_n hO 0 dX7_thereIn_13 rfl rfl ?_
      refine V_iload_n hO 3 dX7_thereIn_14 rfl rfl ?_
      refine V_callV hO ml_X7_94 (C_X7_isThere α w3 σ) (by decide) (fun _ _ => ce_55) rfl rfl (rest := [.int w2]) rfl rfl (Nat.le_of_ble_eq_true rfl) ⟨Nat.le_of_ble_eq_true rfl, Nat.le_of_ble_eq_true rfl⟩ dX7_thereIn_15 (kc_OZ rfl fun v2 => ?_)
      refine V_ifeqZ hO 40 dX7_thereIn_18 (by decide) ?_ ?_
      · refine V_iconst hO 0 dX7_thereIn_40 (by decide) ?_
        exact V_sub [0, 1, 3] rfl (T_X7_thereIn_41 hO hR σ (F_X7_thereIn_4 σ n) ih w1 w3 false w2 )
      · refine V_aload_n hO 0 dX7_thereIn_21 rfl rfl ?_
        refine V_get hO (v := .ref (α (58))) fl_X7_16 (by decide) (fun _ _ => ce_55) rfl dX7_thereIn_22 ?_
        refine V_bipush hO 8 dX7_thereIn_25 (by decide) ?_
        refine V_iload_n hO 3 dX7_thereIn_27 rfl rfl ?_
        refine V_imul hO dX7_thereIn_28 ?_
        refine V_iconst hO 1 dX7_thereIn_29 (by decide) ?_
        refine V_iadd hO dX7_thereIn_30 ?_
        refine V_chk rfl fun c3 => ?_
        refine V_iald hO (by decide) (fun _ _ => ce_58) (inb_in c3) dX7_thereIn_31 ?_
        refine V_iload_n hO 1 dX7_thereIn_32 rfl rfl ?_
        refine V_icmp_ne hO 40 dX7_thereIn_33 (by decide) ?_ ?_
        · refine V_iconst hO 0 dX7_thereIn_40 (by decide) ?_
          exact V_sub [0, 1, 3] rfl (T_X7_thereIn_41 hO hR σ (F_X7_thereIn_4 σ n) ih w1 w3 false w2 )
        · refine V_iconst hO 1 dX7_thereIn_36 (by decide) ?_
          refine V_goto hO 41 dX7_thereIn_37 (by decide) ?_
          exact V_sub [0, 1, 3] rfl (T_X7_thereIn_41 hO hR σ (F_X7_thereIn_4 σ n) ih w1 w3 true w2 )
set_option maxHeartbeats 4000000 in
set_option maxRecDepth 100000 in
theorem T_X7_thereIn {G : Gm} {α : Nat → Nat} (hO : Ok G α cX7_thereIn 4 RX7 1 21) (hR : Rt G α (some .int)) (p1 : Int32) (σ : Hp) : V G α 4 (kOI σ) 0 [(0, .ref (α (55))), (1, .int p1)] [] σ (F_X7_thereIn p1 σ) := by
  rw [F_X7_thereIn]
  refine V_iconst hO 0 dX7_thereIn_0 (by decide) ?_
  refine V_istore_n hO (ls2 := [(2, .int 0), (0, .ref (α (55))), (1, .int p1)]) dX7_thereIn_1 rfl (by decide) rfl ?_
  refine V_iconst hO 0 dX7_thereIn_2 (by decide) ?_
  refine V_istore_n hO (ls2 := [(3, .int 0), (2, .int 0), (0, .ref (α (55))), (1, .int p1)]) dX7_thereIn_3 rfl (by decide) rfl ?_
  exact V_sub [2, 3, 1, 0] rfl (T_X7_thereIn_4 hO hR σ fuel p1 (0 : Int32) (0 : Int32) )
set_option maxHeartbeats 4000000 in
set_option maxRecDepth 100000 in
theorem C_X7_thereIn (α : Nat → Nat) (p1 : Int32) (σ : Hp) : Ct yX7_thereIn cX7_thereIn 4 (some .int) 1 21 α [.ref (α (55)), .int p1] σ (kOI σ (F_X7_thereIn p1 σ)) := ct_of_V (own := RX7) rfl (by decide +kernel) (Nat.le_of_ble_eq_true rfl) fun _ hO hR => T_X7_thereIn hO hR p1 σ
/-! X7_ice -/
noncomputable def F_X7_ice  (p1 : Int32) (p2 : Int32) (σ : Hp) : Option (Int32 × Hp) :=
  if (F_X7_isSquare p1 σ) = true then
  if (F_X7_in (Int32.toInt64 p2) (0 : Int64) (99 : Int64) σ) = true then
  (F_X7_thereIn p1 σ).bind fun v1 =>
  if v1 ≤ 0 then
  if inb p1 16 = true then
  lt (σ.1 56 (Int32.toNatClampNeg p1)) fun v3 =>
  if inb p1 16 = true then
  lt (up σ 56 (Int32.toNatClampNeg p1) p2) fun h5 =>
  some (v3, h5)
  else none
  else none
  else
  some (((-103) : Int32), σ)
  else
  some (((-102) : Int32), σ)
  else
  some (((-101) : Int32), σ)
set_option maxHeartbeats 4000000 in
set_option maxRecDepth 100000 in
theorem T_X7_ice {G : Gm} {α : Nat → Nat} (hO : Ok G α cX7_ice 4 RX7 2 46) (hR : Rt G α (some .int)) (p1 : Int32) (p2 : Int32) (σ : Hp) : V G α 4 (kSI) 0 [(0, .ref (α (55))), (1, .int p1), (2, .int p2)] [] σ (F_X7_ice p1 p2 σ) := by
  rw [F_X7_ice]
  refine V_aload_n hO 0 dX7_ice_0 rfl rfl ?_
  refine V_iload_n hO 1 dX7_ice_1 rfl rfl ?_
  refine V_callV hO ml_X7_98 (C_X7_isSquare α p1 σ) (by decide) (fun _ _ => ce_55) rfl rfl (rest := []) rfl rfl (Nat.le_of_ble_eq_true rfl) ⟨Nat.le_of_ble_eq_true rfl, Nat.le_of_ble_eq_true rfl⟩ dX7_ice_2 (kc_Z ?_)
  refine V_ifneZ hO 11 dX7_ice_5 (by decide) ?_ ?_
  · refine V_iload_n hO 2 dX7_ice_11 rfl rfl ?_
    refine V_i2l hO dX7_ice_12 ?_
    refine V_lconst hO 0 dX7_ice_13 (by decide) ?_
    refine V_ldc2 hO (v := 99) dX7_ice_14 cn_X7_101 ?_
    refine V_callS hO ml_X7_75 (C_X7_in α (Int32.toInt64 p2) (0 : Int64) (99 : Int64) σ) (rest := []) rfl rfl (Nat.le_of_ble_eq_true rfl) ⟨Nat.le_of_ble_eq_true rfl, Nat.le_of_ble_eq_true rfl⟩ dX7_ice_17 (kc_Z ?_)
    refine V_ifneZ hO 26 dX7_ice_20 (by decide) ?_ ?_
    · refine V_aload_n hO 0 dX7_ice_26 rfl rfl ?_
      refine V_iload_n hO 1 dX7_ice_27 rfl rfl ?_
      refine V_callV hO ml_X7_103 (C_X7_thereIn α p1 σ) (by decide) (fun _ _ => ce_55) rfl rfl (rest := []) rfl rfl (Nat.le_of_ble_eq_true rfl) ⟨Nat.le_of_ble_eq_true rfl, Nat.le_of_ble_eq_true rfl⟩ dX7_ice_28 (kc_OI rfl fun v1 => ?_)
      refine V_if_le hO 37 dX7_ice_31 (by decide) ?_ ?_
      · refine V_aload_n hO 0 dX7_ice_37 rfl rfl ?_
        refine V_get hO (v := .ref (α (56))) fl_X7_7 (by decide) (fun _ _ => ce_55) rfl dX7_ice_38 ?_
        refine V_iload_n hO 1 dX7_ice_41 rfl rfl ?_
        refine V_chk rfl fun c2 => ?_
        refine V_iald hO (by decide) (fun _ _ => ce_56) (inb_in c2) dX7_ice_42 ?_
        refine V_istore_nN hO (ls2 := fun v3 => [(3, .int v3), (0, .ref (α (55))), (1, .int p1), (2, .int p2)]) dX7_ice_43 rfl (by decide) (fun _ => rfl) (fun v3 => ?_)
        refine V_aload_n hO 1 dX7_ice_44 rfl rfl ?_
        refine V_get hO (v := .ref (α (56))) fl_X7_7 (by decide) (fun _ _ => ce_55) rfl dX7_ice_45 ?_
        refine V_iload_n hO 2 dX7_ice_48 rfl rfl ?_
        refine V_iload_n hO 3 dX7_ice_49 rfl rfl ?_
        refine V_chk rfl fun c4 => ?_
        refine V_iast hO (by decide) (fun _ _ _ => ce_56) (inb_in c4) dX7_ice_50 (V_name fun h5 => ?_)
        refine V_iload_n hO 0 dX7_ice_51 rfl rfl ?_
        exact V_iret hO hR rfl dX7_ice_52
      · refine V_bipush hO (-103) dX7_ice_34 (by decide) ?_
        exact V_iret hO hR rfl dX7_ice_36
    · refine V_bipush hO (-102) dX7_ice_23 (by decide) ?_
      exact V_iret hO hR rfl dX7_ice_25
  · refine V_bipush hO (-101) dX7_ice_8 (by decide) ?_
    exact V_iret hO hR rfl dX7_ice_10
set_option maxHeartbeats 4000000 in
set_option maxRecDepth 100000 in
theorem C_X7_ice (α : Nat → Nat) (p1 : Int32) (p2 : Int32) (σ : Hp) : Ct yX7_ice cX7_ice 4 (some .int) 2 46 α [.ref (α (55)), .int p1, .int p2] σ (kSI (F_X7_ice p1 p2 σ)) := ct_of_V (own := RX7) rfl (by decide +kernel) (Nat.le_of_ble_eq_true rfl) fun _ hO hR => T_X7_ice hO hR p1 p2 σ
/-! X7_bearsOne -/
noncomputable def F_X7_bearsOne  (p1 : Int32) (σ : Hp) : Option Bool :=
  if inb p1 16 = true then
  if (σ.1 56 (Int32.toNatClampNeg p1)) ≤ (3 : Int32) then
  some false
  else
  some true
  else none
set_option maxHeartbeats 4000000 in
set_option maxRecDepth 100000 in
theorem T_X7_bearsOne {G : Gm} {α : Nat → Nat} (hO : Ok G α cX7_bearsOne 2 RX7 0 0) (hR : Rt G α (some .boolean)) (p1 : Int32) (σ : Hp) : V G α 2 (kOZ σ) 0 [(0, .ref (α (55))), (1, .int p1)] [] σ (F_X7_bearsOne p1 σ) := by
  rw [F_X7_bearsOne]
  refine V_aload_n hO 0 dX7_bearsOne_0 rfl rfl ?_
  refine V_get hO (v := .ref (α (56))) fl_X7_7 (by decide) (fun _ _ => ce_55) rfl dX7_bearsOne_1 ?_
  refine V_iload_n hO 1 dX7_bearsOne_4 rfl rfl ?_
  refine V_chk rfl fun c1 => ?_
  refine V_iald hO (by decide) (fun _ _ => ce_56) (inb_in c1) dX7_bearsOne_5 ?_
  refine V_iconst hO 3 dX7_bearsOne_6 (by decide) ?_
  refine V_icmp_le hO 14 dX7_bearsOne_7 (by decide) ?_ ?_
  · refine V_iconst hO 0 dX7_bearsOne_14 (by decide) ?_
    exact V_zret hO hR (by decide) rfl dX7_bearsOne_15
  · refine V_iconst hO 1 dX7_bearsOne_10 (by decide) ?_
    refine V_goto hO 15 dX7_bearsOne_11 (by decide) ?_
    exact V_zret hO hR (by decide) rfl dX7_bearsOne_15
set_option maxHeartbeats 4000000 in
set_option maxRecDepth 100000 in
theorem C_X7_bearsOne (α : Nat → Nat) (p1 : Int32) (σ : Hp) : Ct yX7_bearsOne cX7_bearsOne 2 (some .boolean) 0 0 α [.ref (α (55)), .int p1] σ (kOZ σ (F_X7_bearsOne p1 σ)) := ct_of_V (own := RX7) rfl (by decide +kernel) (Nat.le_of_ble_eq_true rfl) fun _ hO hR => T_X7_bearsOne hO hR p1 σ
/-! X7_tellSquare -/
noncomputable def F_X7_tellSquare  (p1 : Int32) (p2 : Int32) (σ : Hp) : Option Int32 :=
  if p2 = 0 then
  if inb p1 16 = true then
  some (σ.1 56 (Int32.toNatClampNeg p1))
  else none
  else if p2 = 1 then
  if inb p1 16 = true then
  some (σ.1 57 (Int32.toNatClampNeg p1))
  else none
  else if p2 = 2 then
  (F_X7_thereIn p1 σ).bind fun v7 =>
  some v7
  else if p2 = 3 then
  (F_X7_bearsOne p1 σ).bind fun v10 =>
  if v10 = true then
  some (1 : Int32)
  else
  some (0 : Int32)
  else 
  some ((-102) : Int32)
set_option maxHeartbeats 4000000 in
set_option maxRecDepth 100000 in
theorem T_X7_tellSquare {G : Gm} {α : Nat → Nat} (hO : Ok G α cX7_tellSquare 3 RX7 2 44) (hR : Rt G α (some .int)) (p1 : Int32) (p2 : Int32) (σ : Hp) : V G α 3 (kOI σ) 0 [(0, .ref (α (55))), (1, .int p1), (2, .int p2)] [] σ (F_X7_tellSquare p1 p2 σ) := by
  rw [F_X7_tellSquare]
  refine V_iload_n hO 2 dX7_tellSquare_0 rfl rfl ?_
  refine V_case (fun c2 => ?_) (fun n3 => ?_)
  · refine V_tsIn hO (off := 31) 32 dX7_tellSquare_1 (by rw [c2]; decide) (by rw [c2]; decide) (by rw [c2]; first | done | rfl | decide) (by decide) ?_
    refine V_aload_n hO 0 dX7_tellSquare_32 rfl rfl ?_
    refine V_get hO (v := .ref (α (56))) fl_X7_7 (by decide) (fun _ _ => ce_55) rfl dX7_tellSquare_33 ?_
    refine V_iload_n hO 1 dX7_tellSquare_36 rfl rfl ?_
    refine V_chk rfl fun c1 => ?_
    refine V_iald hO (by decide) (fun _ _ => ce_56) (inb_in c1) dX7_tellSquare_37 ?_
    exact V_iret hO hR rfl dX7_tellSquare_38
  refine V_case (fun c5 => ?_) (fun n6 => ?_)
  · refine V_tsIn hO (off := 38) 39 dX7_tellSquare_1 (by rw [c5]; decide) (by rw [c5]; decide) (by rw [c5]; first | done | rfl | decide) (by decide) ?_
    refine V_aload_n hO 0 dX7_tellSquare_39 rfl rfl ?_
    refine V_get hO (v := .ref (α (57))) fl_X7_13 (by decide) (fun _ _ => ce_55) rfl dX7_tellSquare_40 ?_
    refine V_iload_n hO 1 dX7_tellSquare_43 rfl rfl ?_
    refine V_chk rfl fun c4 => ?_
    refine V_iald hO (by decide) (fun _ _ => ce_57) (inb_in c4) dX7_tellSquare_44 ?_
    exact V_iret hO hR rfl dX7_tellSquare_45
  refine V_case (fun c8 => ?_) (fun n9 => ?_)
  · refine V_tsIn hO (off := 45) 46 dX7_tellSquare_1 (by rw [c8]; decide) (by rw [c8]; decide) (by rw [c8]; first | done | rfl | decide) (by decide) ?_
    refine V_aload_n hO 0 dX7_tellSquare_46 rfl rfl ?_
    refine V_iload_n hO 1 dX7_tellSquare_47 rfl rfl ?_
    refine V_callV hO ml_X7_103 (C_X7_thereIn α p1 σ) (by decide) (fun _ _ => ce_55) rfl rfl (rest := []) rfl rfl (Nat.le_of_ble_eq_true rfl) ⟨Nat.le_of_ble_eq_true rfl, Nat.le_of_ble_eq_true rfl⟩ dX7_tellSquare_48 (kc_OI rfl fun v7 => ?_)
    exact V_iret hO hR rfl dX7_tellSquare_51
  refine V_case (fun c11 => ?_) (fun n12 => ?_)
  · refine V_tsIn hO (off := 51) 52 dX7_tellSquare_1 (by rw [c11]; decide) (by rw [c11]; decide) (by rw [c11]; first | done | rfl | decide) (by decide) ?_
    refine V_aload_n hO 0 dX7_tellSquare_52 rfl rfl ?_
    refine V_iload_n hO 1 dX7_tellSquare_53 rfl rfl ?_
    refine V_callV hO ml_X7_107 (C_X7_bearsOne α p1 σ) (by decide) (fun _ _ => ce_55) rfl rfl (rest := []) rfl rfl (Nat.le_of_ble_eq_true rfl) ⟨Nat.le_of_ble_eq_true rfl, Nat.le_of_ble_eq_true rfl⟩ dX7_tellSquare_54 (kc_OZ rfl fun v10 => ?_)
    refine V_ifeqZ hO 64 dX7_tellSquare_57 (by decide) ?_ ?_
    · refine V_iconst hO 0 dX7_tellSquare_64 (by decide) ?_
      exact V_iret hO hR rfl dX7_tellSquare_65
    · refine V_iconst hO 1 dX7_tellSquare_60 (by decide) ?_
      refine V_goto hO 65 dX7_tellSquare_61 (by decide) ?_
      exact V_iret hO hR rfl dX7_tellSquare_65
  refine V_tsOut hO 66 dX7_tellSquare_1 (by have h9 := ts_out 4 (p9_ts (lt_s (lt_s (lt_s (lt_s lt_0 n3) n6) n9) n12)) (by decide); omega) (by decide) ?_
  refine V_bipush hO (-102) dX7_tellSquare_66 (by decide) ?_
  exact V_iret hO hR rfl dX7_tellSquare_68
set_option maxHeartbeats 4000000 in
set_option maxRecDepth 100000 in
theorem C_X7_tellSquare (α : Nat → Nat) (p1 : Int32) (p2 : Int32) (σ : Hp) : Ct yX7_tellSquare cX7_tellSquare 3 (some .int) 2 44 α [.ref (α (55)), .int p1, .int p2] σ (kOI σ (F_X7_tellSquare p1 p2 σ)) := ct_of_V (own := RX7) rfl (by decide +kernel) (Nat.le_of_ble_eq_true rfl) fun _ hO hR => T_X7_tellSquare hO hR p1 p2 σ
