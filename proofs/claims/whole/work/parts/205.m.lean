/-! X6_rest -/
noncomputable def F_X6_rest  (p1 : Int32) (σ : Hp) : Option Int32 :=
  if (F_X6_isPerson p1 σ) = true then
  (F_X5_restOf 0 p1 σ).bind fun v1 =>
  some v1
  else
  some ((-100001) : Int32)
set_option maxHeartbeats 4000000 in
set_option maxRecDepth 100000 in
theorem T_X6_rest {G : Gm} {α : Nat → Nat} (hO : Ok G α cX6_rest 2 RX6 4 87) (hR : Rt G α (some .int)) (p1 : Int32) (σ : Hp) : V G α 2 (kOI σ) 0 [(0, .ref (α (54))), (1, .int p1)] [] σ (F_X6_rest p1 σ) := by
  rw [F_X6_rest]
  refine V_iload_n hO 1 dX6_rest_0 rfl rfl ?_
  refine V_callS hO ml_X6_195 (C_X6_isPerson α p1 σ) (rest := []) rfl rfl (Nat.le_of_ble_eq_true rfl) ⟨Nat.le_of_ble_eq_true rfl, Nat.le_of_ble_eq_true rfl⟩ dX6_rest_1 (kc_Z ?_)
  refine V_ifeqZ hO 18 dX6_rest_4 (by decide) ?_ ?_
  · refine V_ldc hO (v := (-100001)) dX6_rest_18 cn_X6_201 ?_
    exact V_iret hO hR rfl dX6_rest_20
  · refine V_aload_n hO 0 dX6_rest_7 rfl rfl ?_
    refine V_get hO (v := .ref (α (30))) fl_X6_10 (by decide) (fun _ _ => ce_54) rfl dX6_rest_8 ?_
    refine V_iload_n hO 1 dX6_rest_11 rfl rfl ?_
    refine V_callV hO ml_X6_198 (C_X5_restOf α (t := 0) (by decide) p1 σ) (by decide) (fun _ _ => ce_town (t := 0) (by decide)) rfl rfl (rest := []) rfl rfl (Nat.le_of_ble_eq_true rfl) ⟨Nat.le_of_ble_eq_true rfl, Nat.le_of_ble_eq_true rfl⟩ dX6_rest_12 (kc_OI rfl fun v1 => ?_)
    refine V_goto hO 20 dX6_rest_15 (by decide) ?_
    exact V_iret hO hR rfl dX6_rest_20
set_option maxHeartbeats 4000000 in
set_option maxRecDepth 100000 in
theorem C_X6_rest (α : Nat → Nat) (p1 : Int32) (σ : Hp) : Ct yX6_rest cX6_rest 2 (some .int) 4 87 α [.ref (α (54)), .int p1] σ (kOI σ (F_X6_rest p1 σ)) := ct_of_V (own := RX6) rfl (by decide +kernel) (Nat.le_of_ble_eq_true rfl) fun _ hO hR => T_X6_rest hO hR p1 σ
/-! X6_sledges -/
noncomputable def F_X6_sledges  (p1 : Int32) (p2 : Int32) (p3 : Int32) (σ : Hp) : Option (Int32 × Hp) :=
  if (F_X6_within p1 (1 : Int32) (3 : Int32) σ) = true then
  if (F_X6_within p2 (1 : Int32) (200 : Int32) σ) = true then
  if (F_X6_within p3 (0 : Int32) (1 : Int32) σ) = true then
  if (σ.1 54 8) < (20 : Int32) then
  lt (up σ 54 8 ((σ.1 54 8) + (1 : Int32))) fun h1 =>
  (F_X1_choose p1 p2 h1).bind fun q2 =>
  if p3 = 0 then
  some ((q2.1 46 0), q2)
  else
  some ((q2.1 46 1), q2)
  else
  some (((-103) : Int32), σ)
  else
  some (((-102) : Int32), σ)
  else
  some (((-102) : Int32), σ)
  else
  some (((-102) : Int32), σ)
set_option maxHeartbeats 4000000 in
set_option maxRecDepth 100000 in
theorem T_X6_sledges {G : Gm} {α : Nat → Nat} (hO : Ok G α cX6_sledges 4 RX6 5 110) (hR : Rt G α (some .int)) (p1 : Int32) (p2 : Int32) (p3 : Int32) (σ : Hp) : V G α 4 (kSI) 0 [(0, .ref (α (54))), (1, .int p1), (2, .int p2), (3, .int p3)] [] σ (F_X6_sledges p1 p2 p3 σ) := by
  rw [F_X6_sledges]
  refine V_iload_n hO 1 dX6_sledges_0 rfl rfl ?_
  refine V_iconst hO 1 dX6_sledges_1 (by decide) ?_
  refine V_iconst hO 3 dX6_sledges_2 (by decide) ?_
  refine V_callS hO ml_X6_54 (C_X6_within α p1 (1 : Int32) (3 : Int32) σ) (rest := []) rfl rfl (Nat.le_of_ble_eq_true rfl) ⟨Nat.le_of_ble_eq_true rfl, Nat.le_of_ble_eq_true rfl⟩ dX6_sledges_3 (kc_Z ?_)
  refine V_ifeqZ hO 29 dX6_sledges_6 (by decide) ?_ ?_
  · refine V_bipush hO (-102) dX6_sledges_29 (by decide) ?_
    exact V_iret hO hR rfl dX6_sledges_31
  · refine V_iload_n hO 2 dX6_sledges_9 rfl rfl ?_
    refine V_iconst hO 1 dX6_sledges_10 (by decide) ?_
    refine V_sipush hO 200 dX6_sledges_11 (by decide) ?_
    refine V_callS hO ml_X6_54 (C_X6_within α p2 (1 : Int32) (200 : Int32) σ) (rest := []) rfl rfl (Nat.le_of_ble_eq_true rfl) ⟨Nat.le_of_ble_eq_true rfl, Nat.le_of_ble_eq_true rfl⟩ dX6_sledges_14 (kc_Z ?_)
    refine V_ifeqZ hO 29 dX6_sledges_17 (by decide) ?_ ?_
    · refine V_bipush hO (-102) dX6_sledges_29 (by decide) ?_
      exact V_iret hO hR rfl dX6_sledges_31
    · refine V_iload_n hO 3 dX6_sledges_20 rfl rfl ?_
      refine V_iconst hO 0 dX6_sledges_21 (by decide) ?_
      refine V_iconst hO 1 dX6_sledges_22 (by decide) ?_
      refine V_callS hO ml_X6_54 (C_X6_within α p3 (0 : Int32) (1 : Int32) σ) (rest := []) rfl rfl (Nat.le_of_ble_eq_true rfl) ⟨Nat.le_of_ble_eq_true rfl, Nat.le_of_ble_eq_true rfl⟩ dX6_sledges_23 (kc_Z ?_)
      refine V_ifneZ hO 32 dX6_sledges_26 (by decide) ?_ ?_
      · refine V_aload_n hO 0 dX6_sledges_32 rfl rfl ?_
        refine V_get hO (v := .int (σ.1 54 8)) fl_X6_202 (by decide) (fun _ _ => ce_54) rfl dX6_sledges_33 ?_
        refine V_bipush hO 20 dX6_sledges_36 (by decide) ?_
        refine V_icmp_lt hO 44 dX6_sledges_38 (by decide) ?_ ?_
        · refine V_aload_n hO 0 dX6_sledges_44 rfl rfl ?_
          refine V_dup hO dX6_sledges_45 rfl ?_
          refine V_get hO (v := .int (σ.1 54 8)) fl_X6_202 (by decide) (fun _ _ => ce_54) rfl dX6_sledges_46 ?_
          refine V_iconst hO 1 dX6_sledges_49 (by decide) ?_
          refine V_iadd hO dX6_sledges_50 ?_
          refine V_puti hO fp_X6_202 (by decide) (fun _ _ => ce_54) (Nat.le_of_ble_eq_true rfl) (fun _ _ => pe_54_8) dX6_sledges_51 (V_name fun h1 => ?_)
          refine V_aload_n hO 0 dX6_sledges_54 rfl rfl ?_
          refine V_get hO (v := .ref (α (46))) fl_X6_39 (by decide) (fun _ _ => ce_54) rfl dX6_sledges_55 ?_
          refine V_aload_n hO 0 dX6_sledges_58 rfl rfl ?_
          refine V_get hO (v := .ref (α (30))) fl_X6_10 (by decide) (fun _ _ => ce_54) rfl dX6_sledges_59 ?_
          refine V_iload_n hO 1 dX6_sledges_62 rfl rfl ?_
          refine V_iload_n hO 2 dX6_sledges_63 rfl rfl ?_
          refine V_callV hO ml_X6_205 (C_X1_choose α p1 p2 h1) (by decide) (fun _ _ => ce_46) rfl rfl (rest := []) rfl rfl (Nat.le_of_ble_eq_true rfl) ⟨Nat.le_of_ble_eq_true rfl, Nat.le_of_ble_eq_true rfl⟩ dX6_sledges_64 (kc_SV rfl fun q2 => ?_)
          refine V_iload_n hO 3 dX6_sledges_67 rfl rfl ?_
          refine V_if_ne hO 81 dX6_sledges_68 (by decide) ?_ ?_
          · refine V_aload_n hO 0 dX6_sledges_81 rfl rfl ?_
            refine V_get hO (v := .ref (α (46))) fl_X6_39 (by decide) (fun _ _ => ce_54) rfl dX6_sledges_82 ?_
            refine V_get hO (v := .int (q2.1 46 1)) fl_X6_212 (by decide) (fun _ _ => ce_46) rfl dX6_sledges_85 ?_
            exact V_iret hO hR rfl dX6_sledges_88
          · refine V_aload_n hO 0 dX6_sledges_71 rfl rfl ?_
            refine V_get hO (v := .ref (α (46))) fl_X6_39 (by decide) (fun _ _ => ce_54) rfl dX6_sledges_72 ?_
            refine V_get hO (v := .int (q2.1 46 0)) fl_X6_209 (by decide) (fun _ _ => ce_46) rfl dX6_sledges_75 ?_
            refine V_goto hO 88 dX6_sledges_78 (by decide) ?_
            exact V_iret hO hR rfl dX6_sledges_88
        · refine V_bipush hO (-103) dX6_sledges_41 (by decide) ?_
          exact V_iret hO hR rfl dX6_sledges_43
      · refine V_bipush hO (-102) dX6_sledges_29 (by decide) ?_
        exact V_iret hO hR rfl dX6_sledges_31
set_option maxHeartbeats 4000000 in
set_option maxRecDepth 100000 in
theorem C_X6_sledges (α : Nat → Nat) (p1 : Int32) (p2 : Int32) (p3 : Int32) (σ : Hp) : Ct yX6_sledges cX6_sledges 4 (some .int) 5 110 α [.ref (α (54)), .int p1, .int p2, .int p3] σ (kSI (F_X6_sledges p1 p2 p3 σ)) := ct_of_V (own := RX6) rfl (by decide +kernel) (Nat.le_of_ble_eq_true rfl) fun _ hO hR => T_X6_sledges hO hR p1 p2 p3 σ
/-! X6_settled -/
noncomputable def F_X6_settled  (p1 : Int32) (σ : Hp) : Option (Int32 × Hp) :=
  if (F_X6_within p1 (0 : Int32) (1 : Int32) σ) = true then
  (F_X3_mostGroups σ).bind fun q1 =>
  if p1 = 0 then
  some (((6 : Int32) - q1.1), q1.2)
  else
  some (q1.1, q1.2)
  else
  some (((-102) : Int32), σ)
set_option maxHeartbeats 4000000 in
set_option maxRecDepth 100000 in
theorem T_X6_settled {G : Gm} {α : Nat → Nat} (hO : Ok G α cX6_settled 3 RX6 5 109) (hR : Rt G α (some .int)) (p1 : Int32) (σ : Hp) : V G α 3 (kSI) 0 [(0, .ref (α (54))), (1, .int p1)] [] σ (F_X6_settled p1 σ) := by
  rw [F_X6_settled]
  refine V_iload_n hO 1 dX6_settled_0 rfl rfl ?_
  refine V_iconst hO 0 dX6_settled_1 (by decide) ?_
  refine V_iconst hO 1 dX6_settled_2 (by decide) ?_
  refine V_callS hO ml_X6_54 (C_X6_within α p1 (0 : Int32) (1 : Int32) σ) (rest := []) rfl rfl (Nat.le_of_ble_eq_true rfl) ⟨Nat.le_of_ble_eq_true rfl, Nat.le_of_ble_eq_true rfl⟩ dX6_settled_3 (kc_Z ?_)
  refine V_ifneZ hO 12 dX6_settled_6 (by decide) ?_ ?_
  · refine V_aload_n hO 0 dX6_settled_12 rfl rfl ?_
    refine V_get hO (v := .ref (α (50))) fl_X6_46 (by decide) (fun _ _ => ce_54) rfl dX6_settled_13 ?_
    refine V_aload_n hO 0 dX6_settled_16 rfl rfl ?_
    refine V_get hO (v := .ref (α (30))) fl_X6_10 (by decide) (fun _ _ => ce_54) rfl dX6_settled_17 ?_
    refine V_callV hO ml_X6_215 (C_X3_mostGroups α σ) (by decide) (fun _ _ => ce_50) rfl rfl (rest := []) rfl rfl (Nat.le_of_ble_eq_true rfl) ⟨Nat.le_of_ble_eq_true rfl, Nat.le_of_ble_eq_true rfl⟩ dX6_settled_20 (kc_SI rfl fun q1 => ?_)
    refine V_istore_n hO (ls2 := [(2, .int q1.1), (0, .ref (α (54))), (1, .int p1)]) dX6_settled_23 rfl (by decide) rfl ?_
    refine V_iload_n hO 2 dX6_settled_24 rfl rfl ?_
    refine V_if_ne hO 35 dX6_settled_25 (by decide) ?_ ?_
    · refine V_iload_n hO 0 dX6_settled_35 rfl rfl ?_
      exact V_iret hO hR rfl dX6_settled_36
    · refine V_bipush hO 6 dX6_settled_28 (by decide) ?_
      refine V_iload_n hO 0 dX6_settled_30 rfl rfl ?_
      refine V_isub hO dX6_settled_31 ?_
      refine V_goto hO 36 dX6_settled_32 (by decide) ?_
      exact V_iret hO hR rfl dX6_settled_36
  · refine V_bipush hO (-102) dX6_settled_9 (by decide) ?_
    exact V_iret hO hR rfl dX6_settled_11
set_option maxHeartbeats 4000000 in
set_option maxRecDepth 100000 in
theorem C_X6_settled (α : Nat → Nat) (p1 : Int32) (σ : Hp) : Ct yX6_settled cX6_settled 3 (some .int) 5 109 α [.ref (α (54)), .int p1] σ (kSI (F_X6_settled p1 σ)) := ct_of_V (own := RX6) rfl (by decide +kernel) (Nat.le_of_ble_eq_true rfl) fun _ hO hR => T_X6_settled hO hR p1 σ
/-! X6_skate -/
noncomputable def F_X6_skate  (p1 : Int32) (p2 : Int32) (p3 : Int32) (σ : Hp) : Option (Int32 × Hp) :=
  if (F_X5_hasSquare 0 p1 σ) = true then
  if (F_X5_hasSquare 0 p2 σ) = true then
  if (F_X6_within p3 (0 : Int32) (1 : Int32) σ) = true then
  (F_X4_roam p1 σ).bind fun q1 =>
  if inb p2 16 = true then
  if 0 ≤ (q1.1 42 (Int32.toNatClampNeg p2)) then
  if p3 = 0 then
  if inb p2 16 = true then
  some ((q1.1 42 (Int32.toNatClampNeg p2)), q1)
  else none
  else
  if inb p2 16 = true then
  some ((q1.1 43 (Int32.toNatClampNeg p2)), q1)
  else none
  else
  some (((-1) : Int32), q1)
  else none
  else
  some (((-102) : Int32), σ)
  else
  some (((-101) : Int32), σ)
  else
  some (((-101) : Int32), σ)
set_option maxHeartbeats 4000000 in
set_option maxRecDepth 100000 in
theorem T_X6_skate {G : Gm} {α : Nat → Nat} (hO : Ok G α cX6_skate 4 RX6 5 111) (hR : Rt G α (some .int)) (p1 : Int32) (p2 : Int32) (p3 : Int32) (σ : Hp) : V G α 4 (kSI) 0 [(0, .ref (α (54))), (1, .int p1), (2, .int p2), (3, .int p3)] [] σ (F_X6_skate p1 p2 p3 σ) := by
  rw [F_X6_skate]
  refine V_aload_n hO 0 dX6_skate_0 rfl rfl ?_
  refine V_get hO (v := .ref (α (30))) fl_X6_10 (by decide) (fun _ _ => ce_54) rfl dX6_skate_1 ?_
  refine V_iload_n hO 1 dX6_skate_4 rfl rfl ?_
  refine V_callV hO ml_X6_66 (C_X5_hasSquare α (t := 0) (by decide) p1 σ) (by decide) (fun _ _ => ce_town (t := 0) (by decide)) rfl rfl (rest := []) rfl rfl (Nat.le_of_ble_eq_true rfl) ⟨Nat.le_of_ble_eq_true rfl, Nat.le_of_ble_eq_true rfl⟩ dX6_skate_5 (kc_Z ?_)
  refine V_ifeqZ hO 22 dX6_skate_8 (by decide) ?_ ?_
  · refine V_bipush hO (-101) dX6_skate_22 (by decide) ?_
    exact V_iret hO hR rfl dX6_skate_24
  · refine V_aload_n hO 0 dX6_skate_11 rfl rfl ?_
    refine V_get hO (v := .ref (α (30))) fl_X6_10 (by decide) (fun _ _ => ce_54) rfl dX6_skate_12 ?_
    refine V_iload_n hO 2 dX6_skate_15 rfl rfl ?_
    refine V_callV hO ml_X6_66 (C_X5_hasSquare α (t := 0) (by decide) p2 σ) (by decide) (fun _ _ => ce_town (t := 0) (by decide)) rfl rfl (rest := []) rfl rfl (Nat.le_of_ble_eq_true rfl) ⟨Nat.le_of_ble_eq_true rfl, Nat.le_of_ble_eq_true rfl⟩ dX6_skate_16 (kc_Z ?_)
    refine V_ifneZ hO 25 dX6_skate_19 (by decide) ?_ ?_
    · refine V_iload_n hO 3 dX6_skate_25 rfl rfl ?_
      refine V_iconst hO 0 dX6_skate_26 (by decide) ?_
      refine V_iconst hO 1 dX6_skate_27 (by decide) ?_
      refine V_callS hO ml_X6_54 (C_X6_within α p3 (0 : Int32) (1 : Int32) σ) (rest := []) rfl rfl (Nat.le_of_ble_eq_true rfl) ⟨Nat.le_of_ble_eq_true rfl, Nat.le_of_ble_eq_true rfl⟩ dX6_skate_28 (kc_Z ?_)
      refine V_ifneZ hO 37 dX6_skate_31 (by decide) ?_ ?_
      · refine V_aload_n hO 0 dX6_skate_37 rfl rfl ?_
        refine V_get hO (v := .ref (α (41))) fl_X6_32 (by decide) (fun _ _ => ce_54) rfl dX6_skate_38 ?_
        refine V_aload_n hO 0 dX6_skate_41 rfl rfl ?_
        refine V_get hO (v := .ref (α (30))) fl_X6_10 (by decide) (fun _ _ => ce_54) rfl dX6_skate_42 ?_
        refine V_iload_n hO 1 dX6_skate_45 rfl rfl ?_
        refine V_callV hO ml_X6_219 (C_X4_roam α p1 σ) (by decide) (fun _ _ => ce_41) rfl rfl (rest := []) rfl rfl (Nat.le_of_ble_eq_true rfl) ⟨Nat.le_of_ble_eq_true rfl, Nat.le_of_ble_eq_true rfl⟩ dX6_skate_46 (kc_SV rfl fun q1 => ?_)
        refine V_aload_n hO 0 dX6_skate_49 rfl rfl ?_
        refine V_get hO (v := .ref (α (41))) fl_X6_32 (by decide) (fun _ _ => ce_54) rfl dX6_skate_50 ?_
        refine V_get hO (v := .ref (α (42))) fl_X6_223 (by decide) (fun _ _ => ce_41) rfl dX6_skate_53 ?_
        refine V_iload_n hO 2 dX6_skate_56 rfl rfl ?_
        refine V_chk rfl fun c2 => ?_
        refine V_iald hO (by decide) (fun _ _ => ce_42) (inb_in c2) dX6_skate_57 ?_
        refine V_if_ge hO 63 dX6_skate_58 (by decide) ?_ ?_
        · refine V_iload_n hO 3 dX6_skate_63 rfl rfl ?_
          refine V_if_ne hO 79 dX6_skate_64 (by decide) ?_ ?_
          · refine V_aload_n hO 0 dX6_skate_79 rfl rfl ?_
            refine V_get hO (v := .ref (α (41))) fl_X6_32 (by decide) (fun _ _ => ce_54) rfl dX6_skate_80 ?_
            refine V_get hO (v := .ref (α (43))) fl_X6_226 (by decide) (fun _ _ => ce_41) rfl dX6_skate_83 ?_
            refine V_iload_n hO 2 dX6_skate_86 rfl rfl ?_
            refine V_chk rfl fun c3 => ?_
            refine V_iald hO (by decide) (fun _ _ => ce_43) (inb_in c3) dX6_skate_87 ?_
            exact V_iret hO hR rfl dX6_skate_88
          · refine V_aload_n hO 0 dX6_skate_67 rfl rfl ?_
            refine V_get hO (v := .ref (α (41))) fl_X6_32 (by decide) (fun _ _ => ce_54) rfl dX6_skate_68 ?_
            refine V_get hO (v := .ref (α (42))) fl_X6_223 (by decide) (fun _ _ => ce_41) rfl dX6_skate_71 ?_
            refine V_iload_n hO 2 dX6_skate_74 rfl rfl ?_
            refine V_chk rfl fun c4 => ?_
            refine V_iald hO (by decide) (fun _ _ => ce_42) (inb_in c4) dX6_skate_75 ?_
            refine V_goto hO 88 dX6_skate_76 (by decide) ?_
            exact V_iret hO hR rfl dX6_skate_88
        · refine V_iconst hO (-1) dX6_skate_61 (by decide) ?_
          exact V_iret hO hR rfl dX6_skate_62
      · refine V_bipush hO (-102) dX6_skate_34 (by decide) ?_
        exact V_iret hO hR rfl dX6_skate_36
    · refine V_bipush hO (-101) dX6_skate_22 (by decide) ?_
      exact V_iret hO hR rfl dX6_skate_24
set_option maxHeartbeats 4000000 in
set_option maxRecDepth 100000 in
theorem C_X6_skate (α : Nat → Nat) (p1 : Int32) (p2 : Int32) (p3 : Int32) (σ : Hp) : Ct yX6_skate cX6_skate 4 (some .int) 5 111 α [.ref (α (54)), .int p1, .int p2, .int p3] σ (kSI (F_X6_skate p1 p2 p3 σ)) := ct_of_V (own := RX6) rfl (by decide +kernel) (Nat.le_of_ble_eq_true rfl) fun _ hO hR => T_X6_skate hO hR p1 p2 p3 σ
/-! X6_thawsOutlasted -/
noncomputable def F_X6_thawsOutlasted_44 (σ : Hp) : Nat → Int32 → Int32 → Nat → Int32 → Int32 → Int32 → Int32 → Option Int32
  | 0, _, _, _, _, _, _, _ => none
  | n + 1, w2, w3, w4, w5, w6, w7, w8 =>
    if w2 < w8 then
    some w7
    else
    if w6 ≤ 0 then
    some w7
    else
    lt (F_X6_iceBehind (1 : Int32) w3 w5 σ) fun v1 =>
    lt (F_X0_cutBehindThaw (σ.1 w4 0) w6 w3 v1 σ) fun v2 =>
    F_X6_thawsOutlasted_44 σ n w2 w3 w4 v1 v2 w8 (w8 + 1)
noncomputable def F_X6_thawsOutlasted  (p1 : Int32) (p2 : Int32) (p3 : Int32) (σ : Hp) : Option Int32 :=
  if inb p1 10 = true then
  if (σ.1 ((10 * 0 + (Int32.toNatClampNeg p1))) 6) = 0 then
  (F_X5_iceUnder 0 p1 σ).bind fun v4 =>
  lt (σ.1 ((10 * 0 + (Int32.toNatClampNeg p1))) 5) fun v5 =>
  F_X6_thawsOutlasted_44 σ fuel p2 p3 (10 * 0 + (Int32.toNatClampNeg p1)) v4 v5 ((-1) : Int32) (0 : Int32)
  else
  some p2
  else none
set_option maxHeartbeats 4000000 in
set_option maxRecDepth 100000 in
theorem T_X6_thawsOutlasted_44 {G : Gm} {α : Nat → Nat} (hO : Ok G α cX6_thawsOutlasted 9 RX6 2 45) (hR : Rt G α (some .int)) (σ : Hp) : ∀ (fuel : Nat) (w2 : Int32) (w3 : Int32) (w4 : Nat) (w5 : Int32) (w6 : Int32) (w7 : Int32) (w8 : Int32) (hw4 : w4 < 30), V G α 9 (kOI σ) 44 [(2, .int w2), (3, .int w3), (4, .ref (α (w4))), (5, .int w5), (6, .int w6), (7, .int w7), (8, .int w8)] [] σ (F_X6_thawsOutlasted_44 σ fuel w2 w3 w4 w5 w6 w7 w8) := by
  intro fuel
  induction fuel with
  | zero => intro w2 w3 w4 w5 w6 w7 w8 hw4; exact V_none rfl
  | succ n ih =>
    intro w2 w3 w4 w5 w6 w7 w8 hw4
    rw [F_X6_thawsOutlasted_44]
    refine V_iload hO 6 dX6_thawsOutlasted_44 rfl ?_
    refine V_iload_n hO 0 dX6_thawsOutlasted_46 rfl rfl ?_
    refine V_icmp_gt hO 89 dX6_thawsOutlasted_47 (by decide) ?_ ?_
    · refine V_iload hO 5 dX6_thawsOutlasted_89 rfl ?_
      exact V_iret hO hR rfl dX6_thawsOutlasted_91
    · refine V_iload hO 4 dX6_thawsOutlasted_50 rfl ?_
      refine V_if_le hO 89 dX6_thawsOutlasted_52 (by decide) ?_ ?_
      · refine V_iload hO 5 dX6_thawsOutlasted_89 rfl ?_
        exact V_iret hO hR rfl dX6_thawsOutlasted_91
      · refine V_iload hO 6 dX6_thawsOutlasted_55 rfl ?_
        refine V_istore hO (ls2 := [(7, .int w8), (2, .int w2), (3, .int w3), (4, .ref (α (w4))), (5, .int w5), (6, .int w6), (8, .int w8)]) dX6_thawsOutlasted_57 (by decide) rfl ?_
        refine V_iconst hO 1 dX6_thawsOutlasted_59 (by decide) ?_
        refine V_iload_n hO 2 dX6_thawsOutlasted_60 rfl rfl ?_
        refine V_iload hO 4 dX6_thawsOutlasted_61 rfl ?_
        refine V_callS hO ml_X6_249 (C_X6_iceBehind α (1 : Int32) w3 w5 σ) (rest := []) rfl rfl (Nat.le_of_ble_eq_true rfl) ⟨Nat.le_of_ble_eq_true rfl, Nat.le_of_ble_eq_true rfl⟩ dX6_thawsOutlasted_63 (kc_I ?_)
        refine V_istoreN hO (ls2 := fun v1 => [(5, .int v1), (7, .int w8), (2, .int w2), (3, .int w3), (4, .ref (α (w4))), (6, .int w6), (8, .int w8)]) dX6_thawsOutlasted_66 (by decide) (fun _ => rfl) (fun v1 => ?_)
        refine V_aload hO 4 dX6_thawsOutlasted_68 rfl ?_
        refine V_get hO (v := .int (σ.1 w4 0)) fl_X6_114 (Nat.lt_trans hw4 (by decide)) (fun _ _ => ce_debt hw4) rfl dX6_thawsOutlasted_70 ?_
        refine V_iload hO 5 dX6_thawsOutlasted_73 rfl ?_
        refine V_iload_n hO 3 dX6_thawsOutlasted_75 rfl rfl ?_
        refine V_iload hO 0 dX6_thawsOutlasted_76 rfl ?_
        refine V_callS hO ml_X6_252 (C_X0_cutBehindThaw α (σ.1 w4 0) w6 w3 v1 σ) (rest := []) rfl rfl (Nat.le_of_ble_eq_true rfl) ⟨Nat.le_of_ble_eq_true rfl, Nat.le_of_ble_eq_true rfl⟩ dX6_thawsOutlasted_78 (kc_I ?_)
        refine V_istoreN hO (ls2 := fun v2 => [(6, .int v2), (5, .int v1), (7, .int w8), (2, .int w2), (3, .int w3), (4, .ref (α (w4))), (8, .int w8)]) dX6_thawsOutlasted_81 (by decide) (fun _ => rfl) (fun v2 => ?_)
        refine V_iinc hO (ls2 := [(8, .int (w8 + 1)), (6, .int v2), (5, .int v1), (7, .int w8), (2, .int w2), (3, .int w3), (4, .ref (α (w4)))]) (z := 1) 6 dX6_thawsOutlasted_83 rfl (by decide) (by decide) rfl ?_
        refine V_goto hO 44 dX6_thawsOutlasted_86 (by decide) ?_
        exact V_sub [4, 5, 6, 2, 1, 3, 0] rfl (ih w2 w3 w4 v1 v2 w8 (w8 + 1) hw4)
set_option maxHeartbeats 4000000 in
set_option maxRecDepth 100000 in
theorem T_X6_thawsOutlasted {G : Gm} {α : Nat → Nat} (hO : Ok G α cX6_thawsOutlasted 9 RX6 2 45) (hR : Rt G α (some .int)) (p1 : Int32) (p2 : Int32) (p3 : Int32) (σ : Hp) : V G α 9 (kOI σ) 0 [(0, .ref (α (54))), (1, .int p1), (2, .int p2), (3, .int p3)] [] σ (F_X6_thawsOutlasted p1 p2 p3 σ) := by
  rw [F_X6_thawsOutlasted]
  refine V_aload_n hO 0 dX6_thawsOutlasted_0 rfl rfl ?_
  refine V_get hO (v := .ref (α (30))) fl_X6_10 (by decide) (fun _ _ => ce_54) rfl dX6_thawsOutlasted_1 ?_
  refine V_get hO (v := .ref (α (36))) fl_X6_100 (by decide) (fun _ _ => ce_town (t := 0) (by decide)) rfl dX6_thawsOutlasted_4 ?_
  refine V_iload_n hO 1 dX6_thawsOutlasted_7 rfl rfl ?_
  refine V_chk rfl fun c3 => ?_
  refine V_aald hO (by decide) (fun _ _ => ce_da (t := 0) (by decide)) (inb_in c3) dX6_thawsOutlasted_8 ?_
  refine V_astore hO (ls2 := [(4, .ref (α ((10 * 0 + (Int32.toNatClampNeg p1))))), (0, .ref (α (54))), (1, .int p1), (2, .int p2), (3, .int p3)]) dX6_thawsOutlasted_9 (by decide) rfl ?_
  refine V_aload hO 0 dX6_thawsOutlasted_11 rfl ?_
  refine V_get hO (v := .int (σ.1 ((10 * 0 + (Int32.toNatClampNeg p1))) 6)) fl_X6_139 (Nat.lt_trans (cd_lt (t := 0) (by decide) (inb_in c3)) (by decide)) (fun _ _ => ce_debt (cd_lt (t := 0) (by decide) (inb_in c3))) rfl dX6_thawsOutlasted_13 ?_
  refine V_if_eq hO 21 dX6_thawsOutlasted_16 (by decide) ?_ ?_
  · refine V_aload_n hO 1 dX6_thawsOutlasted_21 rfl rfl ?_
    refine V_get hO (v := .ref (α (30))) fl_X6_10 (by decide) (fun _ _ => ce_54) rfl dX6_thawsOutlasted_22 ?_
    refine V_iload_n hO 2 dX6_thawsOutlasted_25 rfl rfl ?_
    refine V_callV hO ml_X6_149 (C_X5_iceUnder α (t := 0) (by decide) p1 σ) (by decide) (fun _ _ => ce_town (t := 0) (by decide)) rfl rfl (rest := []) rfl rfl (Nat.le_of_ble_eq_true rfl) ⟨Nat.le_of_ble_eq_true rfl, Nat.le_of_ble_eq_true rfl⟩ dX6_thawsOutlasted_26 (kc_OI rfl fun v4 => ?_)
    refine V_istore hO (ls2 := [(5, .int v4), (4, .ref (α ((10 * 0 + (Int32.toNatClampNeg p1))))), (0, .ref (α (54))), (1, .int p1), (2, .int p2), (3, .int p3)]) dX6_thawsOutlasted_29 (by decide) rfl ?_
    refine V_aload hO 1 dX6_thawsOutlasted_31 rfl ?_
    refine V_get hO (v := .int (σ.1 ((10 * 0 + (Int32.toNatClampNeg p1))) 5)) fl_X6_129 (Nat.lt_trans (cd_lt (t := 0) (by decide) (inb_in c3)) (by decide)) (fun _ _ => ce_debt (cd_lt (t := 0) (by decide) (inb_in c3))) rfl dX6_thawsOutlasted_33 ?_
    refine V_istoreN hO (ls2 := fun v5 => [(6, .int v5), (5, .int v4), (4, .ref (α ((10 * 0 + (Int32.toNatClampNeg p1))))), (0, .ref (α (54))), (1, .int p1), (2, .int p2), (3, .int p3)]) dX6_thawsOutlasted_36 (by decide) (fun _ => rfl) (fun v5 => ?_)
    refine V_iconst hO (-1) dX6_thawsOutlasted_38 (by decide) ?_
    refine V_istore hO (ls2 := [(7, .int (-1)), (6, .int v5), (5, .int v4), (4, .ref (α ((10 * 0 + (Int32.toNatClampNeg p1))))), (0, .ref (α (54))), (1, .int p1), (2, .int p2), (3, .int p3)]) dX6_thawsOutlasted_39 (by decide) rfl ?_
    refine V_iconst hO 0 dX6_thawsOutlasted_41 (by decide) ?_
    refine V_istore hO (ls2 := [(8, .int 0), (7, .int (-1)), (6, .int v5), (5, .int v4), (4, .ref (α ((10 * 0 + (Int32.toNatClampNeg p1))))), (0, .ref (α (54))), (1, .int p1), (2, .int p2), (3, .int p3)]) dX6_thawsOutlasted_42 (by decide) rfl ?_
    exact V_sub [7, 8, 4, 3, 2, 1, 0] rfl (T_X6_thawsOutlasted_44 hO hR σ fuel p2 p3 (10 * 0 + (Int32.toNatClampNeg p1)) v4 v5 ((-1) : Int32) (0 : Int32) (cd_lt (t := 0) (by decide) (inb_in c3)))
  · refine V_iload_n hO 3 dX6_thawsOutlasted_19 rfl rfl ?_
    exact V_iret hO hR rfl dX6_thawsOutlasted_20
set_option maxHeartbeats 4000000 in
set_option maxRecDepth 100000 in
theorem C_X6_thawsOutlasted (α : Nat → Nat) (p1 : Int32) (p2 : Int32) (p3 : Int32) (σ : Hp) : Ct yX6_thawsOutlasted cX6_thawsOutlasted 9 (some .int) 2 45 α [.ref (α (54)), .int p1, .int p2, .int p3] σ (kOI σ (F_X6_thawsOutlasted p1 p2 p3 σ)) := ct_of_V (own := RX6) rfl (by decide +kernel) (Nat.le_of_ble_eq_true rfl) fun _ hO hR => T_X6_thawsOutlasted hO hR p1 p2 p3 σ
/-! X6_choose -/
noncomputable def F_X6_choose_5 (σ : Hp) : Nat → Int32 → Int32 → Int64 → Int32 → Option Int64
  | 0, _, _, _, _ => none
  | n + 1, w0, w1, w2, w4 =>
    if w1 < w4 then
    some w2
    else
    if ¬ (Int32.toInt64 w4) = 0 then
    lt ((w2 * (Int32.toInt64 ((w0 - w1) + w4))) / (Int32.toInt64 w4)) fun v1 =>
    F_X6_choose_5 σ n w0 w1 v1 (w4 + 1)
    else none
noncomputable def F_X6_choose  (p1 : Int32) (p2 : Int32) (σ : Hp) : Option Int64 :=
  F_X6_choose_5 σ fuel p1 p2 (1 : Int64) (1 : Int32)
set_option maxHeartbeats 4000000 in
set_option maxRecDepth 100000 in
theorem T_X6_choose_5 {G : Gm} {α : Nat → Nat} (hO : Ok G α cX6_choose 5 RX6 0 0) (hR : Rt G α (some .long)) (σ : Hp) : ∀ (fuel : Nat) (w0 : Int32) (w1 : Int32) (w2 : Int64) (w4 : Int32), V G α 5 (kOJ σ) 5 [(0, .int w0), (1, .int w1), (2, .long w2), (4, .int w4)] [] σ (F_X6_choose_5 σ fuel w0 w1 w2 w4) := by
  intro fuel
  induction fuel with
  | zero => intro w0 w1 w2 w4; exact V_none rfl
  | succ n ih =>
    intro w0 w1 w2 w4
    rw [F_X6_choose_5]
    refine V_iload hO 3 dX6_choose_5 rfl ?_
    refine V_iload_n hO 1 dX6_choose_7 rfl rfl ?_
    refine V_icmp_gt hO 31 dX6_choose_8 (by decide) ?_ ?_
    · refine V_lload_n hO 2 dX6_choose_31 rfl rfl ?_
      exact V_lret hO hR rfl dX6_choose_32
    · refine V_lload_n hO 2 dX6_choose_11 rfl rfl ?_
      refine V_iload_n hO 0 dX6_choose_12 rfl rfl ?_
      refine V_iload_n hO 1 dX6_choose_13 rfl rfl ?_
      refine V_isub hO dX6_choose_14 ?_
      refine V_iload hO 3 dX6_choose_15 rfl ?_
      refine V_iadd hO dX6_choose_17 ?_
      refine V_i2l hO dX6_choose_18 ?_
      refine V_lmul hO dX6_choose_19 ?_
      refine V_iload hO 3 dX6_choose_20 rfl ?_
      refine V_i2l hO dX6_choose_22 ?_
      refine V_chk rfl fun c2 => ?_
      refine V_ldiv hO dX6_choose_23 c2 ?_
      refine V_lstore_nN hO (ls2 := fun v1 => [(2, .long v1), (0, .int w0), (1, .int w1), (4, .int w4)]) dX6_choose_24 rfl (by decide) (fun _ => rfl) (fun v1 => ?_)
      refine V_iinc hO (ls2 := [(4, .int (w4 + 1)), (2, .long v1), (0, .int w0), (1, .int w1)]) (z := 1) 3 dX6_choose_25 rfl (by decide) (by decide) rfl ?_
      refine V_goto hO 5 dX6_choose_28 (by decide) ?_
      exact V_sub [2, 3, 1, 0] rfl (ih w0 w1 v1 (w4 + 1) )
set_option maxHeartbeats 4000000 in
set_option maxRecDepth 100000 in
theorem T_X6_choose {G : Gm} {α : Nat → Nat} (hO : Ok G α cX6_choose 5 RX6 0 0) (hR : Rt G α (some .long)) (p1 : Int32) (p2 : Int32) (σ : Hp) : V G α 5 (kOJ σ) 0 [(0, .int p1), (1, .int p2)] [] σ (F_X6_choose p1 p2 σ) := by
  rw [F_X6_choose]
  refine V_lconst hO 1 dX6_choose_0 (by decide) ?_
  refine V_lstore_n hO (ls2 := [(2, .long 1), (0, .int p1), (1, .int p2)]) dX6_choose_1 rfl (by decide) rfl ?_
  refine V_iconst hO 1 dX6_choose_2 (by decide) ?_
  refine V_istore hO (ls2 := [(4, .int 1), (2, .long 1), (0, .int p1), (1, .int p2)]) dX6_choose_3 (by decide) rfl ?_
  exact V_sub [2, 3, 1, 0] rfl (T_X6_choose_5 hO hR σ fuel p1 p2 (1 : Int64) (1 : Int32) )
set_option maxHeartbeats 4000000 in
set_option maxRecDepth 100000 in
theorem C_X6_choose (α : Nat → Nat) (p1 : Int32) (p2 : Int32) (σ : Hp) : Ct yX6_choose cX6_choose 5 (some .long) 0 0 α [.int p1, .int p2] σ (kOJ σ (F_X6_choose p1 p2 σ)) := ct_of_V (own := RX6) rfl (by decide +kernel) (Nat.le_of_ble_eq_true rfl) fun _ hO hR => T_X6_choose hO hR p1 p2 σ
/-! X6_power -/
noncomputable def F_X6_power_5 (σ : Hp) : Nat → Int32 → Int32 → Int64 → Int32 → Option Int64
  | 0, _, _, _, _ => none
  | n + 1, w0, w1, w2, w4 =>
    if w1 ≤ w4 then
    some w2
    else
    lt (w2 * (Int32.toInt64 w0)) fun v1 =>
    F_X6_power_5 σ n w0 w1 v1 (w4 + 1)
noncomputable def F_X6_power  (p1 : Int32) (p2 : Int32) (σ : Hp) : Option Int64 :=
  F_X6_power_5 σ fuel p1 p2 (1 : Int64) (0 : Int32)
set_option maxHeartbeats 4000000 in
set_option maxRecDepth 100000 in
theorem T_X6_power_5 {G : Gm} {α : Nat → Nat} (hO : Ok G α cX6_power 5 RX6 0 0) (hR : Rt G α (some .long)) (σ : Hp) : ∀ (fuel : Nat) (w0 : Int32) (w1 : Int32) (w2 : Int64) (w4 : Int32), V G α 5 (kOJ σ) 5 [(0, .int w0), (1, .int w1), (2, .long w2), (4, .int w4)] [] σ (F_X6_power_5 σ fuel w0 w1 w2 w4) := by
  intro fuel
  induction fuel with
  | zero => intro w0 w1 w2 w4; exact V_none rfl
  | succ n ih =>
    intro w0 w1 w2 w4
    rw [F_X6_power_5]
    refine V_iload hO 3 dX6_power_5 rfl ?_
    refine V_iload_n hO 1 dX6_power_7 rfl rfl ?_
    refine V_icmp_ge hO 22 dX6_power_8 (by decide) ?_ ?_
    · refine V_lload_n hO 2 dX6_power_22 rfl rfl ?_
      exact V_lret hO hR rfl dX6_power_23
    · refine V_lload_n hO 2 dX6_power_11 rfl rfl ?_
      refine V_iload_n hO 0 dX6_power_12 rfl rfl ?_
      refine V_i2l hO dX6_power_13 ?_
      refine V_lmul hO dX6_power_14 ?_
      refine V_lstore_nN hO (ls2 := fun v1 => [(2, .long v1), (0, .int w0), (1, .int w1), (4, .int w4)]) dX6_power_15 rfl (by decide) (fun _ => rfl) (fun v1 => ?_)
      refine V_iinc hO (ls2 := [(4, .int (w4 + 1)), (2, .long v1), (0, .int w0), (1, .int w1)]) (z := 1) 3 dX6_power_16 rfl (by decide) (by decide) rfl ?_
      refine V_goto hO 5 dX6_power_19 (by decide) ?_
      exact V_sub [2, 3, 1, 0] rfl (ih w0 w1 v1 (w4 + 1) )
set_option maxHeartbeats 4000000 in
set_option maxRecDepth 100000 in
theorem T_X6_power {G : Gm} {α : Nat → Nat} (hO : Ok G α cX6_power 5 RX6 0 0) (hR : Rt G α (some .long)) (p1 : Int32) (p2 : Int32) (σ : Hp) : V G α 5 (kOJ σ) 0 [(0, .int p1), (1, .int p2)] [] σ (F_X6_power p1 p2 σ) := by
  rw [F_X6_power]
  refine V_lconst hO 1 dX6_power_0 (by decide) ?_
  refine V_lstore_n hO (ls2 := [(2, .long 1), (0, .int p1), (1, .int p2)]) dX6_power_1 rfl (by decide) rfl ?_
  refine V_iconst hO 0 dX6_power_2 (by decide) ?_
  refine V_istore hO (ls2 := [(4, .int 0), (2, .long 1), (0, .int p1), (1, .int p2)]) dX6_power_3 (by decide) rfl ?_
  exact V_sub [2, 3, 1, 0] rfl (T_X6_power_5 hO hR σ fuel p1 p2 (1 : Int64) (0 : Int32) )
set_option maxHeartbeats 4000000 in
set_option maxRecDepth 100000 in
theorem C_X6_power (α : Nat → Nat) (p1 : Int32) (p2 : Int32) (σ : Hp) : Ct yX6_power cX6_power 5 (some .long) 0 0 α [.int p1, .int p2] σ (kOJ σ (F_X6_power p1 p2 σ)) := ct_of_V (own := RX6) rfl (by decide +kernel) (Nat.le_of_ble_eq_true rfl) fun _ hO hR => T_X6_power hO hR p1 p2 σ
/-! X6_commonDivisor -/
noncomputable def F_X6_commonDivisor_9 (σ : Hp) : Nat → Int64 → Int64 → Int32 → Option Int64
  | 0, _, _, _ => none
  | n + 1, w4, w6, w8 =>
    if (100 : Int32) ≤ w8 then
    some w4
    else
    if w6 = (0 : Int64) then
    some w4
    else
    if ¬ w6 = 0 then
    lt (jreml w4 w6) fun v1 =>
    F_X6_commonDivisor_9 σ n w6 v1 (w8 + 1)
    else none
noncomputable def F_X6_commonDivisor  (p1 : Int64) (p2 : Int64) (σ : Hp) : Option Int64 :=
  F_X6_commonDivisor_9 σ fuel p2 p1 (0 : Int32)
set_option maxHeartbeats 4000000 in
set_option maxRecDepth 100000 in
theorem T_X6_commonDivisor_9 {G : Gm} {α : Nat → Nat} (hO : Ok G α cX6_commonDivisor 11 RX6 0 0) (hR : Rt G α (some .long)) (σ : Hp) : ∀ (fuel : Nat) (w4 : Int64) (w6 : Int64) (w8 : Int32), V G α 11 (kOJ σ) 9 [(4, .long w4), (6, .long w6), (8, .int w8)] [] σ (F_X6_commonDivisor_9 σ fuel w4 w6 w8) := by
  intro fuel
  induction fuel with
  | zero => intro w4 w6 w8; exact V_none rfl
  | succ n ih =>
    intro w4 w6 w8
    rw [F_X6_commonDivisor_9]
    refine V_iload hO 2 dX6_commonDivisor_9 rfl ?_
    refine V_bipush hO 100 dX6_commonDivisor_11 (by decide) ?_
    refine V_icmp_ge hO 44 dX6_commonDivisor_13 (by decide) ?_ ?_
    · refine V_lload hO 0 dX6_commonDivisor_44 rfl ?_
      exact V_lret hO hR rfl dX6_commonDivisor_46
    · refine V_lload hO 1 dX6_commonDivisor_16 rfl ?_
      refine V_lconst hO 0 dX6_commonDivisor_18 (by decide) ?_
      refine V_lcmp_eq hO 44 dX6_commonDivisor_19 dX6_commonDivisor_20 (by decide) ?_ ?_
      · refine V_lload hO 0 dX6_commonDivisor_44 rfl ?_
        exact V_lret hO hR rfl dX6_commonDivisor_46
      · refine V_lload hO 0 dX6_commonDivisor_23 rfl ?_
        refine V_lload hO 1 dX6_commonDivisor_25 rfl ?_
        refine V_chk rfl fun c2 => ?_
        refine V_lrem hO dX6_commonDivisor_27 c2 ?_
        refine V_lstoreN hO (ls2 := fun v1 => [(9, .long v1), (4, .long w4), (6, .long w6), (8, .int w8)]) dX6_commonDivisor_28 (by decide) (fun _ => rfl) (fun v1 => ?_)
        refine V_lload hO 2 dX6_commonDivisor_30 rfl ?_
        refine V_lstore hO (ls2 := [(4, .long w6), (9, .long v1), (6, .long w6), (8, .int w8)]) dX6_commonDivisor_32 (by decide) rfl ?_
        refine V_lload hO 1 dX6_commonDivisor_34 rfl ?_
        refine V_lstore hO (ls2 := [(6, .long v1), (4, .long w6), (9, .long v1), (8, .int w8)]) dX6_commonDivisor_36 (by decide) rfl ?_
        refine V_iinc hO (ls2 := [(8, .int (w8 + 1)), (6, .long v1), (4, .long w6), (9, .long v1)]) (z := 1) 3 dX6_commonDivisor_38 rfl (by decide) (by decide) rfl ?_
        refine V_goto hO 9 dX6_commonDivisor_41 (by decide) ?_
        exact V_sub [2, 1, 0] rfl (ih w6 v1 (w8 + 1) )
set_option maxHeartbeats 4000000 in
set_option maxRecDepth 100000 in
theorem T_X6_commonDivisor {G : Gm} {α : Nat → Nat} (hO : Ok G α cX6_commonDivisor 11 RX6 0 0) (hR : Rt G α (some .long)) (p1 : Int64) (p2 : Int64) (σ : Hp) : V G α 11 (kOJ σ) 0 [(0, .long p1), (2, .long p2)] [] σ (F_X6_commonDivisor p1 p2 σ) := by
  rw [F_X6_commonDivisor]
  refine V_lload_n hO 1 dX6_commonDivisor_0 rfl rfl ?_
  refine V_lstore hO (ls2 := [(4, .long p2), (0, .long p1), (2, .long p2)]) dX6_commonDivisor_1 (by decide) rfl ?_
  refine V_lload_n hO 1 dX6_commonDivisor_3 rfl rfl ?_
  refine V_lstore hO (ls2 := [(6, .long p1), (4, .long p2), (0, .long p1), (2, .long p2)]) dX6_commonDivisor_4 (by decide) rfl ?_
  refine V_iconst hO 0 dX6_commonDivisor_6 (by decide) ?_
  refine V_istore hO (ls2 := [(8, .int 0), (6, .long p1), (4, .long p2), (0, .long p1), (2, .long p2)]) dX6_commonDivisor_7 (by decide) rfl ?_
  exact V_sub [2, 1, 0] rfl (T_X6_commonDivisor_9 hO hR σ fuel p2 p1 (0 : Int32) )
set_option maxHeartbeats 4000000 in
set_option maxRecDepth 100000 in
theorem C_X6_commonDivisor (α : Nat → Nat) (p1 : Int64) (p2 : Int64) (σ : Hp) : Ct yX6_commonDivisor cX6_commonDivisor 11 (some .long) 0 0 α [.long p1, .long p2] σ (kOJ σ (F_X6_commonDivisor p1 p2 σ)) := ct_of_V (own := RX6) rfl (by decide +kernel) (Nat.le_of_ble_eq_true rfl) fun _ hO hR => T_X6_commonDivisor hO hR p1 p2 σ
/-! X6_odds -/
noncomputable def F_X6_odds_56 (σ : Hp)  : Option Int64 :=
  some ((-102) : Int64)
noncomputable def F_X6_odds_159 (σ : Hp) (w11 : Int64) (s0 : Int64) : Option Int64 :=
  if ¬ w11 = 0 then
  some (s0 / w11)
  else none
noncomputable def F_X6_odds_76 (σ : Hp) : Nat → Int32 → Int32 → Int32 → Int64 → Int32 → Int32 → Option Int64
  | 0, _, _, _, _, _, _ => none
  | n + 1, w2, w3, w5, w6, w8, w9 =>
    if w8 < w9 then
    (F_X6_power (10 : Int32) w2 σ).bind fun v2 =>
    (F_X6_commonDivisor w6 v2 σ).bind fun v3 =>
    if (0 : Int64) < v3 then
    if w5 = 0 then
    F_X6_odds_159 σ v3 w6
    else
    F_X6_odds_159 σ v3 v2
    else
    some ((-1) : Int64)
    else
    (F_X6_choose w2 w9 σ).bind fun v4 =>
    (F_X6_power w3 w9 σ).bind fun v5 =>
    (F_X6_power ((10 : Int32) - w3) (w2 - w9) σ).bind fun v6 =>
    lt (w6 + ((v4 * v5) * v6)) fun v7 =>
    F_X6_odds_76 σ n w2 w3 w5 v7 w8 (w9 + 1)
noncomputable def F_X6_odds  (p1 : Int32) (p2 : Int32) (p3 : Int32) (p4 : Int32) (p5 : Int32) (σ : Hp) : Option Int64 :=
  if (F_X5_hasDebt 0 p1 σ) = true then
  if (F_X6_within p2 (1 : Int32) (9 : Int32) σ) = true then
  if (F_X6_within p3 (0 : Int32) (9 : Int32) σ) = true then
  if (F_X6_within p4 (1 : Int32) (9 : Int32) σ) = true then
  if (F_X6_within p5 (0 : Int32) (1 : Int32) σ) = true then
  (F_X6_thawsOutlasted p1 p2 p4 σ).bind fun v8 =>
  F_X6_odds_76 σ fuel p2 p3 p5 (0 : Int64) v8 (0 : Int32)
  else
  F_X6_odds_56 σ 
  else
  F_X6_odds_56 σ 
  else
  F_X6_odds_56 σ 
  else
  F_X6_odds_56 σ 
  else
  some ((-101) : Int64)
set_option maxHeartbeats 4000000 in
set_option maxRecDepth 100000 in
theorem T_X6_odds_56 {G : Gm} {α : Nat → Nat} (hO : Ok G α cX6_odds 13 RX6 3 73) (hR : Rt G α (some .long)) (σ : Hp) : V G α 13 (kOJ σ) 56 [] [] σ (F_X6_odds_56 σ ) := by
  rw [F_X6_odds_56]
  refine V_ldc2 hO (v := (-102)) dX6_odds_56 cn_X6_231 ?_
  exact V_lret hO hR rfl dX6_odds_59
set_option maxHeartbeats 4000000 in
set_option maxRecDepth 100000 in
theorem T_X6_odds_159 {G : Gm} {α : Nat → Nat} (hO : Ok G α cX6_odds 13 RX6 3 73) (hR : Rt G α (some .long)) (σ : Hp) : ∀ (w11 : Int64) (s0 : Int64), V G α 13 (kOJ σ) 159 [(11, .long w11)] [.long s0] σ (F_X6_odds_159 σ w11 s0) := by
  intro w11 s0
  rw [F_X6_odds_159]
  refine V_lload hO 0 dX6_odds_159 rfl ?_
  refine V_chk rfl fun c1 => ?_
  refine V_ldiv hO dX6_odds_161 c1 ?_
  exact V_lret hO hR rfl dX6_odds_162
set_option maxHeartbeats 4000000 in
set_option maxRecDepth 100000 in
theorem T_X6_odds_76 {G : Gm} {α : Nat → Nat} (hO : Ok G α cX6_odds 13 RX6 3 73) (hR : Rt G α (some .long)) (σ : Hp) : ∀ (fuel : Nat) (w2 : Int32) (w3 : Int32) (w5 : Int32) (w6 : Int64) (w8 : Int32) (w9 : Int32), V G α 13 (kOJ σ) 76 [(2, .int w2), (3, .int w3), (5, .int w5), (6, .long w6), (8, .int w8), (9, .int w9)] [] σ (F_X6_odds_76 σ fuel w2 w3 w5 w6 w8 w9) := by
  intro fuel
  induction fuel with
  | zero => intro w2 w3 w5 w6 w8 w9; exact V_none rfl
  | succ n ih =>
    intro w2 w3 w5 w6 w8 w9
    rw [F_X6_odds_76]
    refine V_iload hO 5 dX6_odds_76 rfl ?_
    refine V_iload hO 4 dX6_odds_78 rfl ?_
    refine V_icmp_gt hO 119 dX6_odds_80 (by decide) ?_ ?_
    · refine V_bipush hO 10 dX6_odds_119 (by decide) ?_
      refine V_iload_n hO 0 dX6_odds_121 rfl rfl ?_
      refine V_callS hO ml_X6_240 (C_X6_power α (10 : Int32) w2 σ) (rest := []) rfl rfl (Nat.le_of_ble_eq_true rfl) ⟨Nat.le_of_ble_eq_true rfl, Nat.le_of_ble_eq_true rfl⟩ dX6_odds_122 (kc_OJ rfl fun v2 => ?_)
      refine V_lstore hO (ls2 := [(9, .long v2), (2, .int w2), (3, .int w3), (5, .int w5), (6, .long w6), (8, .int w8)]) dX6_odds_125 (by decide) rfl ?_
      refine V_lload hO 4 dX6_odds_127 rfl ?_
      refine V_lload hO 0 dX6_odds_129 rfl ?_
      refine V_callS hO ml_X6_243 (C_X6_commonDivisor α w6 v2 σ) (rest := []) rfl rfl (Nat.le_of_ble_eq_true rfl) ⟨Nat.le_of_ble_eq_true rfl, Nat.le_of_ble_eq_true rfl⟩ dX6_odds_131 (kc_OJ rfl fun v3 => ?_)
      refine V_lstore hO (ls2 := [(11, .long v3), (9, .long v2), (2, .int w2), (3, .int w3), (5, .int w5), (6, .long w6), (8, .int w8)]) dX6_odds_134 (by decide) rfl ?_
      refine V_lload hO 0 dX6_odds_136 rfl ?_
      refine V_lconst hO 0 dX6_odds_138 (by decide) ?_
      refine V_lcmp_gt hO 147 dX6_odds_139 dX6_odds_140 (by decide) ?_ ?_
      · refine V_iload hO 4 dX6_odds_147 rfl ?_
        refine V_if_ne hO 157 dX6_odds_149 (by decide) ?_ ?_
        · refine V_lload hO 1 dX6_odds_157 rfl ?_
          exact V_sub [0] rfl (T_X6_odds_159 hO hR σ v3 v2 )
        · refine V_lload hO 5 dX6_odds_152 rfl ?_
          refine V_goto hO 159 dX6_odds_154 (by decide) ?_
          exact V_sub [0] rfl (T_X6_odds_159 hO hR σ v3 w6 )
      · refine V_ldc2 hO (v := (-1)) dX6_odds_143 cn_X6_247 ?_
        exact V_lret hO hR rfl dX6_odds_146
    · refine V_lload hO 3 dX6_odds_83 rfl ?_
      refine V_iload_n hO 0 dX6_odds_85 rfl rfl ?_
      refine V_iload hO 5 dX6_odds_86 rfl ?_
      refine V_callS hO ml_X6_237 (C_X6_choose α w2 w9 σ) (rest := [.long w6]) rfl rfl (Nat.le_of_ble_eq_true rfl) ⟨Nat.le_of_ble_eq_true rfl, Nat.le_of_ble_eq_true rfl⟩ dX6_odds_88 (kc_OJ rfl fun v4 => ?_)
      refine V_iload_n hO 1 dX6_odds_91 rfl rfl ?_
      refine V_iload hO 5 dX6_odds_92 rfl ?_
      refine V_callS hO ml_X6_240 (C_X6_power α w3 w9 σ) (rest := [.long v4, .long w6]) rfl rfl (Nat.le_of_ble_eq_true rfl) ⟨Nat.le_of_ble_eq_true rfl, Nat.le_of_ble_eq_true rfl⟩ dX6_odds_94 (kc_OJ rfl fun v5 => ?_)
      refine V_lmul hO dX6_odds_97 ?_
      refine V_bipush hO 10 dX6_odds_98 (by decide) ?_
      refine V_iload_n hO 1 dX6_odds_100 rfl rfl ?_
      refine V_isub hO dX6_odds_101 ?_
      refine V_iload_n hO 0 dX6_odds_102 rfl rfl ?_
      refine V_iload hO 5 dX6_odds_103 rfl ?_
      refine V_isub hO dX6_odds_105 ?_
      refine V_callS hO ml_X6_240 (C_X6_power α ((10 : Int32) - w3) (w2 - w9) σ) (rest := [.long (v4 * v5), .long w6]) rfl rfl (Nat.le_of_ble_eq_true rfl) ⟨Nat.le_of_ble_eq_true rfl, Nat.le_of_ble_eq_true rfl⟩ dX6_odds_106 (kc_OJ rfl fun v6 => ?_)
      refine V_lmul hO dX6_odds_109 ?_
      refine V_ladd hO dX6_odds_110 ?_
      refine V_lstoreN hO (ls2 := fun v7 => [(6, .long v7), (2, .int w2), (3, .int w3), (5, .int w5), (8, .int w8), (9, .int w9)]) dX6_odds_111 (by decide) (fun _ => rfl) (fun v7 => ?_)
      refine V_iinc hO (ls2 := [(9, .int (w9 + 1)), (6, .long v7), (2, .int w2), (3, .int w3), (5, .int w5), (8, .int w8)]) (z := 1) 5 dX6_odds_113 rfl (by decide) (by decide) rfl ?_
      refine V_goto hO 76 dX6_odds_116 (by decide) ?_
      exact V_sub [2, 3, 4, 1, 5, 0] rfl (ih w2 w3 w5 v7 w8 (w9 + 1) )
set_option maxHeartbeats 4000000 in
set_option maxRecDepth 100000 in
theorem T_X6_odds {G : Gm} {α : Nat → Nat} (hO : Ok G α cX6_odds 13 RX6 3 73) (hR : Rt G α (some .long)) (p1 : Int32) (p2 : Int32) (p3 : Int32) (p4 : Int32) (p5 : Int32) (σ : Hp) : V G α 13 (kOJ σ) 0 [(0, .ref (α (54))), (1, .int p1), (2, .int p2), (3, .int p3), (4, .int p4), (5, .int p5)] [] σ (F_X6_odds p1 p2 p3 p4 p5 σ) := by
  rw [F_X6_odds]
  refine V_aload_n hO 0 dX6_odds_0 rfl rfl ?_
  refine V_get hO (v := .ref (α (30))) fl_X6_10 (by decide) (fun _ _ => ce_54) rfl dX6_odds_1 ?_
  refine V_iload_n hO 1 dX6_odds_4 rfl rfl ?_
  refine V_callV hO ml_X6_111 (C_X5_hasDebt α (t := 0) (by decide) p1 σ) (by decide) (fun _ _ => ce_town (t := 0) (by decide)) rfl rfl (rest := []) rfl rfl (Nat.le_of_ble_eq_true rfl) ⟨Nat.le_of_ble_eq_true rfl, Nat.le_of_ble_eq_true rfl⟩ dX6_odds_5 (kc_Z ?_)
  refine V_ifneZ hO 15 dX6_odds_8 (by decide) ?_ ?_
  · refine V_iload_n hO 2 dX6_odds_15 rfl rfl ?_
    refine V_iconst hO 1 dX6_odds_16 (by decide) ?_
    refine V_bipush hO 9 dX6_odds_17 (by decide) ?_
    refine V_callS hO ml_X6_54 (C_X6_within α p2 (1 : Int32) (9 : Int32) σ) (rest := []) rfl rfl (Nat.le_of_ble_eq_true rfl) ⟨Nat.le_of_ble_eq_true rfl, Nat.le_of_ble_eq_true rfl⟩ dX6_odds_19 (kc_Z ?_)
    refine V_ifeqZ hO 56 dX6_odds_22 (by decide) ?_ ?_
    · exact V_sub [] rfl (T_X6_odds_56 hO hR σ )
    · refine V_iload_n hO 3 dX6_odds_25 rfl rfl ?_
      refine V_iconst hO 0 dX6_odds_26 (by decide) ?_
      refine V_bipush hO 9 dX6_odds_27 (by decide) ?_
      refine V_callS hO ml_X6_54 (C_X6_within α p3 (0 : Int32) (9 : Int32) σ) (rest := []) rfl rfl (Nat.le_of_ble_eq_true rfl) ⟨Nat.le_of_ble_eq_true rfl, Nat.le_of_ble_eq_true rfl⟩ dX6_odds_29 (kc_Z ?_)
      refine V_ifeqZ hO 56 dX6_odds_32 (by decide) ?_ ?_
      · exact V_sub [] rfl (T_X6_odds_56 hO hR σ )
      · refine V_iload hO 4 dX6_odds_35 rfl ?_
        refine V_iconst hO 1 dX6_odds_37 (by decide) ?_
        refine V_bipush hO 9 dX6_odds_38 (by decide) ?_
        refine V_callS hO ml_X6_54 (C_X6_within α p4 (1 : Int32) (9 : Int32) σ) (rest := []) rfl rfl (Nat.le_of_ble_eq_true rfl) ⟨Nat.le_of_ble_eq_true rfl, Nat.le_of_ble_eq_true rfl⟩ dX6_odds_40 (kc_Z ?_)
        refine V_ifeqZ hO 56 dX6_odds_43 (by decide) ?_ ?_
        · exact V_sub [] rfl (T_X6_odds_56 hO hR σ )
        · refine V_iload hO 5 dX6_odds_46 rfl ?_
          refine V_iconst hO 0 dX6_odds_48 (by decide) ?_
          refine V_iconst hO 1 dX6_odds_49 (by decide) ?_
          refine V_callS hO ml_X6_54 (C_X6_within α p5 (0 : Int32) (1 : Int32) σ) (rest := []) rfl rfl (Nat.le_of_ble_eq_true rfl) ⟨Nat.le_of_ble_eq_true rfl, Nat.le_of_ble_eq_true rfl⟩ dX6_odds_50 (kc_Z ?_)
          refine V_ifneZ hO 60 dX6_odds_53 (by decide) ?_ ?_
          · refine V_lconst hO 0 dX6_odds_60 (by decide) ?_
            refine V_lstore hO (ls2 := [(6, .long 0), (0, .ref (α (54))), (1, .int p1), (2, .int p2), (3, .int p3), (4, .int p4), (5, .int p5)]) dX6_odds_61 (by decide) rfl ?_
            refine V_aload_n hO 1 dX6_odds_63 rfl rfl ?_
            refine V_iload_n hO 2 dX6_odds_64 rfl rfl ?_
            refine V_iload_n hO 3 dX6_odds_65 rfl rfl ?_
            refine V_iload hO 5 dX6_odds_66 rfl ?_
            refine V_callV hO ml_X6_233 (C_X6_thawsOutlasted α p1 p2 p4 σ) (by decide) (fun _ _ => ce_54) rfl rfl (rest := []) rfl rfl (Nat.le_of_ble_eq_true rfl) ⟨Nat.le_of_ble_eq_true rfl, Nat.le_of_ble_eq_true rfl⟩ dX6_odds_68 (kc_OI rfl fun v8 => ?_)
            refine V_istore hO (ls2 := [(8, .int v8), (6, .long 0), (0, .ref (α (54))), (1, .int p1), (2, .int p2), (3, .int p3), (4, .int p4), (5, .int p5)]) dX6_odds_71 (by decide) rfl ?_
            refine V_iconst hO 0 dX6_odds_73 (by decide) ?_
            refine V_istore hO (ls2 := [(9, .int 0), (8, .int v8), (6, .long 0), (0, .ref (α (54))), (1, .int p1), (2, .int p2), (3, .int p3), (4, .int p4), (5, .int p5)]) dX6_odds_74 (by decide) rfl ?_
            exact V_sub [5, 6, 8, 2, 1, 0] rfl (T_X6_odds_76 hO hR σ fuel p2 p3 p5 (0 : Int64) v8 (0 : Int32) )
          · exact V_sub [] rfl (T_X6_odds_56 hO hR σ )
  · refine V_ldc2 hO (v := (-101)) dX6_odds_11 cn_X6_229 ?_
    exact V_lret hO hR rfl dX6_odds_14
set_option maxHeartbeats 4000000 in
set_option maxRecDepth 100000 in
theorem C_X6_odds (α : Nat → Nat) (p1 : Int32) (p2 : Int32) (p3 : Int32) (p4 : Int32) (p5 : Int32) (σ : Hp) : Ct yX6_odds cX6_odds 13 (some .long) 3 73 α [.ref (α (54)), .int p1, .int p2, .int p3, .int p4, .int p5] σ (kOJ σ (F_X6_odds p1 p2 p3 p4 p5 σ)) := ct_of_V (own := RX6) rfl (by decide +kernel) (Nat.le_of_ble_eq_true rfl) fun _ hO hR => T_X6_odds hO hR p1 p2 p3 p4 p5 σ
/-! X6_nextSeed -/
noncomputable def F_X6_nextSeed  (p1 : Int32) (σ : Hp) : Int32 :=
  (Int64.toInt32 ((((1103515245 : Int64) * (Int32.toInt64 p1)) + (12345 : Int64)) &&& (2147483647 : Int64)))
set_option maxHeartbeats 4000000 in
set_option maxRecDepth 100000 in
theorem T_X6_nextSeed {G : Gm} {α : Nat → Nat} (hO : Ok G α cX6_nextSeed 1 RX6 0 0) (hR : Rt G α (some .int)) (p1 : Int32) (σ : Hp) : V G α 1 (kI σ) 0 [(0, .int p1)] [] σ (F_X6_nextSeed p1 σ) := by
  rw [F_X6_nextSeed]
  refine V_ldc2 hO (v := 1103515245) dX6_nextSeed_0 cn_X6_272 ?_
  refine V_iload_n hO 0 dX6_nextSeed_3 rfl rfl ?_
  refine V_i2l hO dX6_nextSeed_4 ?_
  refine V_lmul hO dX6_nextSeed_5 ?_
  refine V_ldc2 hO (v := 12345) dX6_nextSeed_6 cn_X6_274 ?_
  refine V_ladd hO dX6_nextSeed_9 ?_
  refine V_ldc2 hO (v := 2147483647) dX6_nextSeed_10 cn_X6_276 ?_
  refine V_land hO dX6_nextSeed_13 ?_
  refine V_l2i hO dX6_nextSeed_14 ?_
  exact V_iret hO hR rfl dX6_nextSeed_15
set_option maxHeartbeats 4000000 in
set_option maxRecDepth 100000 in
theorem C_X6_nextSeed (α : Nat → Nat) (p1 : Int32) (σ : Hp) : Ct yX6_nextSeed cX6_nextSeed 1 (some .int) 0 0 α [.int p1] σ (kI σ (F_X6_nextSeed p1 σ)) := ct_of_V (own := RX6) rfl (by decide +kernel) (Nat.le_of_ble_eq_true rfl) fun _ hO hR => T_X6_nextSeed hO hR p1 σ
/-! X6_drawFrom -/
noncomputable def F_X6_drawFrom  (p1 : Int32) (p2 : Int32) (σ : Hp) : Option Int32 :=
  if p2 ≤ 0 then
  some (0 : Int32)
  else
  if ¬ p2 = 0 then
  some (jrem (p1 >>> ((16 : Int32) &&& 31)) p2)
  else none
set_option maxHeartbeats 4000000 in
set_option maxRecDepth 100000 in
theorem T_X6_drawFrom {G : Gm} {α : Nat → Nat} (hO : Ok G α cX6_drawFrom 2 RX6 0 0) (hR : Rt G α (some .int)) (p1 : Int32) (p2 : Int32) (σ : Hp) : V G α 2 (kOI σ) 0 [(0, .int p1), (1, .int p2)] [] σ (F_X6_drawFrom p1 p2 σ) := by
  rw [F_X6_drawFrom]
  refine V_iload_n hO 1 dX6_drawFrom_0 rfl rfl ?_
  refine V_if_le hO 13 dX6_drawFrom_1 (by decide) ?_ ?_
  · refine V_iconst hO 0 dX6_drawFrom_13 (by decide) ?_
    exact V_iret hO hR rfl dX6_drawFrom_14
  · refine V_iload_n hO 0 dX6_drawFrom_4 rfl rfl ?_
    refine V_bipush hO 16 dX6_drawFrom_5 (by decide) ?_
    refine V_ishr hO dX6_drawFrom_7 ?_
    refine V_iload_n hO 1 dX6_drawFrom_8 rfl rfl ?_
    refine V_chk rfl fun c1 => ?_
    refine V_irem hO dX6_drawFrom_9 c1 ?_
    refine V_goto hO 14 dX6_drawFrom_10 (by decide) ?_
    exact V_iret hO hR rfl dX6_drawFrom_14
set_option maxHeartbeats 4000000 in
set_option maxRecDepth 100000 in
theorem C_X6_drawFrom (α : Nat → Nat) (p1 : Int32) (p2 : Int32) (σ : Hp) : Ct yX6_drawFrom cX6_drawFrom 2 (some .int) 0 0 α [.int p1, .int p2] σ (kOI σ (F_X6_drawFrom p1 p2 σ)) := ct_of_V (own := RX6) rfl (by decide +kernel) (Nat.le_of_ble_eq_true rfl) fun _ hO hR => T_X6_drawFrom hO hR p1 p2 σ
/-! X6_winter -/
noncomputable def F_X6_winter_96 (k43 : Int32 → Int32 → Int32 → Int32 → Hp → (Option (Int32 × Hp))) (w1 : Int32) (w3 : Int32) (w4 : Int32) (w5 : Int32) (w6 : Int32) (w7 : Int32) (h : Hp) : Option (Int32 × Hp) :=
  (F_X5_passDay 2 w6 w7 h).bind fun q1 =>
  k43 w1 w3 w4 (w5 + 1) q1.2
noncomputable def F_X6_winter_78 (k43 : Int32 → Int32 → Int32 → Int32 → Hp → (Option (Int32 × Hp))) (w1 : Int32) (w3 : Int32) (w4 : Int32) (w5 : Int32) (w6 : Int32) (h : Hp) : Option (Int32 × Hp) :=
  lt (F_X6_nextSeed w4 h) fun v2 =>
  (F_X6_drawFrom v2 (9 : Int32) h).bind fun v3 =>
  lt (v3 + (1 : Int32)) fun v4 =>
  F_X6_winter_96 k43 w1 w3 v2 w5 w6 v4 h
noncomputable def F_X6_winter_43  : Nat → Int32 → Int32 → Int32 → Int32 → Hp → Option (Int32 × Hp)
  | 0, _, _, _, _, _ => none
  | n + 1, w1, w3, w4, w5, h =>
    if w1 ≤ w5 then
    if w3 = (2 : Int32) then
    some (w4, h)
    else
    if w3 = 0 then
    (F_X5_debtsStanding 2 h).bind fun v6 =>
    some (v6, h)
    else
    (F_X5_iceTogether 2 h).bind fun v5 =>
    some (v5, h)
    else
    lt (F_X6_nextSeed w4 h) fun v7 =>
    (F_X6_drawFrom v7 (4 : Int32) h).bind fun v8 =>
    if v8 = 0 then
    F_X6_winter_78 (F_X6_winter_43 n) w1 w3 v7 w5 v8 h
    else
    if v8 = (1 : Int32) then
    F_X6_winter_78 (F_X6_winter_43 n) w1 w3 v7 w5 v8 h
    else
    F_X6_winter_96 (F_X6_winter_43 n) w1 w3 v7 w5 v8 (0 : Int32) h
noncomputable def F_X6_winter  (p1 : Int32) (p2 : Int32) (p3 : Int32) (σ : Hp) : Option (Int32 × Hp) :=
  if (F_X6_within p1 (1 : Int32) (60 : Int32) σ) = true then
  if p2 < 0 then
  some (((-102) : Int32), σ)
  else
  if (F_X6_within p3 (0 : Int32) (2 : Int32) σ) = true then
  (F_X5_copyFrom 2 0 σ).bind fun q9 =>
  F_X6_winter_43 fuel p1 p3 p2 (0 : Int32) q9
  else
  some (((-102) : Int32), σ)
  else
  some (((-102) : Int32), σ)
set_option maxHeartbeats 4000000 in
set_option maxRecDepth 100000 in
theorem T_X6_winter_96 {G : Gm} {α : Nat → Nat} (hO : Ok G α cX6_winter 8 RX6 4 91) (hR : Rt G α (some .int)) (k43 : Int32 → Int32 → Int32 → Int32 → Hp → (Option (Int32 × Hp))) (hk43 : ∀ (w1 : Int32) (w3 : Int32) (w4 : Int32) (w5 : Int32) (h : Hp), V G α 8 (kSI) 43 [(0, .ref (α (54))), (1, .int w1), (3, .int w3), (4, .int w4), (5, .int w5)] [] h (k43 w1 w3 w4 w5 h)) : ∀ (w1 : Int32) (w3 : Int32) (w4 : Int32) (w5 : Int32) (w6 : Int32) (w7 : Int32) (h : Hp), V G α 8 (kSI) 96 [(0, .ref (α (54))), (1, .int w1), (3, .int w3), (4, .int w4), (5, .int w5), (6, .int w6), (7, .int w7)] [] h (F_X6_winter_96 k43 w1 w3 w4 w5 w6 w7 h) := by
  intro w1 w3 w4 w5 w6 w7 h
  rw [F_X6_winter_96]
  refine V_aload_n hO 0 dX6_winter_96 rfl rfl ?_
  refine V_get hO (v := .ref (α (32))) fl_X6_19 (by decide) (fun _ _ => ce_54) rfl dX6_winter_97 ?_
  refine V_iload hO 5 dX6_winter_100 rfl ?_
  refine V_iload hO 6 dX6_winter_102 rfl ?_
  refine V_callV hO ml_X6_183 (C_X5_passDay α (t := 2) (by decide) w6 w7 h) (by decide) (fun _ _ => ce_town (t := 2) (by decide)) rfl rfl (rest := []) rfl rfl (Nat.le_of_ble_eq_true rfl) ⟨Nat.le_of_ble_eq_true rfl, Nat.le_of_ble_eq_true rfl⟩ dX6_winter_104 (kc_SI rfl fun q1 => ?_)
  refine V_pop hO dX6_winter_107 rfl ?_
  refine V_iinc hO (ls2 := [(5, .int (w5 + 1)), (0, .ref (α (54))), (1, .int w1), (3, .int w3), (4, .int w4), (6, .int w6), (7, .int w7)]) (z := 1) 4 dX6_winter_108 rfl (by decide) (by decide) rfl ?_
  refine V_goto hO 43 dX6_winter_111 (by decide) ?_
  exact V_sub [1, 2, 3, 4, 0] rfl (hk43 w1 w3 w4 (w5 + 1) q1.2 )
set_option maxHeartbeats 4000000 in
set_option maxRecDepth 100000 in
theorem T_X6_winter_78 {G : Gm} {α : Nat → Nat} (hO : Ok G α cX6_winter 8 RX6 4 91) (hR : Rt G α (some .int)) (k43 : Int32 → Int32 → Int32 → Int32 → Hp → (Option (Int32 × Hp))) (hk43 : ∀ (w1 : Int32) (w3 : Int32) (w4 : Int32) (w5 : Int32) (h : Hp), V G α 8 (kSI) 43 [(0, .ref (α (54))), (1, .int w1), (3, .int w3), (4, .int w4), (5, .int w5)] [] h (k43 w1 w3 w4 w5 h)) : ∀ (w1 : Int32) (w3 : Int32) (w4 : Int32) (w5 : Int32) (w6 : Int32) (h : Hp), V G α 8 (kSI) 78 [(0, .ref (α (54))), (1, .int w1), (3, .int w3), (4, .int w4), (5, .int w5), (6, .int w6)] [] h (F_X6_winter_78 k43 w1 w3 w4 w5 w6 h) := by
  intro w1 w3 w4 w5 w6 h
  rw [F_X6_winter_78]
  refine V_iload hO 3 dX6_winter_78 rfl ?_
  refine V_callS hO ml_X6_260 (C_X6_nextSeed α w4 h) (rest := []) rfl rfl (Nat.le_of_ble_eq_true rfl) ⟨Nat.le_of_ble_eq_true rfl, Nat.le_of_ble_eq_true rfl⟩ dX6_winter_80 (kc_I ?_)
  refine V_istoreN hO (ls2 := fun v2 => [(4, .int v2), (0, .ref (α (54))), (1, .int w1), (3, .int w3), (5, .int w5), (6, .int w6)]) dX6_winter_83 (by decide) (fun _ => rfl) (fun v2 => ?_)
  refine V_iload hO 0 dX6_winter_85 rfl ?_
  refine V_bipush hO 9 dX6_winter_87 (by decide) ?_
  refine V_callS hO ml_X6_263 (C_X6_drawFrom α v2 (9 : Int32) h) (rest := []) rfl rfl (Nat.le_of_ble_eq_true rfl) ⟨Nat.le_of_ble_eq_true rfl, Nat.le_of_ble_eq_true rfl⟩ dX6_winter_89 (kc_OI rfl fun v3 => ?_)
  refine V_iconst hO 1 dX6_winter_92 (by decide) ?_
  refine V_iadd hO dX6_winter_93 ?_
  refine V_istoreN hO (ls2 := fun v4 => [(7, .int v4), (4, .int v2), (0, .ref (α (54))), (1, .int w1), (3, .int w3), (5, .int w5), (6, .int w6)]) dX6_winter_94 (by decide) (fun _ => rfl) (fun v4 => ?_)
  exact V_sub [2, 3, 4, 1, 5, 6, 0] rfl (T_X6_winter_96 hO hR k43 hk43 w1 w3 v2 w5 w6 v4 h )
set_option maxHeartbeats 4000000 in
set_option maxRecDepth 100000 in
theorem T_X6_winter_43 {G : Gm} {α : Nat → Nat} (hO : Ok G α cX6_winter 8 RX6 4 91) (hR : Rt G α (some .int)) : ∀ (fuel : Nat) (w1 : Int32) (w3 : Int32) (w4 : Int32) (w5 : Int32) (h : Hp), V G α 8 (kSI) 43 [(0, .ref (α (54))), (1, .int w1), (3, .int w3), (4, .int w4), (5, .int w5)] [] h (F_X6_winter_43 fuel w1 w3 w4 w5 h) := by
  intro fuel
  induction fuel with
  | zero => intro w1 w3 w4 w5 h; exact V_none rfl
  | succ n ih =>
    intro w1 w3 w4 w5 h
    rw [F_X6_winter_43]
    refine V_iload hO 4 dX6_winter_43 rfl ?_
    refine V_iload_n hO 1 dX6_winter_45 rfl rfl ?_
    refine V_icmp_ge hO 114 dX6_winter_46 (by decide) ?_ ?_
    · refine V_iload_n hO 2 dX6_winter_114 rfl rfl ?_
      refine V_iconst hO 2 dX6_winter_115 (by decide) ?_
      refine V_icmp_ne hO 122 dX6_winter_116 (by decide) ?_ ?_
      · refine V_iload_n hO 2 dX6_winter_122 rfl rfl ?_
        refine V_if_ne hO 136 dX6_winter_123 (by decide) ?_ ?_
        · refine V_aload_n hO 0 dX6_winter_136 rfl rfl ?_
          refine V_get hO (v := .ref (α (32))) fl_X6_19 (by decide) (fun _ _ => ce_54) rfl dX6_winter_137 ?_
          refine V_callV hO ml_X6_269 (C_X5_iceTogether α (t := 2) (by decide) h) (by decide) (fun _ _ => ce_town (t := 2) (by decide)) rfl rfl (rest := []) rfl rfl (Nat.le_of_ble_eq_true rfl) ⟨Nat.le_of_ble_eq_true rfl, Nat.le_of_ble_eq_true rfl⟩ dX6_winter_140 (kc_OI rfl fun v5 => ?_)
          exact V_iret hO hR rfl dX6_winter_143
        · refine V_aload_n hO 0 dX6_winter_126 rfl rfl ?_
          refine V_get hO (v := .ref (α (32))) fl_X6_19 (by decide) (fun _ _ => ce_54) rfl dX6_winter_127 ?_
          refine V_callV hO ml_X6_266 (C_X5_debtsStanding α (t := 2) (by decide) h) (by decide) (fun _ _ => ce_town (t := 2) (by decide)) rfl rfl (rest := []) rfl rfl (Nat.le_of_ble_eq_true rfl) ⟨Nat.le_of_ble_eq_true rfl, Nat.le_of_ble_eq_true rfl⟩ dX6_winter_130 (kc_OI rfl fun v6 => ?_)
          refine V_goto hO 143 dX6_winter_133 (by decide) ?_
          exact V_iret hO hR rfl dX6_winter_143
      · refine V_iload hO 3 dX6_winter_119 rfl ?_
        exact V_iret hO hR rfl dX6_winter_121
    · refine V_iload hO 3 dX6_winter_49 rfl ?_
      refine V_callS hO ml_X6_260 (C_X6_nextSeed α w4 h) (rest := []) rfl rfl (Nat.le_of_ble_eq_true rfl) ⟨Nat.le_of_ble_eq_true rfl, Nat.le_of_ble_eq_true rfl⟩ dX6_winter_51 (kc_I ?_)
      refine V_istoreN hO (ls2 := fun v7 => [(4, .int v7), (0, .ref (α (54))), (1, .int w1), (3, .int w3), (5, .int w5)]) dX6_winter_54 (by decide) (fun _ => rfl) (fun v7 => ?_)
      refine V_iload hO 0 dX6_winter_56 rfl ?_
      refine V_iconst hO 4 dX6_winter_58 (by decide) ?_
      refine V_callS hO ml_X6_263 (C_X6_drawFrom α v7 (4 : Int32) h) (rest := []) rfl rfl (Nat.le_of_ble_eq_true rfl) ⟨Nat.le_of_ble_eq_true rfl, Nat.le_of_ble_eq_true rfl⟩ dX6_winter_59 (kc_OI rfl fun v8 => ?_)
      refine V_istore hO (ls2 := [(6, .int v8), (4, .int v7), (0, .ref (α (54))), (1, .int w1), (3, .int w3), (5, .int w5)]) dX6_winter_62 (by decide) rfl ?_
      refine V_iconst hO 0 dX6_winter_64 (by decide) ?_
      refine V_istore hO (ls2 := [(7, .int 0), (6, .int v8), (4, .int v7), (0, .ref (α (54))), (1, .int w1), (3, .int w3), (5, .int w5)]) dX6_winter_65 (by decide) rfl ?_
      refine V_iload hO 1 dX6_winter_67 rfl ?_
      refine V_if_eq hO 78 dX6_winter_69 (by decide) ?_ ?_
      · exact V_sub [3, 4, 5, 2, 6, 1] rfl (T_X6_winter_78 hO hR (F_X6_winter_43 n) ih w1 w3 v7 w5 v8 h )
      · refine V_iload hO 1 dX6_winter_72 rfl ?_
        refine V_iconst hO 1 dX6_winter_74 (by decide) ?_
        refine V_icmp_ne hO 96 dX6_winter_75 (by decide) ?_ ?_
        · exact V_sub [3, 4, 5, 2, 6, 1, 0] rfl (T_X6_winter_96 hO hR (F_X6_winter_43 n) ih w1 w3 v7 w5 v8 (0 : Int32) h )
        · exact V_sub [3, 4, 5, 2, 6, 1] rfl (T_X6_winter_78 hO hR (F_X6_winter_43 n) ih w1 w3 v7 w5 v8 h )
set_option maxHeartbeats 4000000 in
set_option maxRecDepth 100000 in
theorem T_X6_winter {G : Gm} {α : Nat → Nat} (hO : Ok G α cX6_winter 8 RX6 4 91) (hR : Rt G α (some .int)) (p1 : Int32) (p2 : Int32) (p3 : Int32) (σ : Hp) : V G α 8 (kSI) 0 [(0, .ref (α (54))), (1, .int p1), (2, .int p2), (3, .int p3)] [] σ (F_X6_winter p1 p2 p3 σ) := by
  rw [F_X6_winter]
  refine V_iload_n hO 1 dX6_winter_0 rfl rfl ?_
  refine V_iconst hO 1 dX6_winter_1 (by decide) ?_
  refine V_bipush hO 60 dX6_winter_2 (by decide) ?_
  refine V_callS hO ml_X6_54 (C_X6_within α p1 (1 : Int32) (60 : Int32) σ) (rest := []) rfl rfl (Nat.le_of_ble_eq_true rfl) ⟨Nat.le_of_ble_eq_true rfl, Nat.le_of_ble_eq_true rfl⟩ dX6_winter_4 (kc_Z ?_)
  refine V_ifeqZ hO 23 dX6_winter_7 (by decide) ?_ ?_
  · refine V_bipush hO (-102) dX6_winter_23 (by decide) ?_
    exact V_iret hO hR rfl dX6_winter_25
  · refine V_iload_n hO 2 dX6_winter_10 rfl rfl ?_
    refine V_if_lt hO 23 dX6_winter_11 (by decide) ?_ ?_
    · refine V_bipush hO (-102) dX6_winter_23 (by decide) ?_
      exact V_iret hO hR rfl dX6_winter_25
    · refine V_iload_n hO 3 dX6_winter_14 rfl rfl ?_
      refine V_iconst hO 0 dX6_winter_15 (by decide) ?_
      refine V_iconst hO 2 dX6_winter_16 (by decide) ?_
      refine V_callS hO ml_X6_54 (C_X6_within α p3 (0 : Int32) (2 : Int32) σ) (rest := []) rfl rfl (Nat.le_of_ble_eq_true rfl) ⟨Nat.le_of_ble_eq_true rfl, Nat.le_of_ble_eq_true rfl⟩ dX6_winter_17 (kc_Z ?_)
      refine V_ifneZ hO 26 dX6_winter_20 (by decide) ?_ ?_
      · refine V_aload_n hO 0 dX6_winter_26 rfl rfl ?_
        refine V_get hO (v := .ref (α (32))) fl_X6_19 (by decide) (fun _ _ => ce_54) rfl dX6_winter_27 ?_
        refine V_aload_n hO 0 dX6_winter_30 rfl rfl ?_
        refine V_get hO (v := .ref (α (30))) fl_X6_10 (by decide) (fun _ _ => ce_54) rfl dX6_winter_31 ?_
        refine V_callV hO ml_X6_256 (C_X5_copyFrom α (t := 2) (u := 0) (by decide) (by decide) σ) (by decide) (fun _ _ => ce_town (t := 2) (by decide)) rfl rfl (rest := []) rfl rfl (Nat.le_of_ble_eq_true rfl) ⟨Nat.le_of_ble_eq_true rfl, Nat.le_of_ble_eq_true rfl⟩ dX6_winter_34 (kc_SV rfl fun q9 => ?_)
        refine V_iload_n hO 2 dX6_winter_37 rfl rfl ?_
        refine V_istore hO (ls2 := [(4, .int p2), (0, .ref (α (54))), (1, .int p1), (2, .int p2), (3, .int p3)]) dX6_winter_38 (by decide) rfl ?_
        refine V_iconst hO 0 dX6_winter_40 (by decide) ?_
        refine V_istore hO (ls2 := [(5, .int 0), (4, .int p2), (0, .ref (α (54))), (1, .int p1), (2, .int p2), (3, .int p3)]) dX6_winter_41 (by decide) rfl ?_
        exact V_sub [2, 3, 5, 1, 0] rfl (T_X6_winter_43 hO hR fuel p1 p3 p2 (0 : Int32) q9 )
      · refine V_bipush hO (-102) dX6_winter_23 (by decide) ?_
        exact V_iret hO hR rfl dX6_winter_25
set_option maxHeartbeats 4000000 in
set_option maxRecDepth 100000 in
theorem C_X6_winter (α : Nat → Nat) (p1 : Int32) (p2 : Int32) (p3 : Int32) (σ : Hp) : Ct yX6_winter cX6_winter 8 (some .int) 4 91 α [.ref (α (54)), .int p1, .int p2, .int p3] σ (kSI (F_X6_winter p1 p2 p3 σ)) := ct_of_V (own := RX6) rfl (by decide +kernel) (Nat.le_of_ble_eq_true rfl) fun _ hO hR => T_X6_winter hO hR p1 p2 p3 σ
