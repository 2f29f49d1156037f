/-! X7_lookOf -/
noncomputable def F_X7_lookOf  (p1 : Int32) (σ : Hp) : Option Int32 :=
  if inb (((8 : Int32) * p1) + (6 : Int32)) 80 = true then
  lt (σ.1 58 (Int32.toNatClampNeg (((8 : Int32) * p1) + (6 : Int32)))) fun v2 =>
  if v2 = 0 then
  some (0 : Int32)
  else
  if v2 = (2 : Int32) then
  some (3 : Int32)
  else
  if inb (((8 : Int32) * p1) + (1 : Int32)) 80 = true then
  if inb (σ.1 58 (Int32.toNatClampNeg (((8 : Int32) * p1) + (1 : Int32)))) 16 = true then
  if (σ.1 57 (Int32.toNatClampNeg (σ.1 58 (Int32.toNatClampNeg (((8 : Int32) * p1) + (1 : Int32)))))) = 0 then
  some (2 : Int32)
  else
  some (1 : Int32)
  else none
  else none
  else none
set_option maxHeartbeats 4000000 in
set_option maxRecDepth 100000 in
theorem T_X7_lookOf {G : Gm} {α : Nat → Nat} (hO : Ok G α cX7_lookOf 3 RX7 0 0) (hR : Rt G α (some .int)) (p1 : Int32) (σ : Hp) : V G α 3 (kOI σ) 0 [(0, .ref (α (55))), (1, .int p1)] [] σ (F_X7_lookOf p1 σ) := by
  rw [F_X7_lookOf]
  refine V_aload_n hO 0 dX7_lookOf_0 rfl rfl ?_
  refine V_get hO (v := .ref (α (58))) fl_X7_16 (by decide) (fun _ _ => ce_55) rfl dX7_lookOf_1 ?_
  refine V_bipush hO 8 dX7_lookOf_4 (by decide) ?_
  refine V_iload_n hO 1 dX7_lookOf_6 rfl rfl ?_
  refine V_imul hO dX7_lookOf_7 ?_
  refine V_bipush hO 6 dX7_lookOf_8 (by decide) ?_
  refine V_iadd hO dX7_lookOf_10 ?_
  refine V_chk rfl fun c1 => ?_
  refine V_iald hO (by decide) (fun _ _ => ce_58) (inb_in c1) dX7_lookOf_11 ?_
  refine V_istore_nN hO (ls2 := fun v2 => [(2, .int v2), (0, .ref (α (55))), (1, .int p1)]) dX7_lookOf_12 rfl (by decide) (fun _ => rfl) (fun v2 => ?_)
  refine V_iload_n hO 0 dX7_lookOf_13 rfl rfl ?_
  refine V_if_ne hO 21 dX7_lookOf_14 (by decide) ?_ ?_
  · refine V_iload_n hO 0 dX7_lookOf_21 rfl rfl ?_
    refine V_iconst hO 2 dX7_lookOf_22 (by decide) ?_
    refine V_icmp_ne hO 30 dX7_lookOf_23 (by decide) ?_ ?_
    · refine V_aload_n hO 1 dX7_lookOf_30 rfl rfl ?_
      refine V_get hO (v := .ref (α (57))) fl_X7_13 (by decide) (fun _ _ => ce_55) rfl dX7_lookOf_31 ?_
      refine V_aload_n hO 1 dX7_lookOf_34 rfl rfl ?_
      refine V_get hO (v := .ref (α (58))) fl_X7_16 (by decide) (fun _ _ => ce_55) rfl dX7_lookOf_35 ?_
      refine V_bipush hO 8 dX7_lookOf_38 (by decide) ?_
      refine V_iload_n hO 2 dX7_lookOf_40 rfl rfl ?_
      refine V_imul hO dX7_lookOf_41 ?_
      refine V_iconst hO 1 dX7_lookOf_42 (by decide) ?_
      refine V_iadd hO dX7_lookOf_43 ?_
      refine V_chk rfl fun c3 => ?_
      refine V_iald hO (by decide) (fun _ _ => ce_58) (inb_in c3) dX7_lookOf_44 ?_
      refine V_chk rfl fun c4 => ?_
      refine V_iald hO (by decide) (fun _ _ => ce_57) (inb_in c4) dX7_lookOf_45 ?_
      refine V_if_ne hO 53 dX7_lookOf_46 (by decide) ?_ ?_
      · refine V_iconst hO 1 dX7_lookOf_53 (by decide) ?_
        exact V_iret hO hR rfl dX7_lookOf_54
      · refine V_iconst hO 2 dX7_lookOf_49 (by decide) ?_
        refine V_goto hO 54 dX7_lookOf_50 (by decide) ?_
        exact V_iret hO hR rfl dX7_lookOf_54
    · refine V_iconst hO 3 dX7_lookOf_26 (by decide) ?_
      refine V_goto hO 54 dX7_lookOf_27 (by decide) ?_
      exact V_iret hO hR rfl dX7_lookOf_54
  · refine V_iconst hO 0 dX7_lookOf_17 (by decide) ?_
    refine V_goto hO 54 dX7_lookOf_18 (by decide) ?_
    exact V_iret hO hR rfl dX7_lookOf_54
set_option maxHeartbeats 4000000 in
set_option maxRecDepth 100000 in
theorem C_X7_lookOf (α : Nat → Nat) (p1 : Int32) (σ : Hp) : Ct yX7_lookOf cX7_lookOf 3 (some .int) 0 0 α [.ref (α (55)), .int p1] σ (kOI σ (F_X7_lookOf p1 σ)) := ct_of_V (own := RX7) rfl (by decide +kernel) (Nat.le_of_ble_eq_true rfl) fun _ hO hR => T_X7_lookOf hO hR p1 σ
/-! X7_tellDebt -/
noncomputable def F_X7_tellDebt  (p1 : Int32) (p2 : Int32) (σ : Hp) : Option Int32 :=
  if p2 = (6 : Int32) then
  (F_X7_worthOf p1 σ).bind fun v3 =>
  some v3
  else
  if p2 = (7 : Int32) then
  (F_X7_lookOf p1 σ).bind fun v2 =>
  some v2
  else
  if (F_X7_in (Int32.toInt64 p2) (0 : Int64) (5 : Int64) σ) = true then
  if inb (((8 : Int32) * p1) + p2) 80 = true then
  some (σ.1 58 (Int32.toNatClampNeg (((8 : Int32) * p1) + p2)))
  else none
  else
  some ((-102) : Int32)
set_option maxHeartbeats 4000000 in
set_option maxRecDepth 100000 in
theorem T_X7_tellDebt {G : Gm} {α : Nat → Nat} (hO : Ok G α cX7_tellDebt 3 RX7 1 25) (hR : Rt G α (some .int)) (p1 : Int32) (p2 : Int32) (σ : Hp) : V G α 3 (kOI σ) 0 [(0, .ref (α (55))), (1, .int p1), (2, .int p2)] [] σ (F_X7_tellDebt p1 p2 σ) := by
  rw [F_X7_tellDebt]
  refine V_iload_n hO 2 dX7_tellDebt_0 rfl rfl ?_
  refine V_bipush hO 6 dX7_tellDebt_1 (by decide) ?_
  refine V_icmp_ne hO 14 dX7_tellDebt_3 (by decide) ?_ ?_
  · refine V_iload_n hO 2 dX7_tellDebt_14 rfl rfl ?_
    refine V_bipush hO 7 dX7_tellDebt_15 (by decide) ?_
    refine V_icmp_ne hO 28 dX7_tellDebt_17 (by decide) ?_ ?_
    · refine V_iload_n hO 2 dX7_tellDebt_28 rfl rfl ?_
      refine V_i2l hO dX7_tellDebt_29 ?_
      refine V_lconst hO 0 dX7_tellDebt_30 (by decide) ?_
      refine V_ldc2 hO (v := 5) dX7_tellDebt_31 cn_X7_82 ?_
      refine V_callS hO ml_X7_75 (C_X7_in α (Int32.toInt64 p2) (0 : Int64) (5 : Int64) σ) (rest := []) rfl rfl (Nat.le_of_ble_eq_true rfl) ⟨Nat.le_of_ble_eq_true rfl, Nat.le_of_ble_eq_true rfl⟩ dX7_tellDebt_34 (kc_Z ?_)
      refine V_ifeqZ hO 54 dX7_tellDebt_37 (by decide) ?_ ?_
      · refine V_bipush hO (-102) dX7_tellDebt_54 (by decide) ?_
        exact V_iret hO hR rfl dX7_tellDebt_56
      · refine V_aload_n hO 0 dX7_tellDebt_40 rfl rfl ?_
        refine V_get hO (v := .ref (α (58))) fl_X7_16 (by decide) (fun _ _ => ce_55) rfl dX7_tellDebt_41 ?_
        refine V_bipush hO 8 dX7_tellDebt_44 (by decide) ?_
        refine V_iload_n hO 1 dX7_tellDebt_46 rfl rfl ?_
        refine V_imul hO dX7_tellDebt_47 ?_
        refine V_iload_n hO 2 dX7_tellDebt_48 rfl rfl ?_
        refine V_iadd hO dX7_tellDebt_49 ?_
        refine V_chk rfl fun c1 => ?_
        refine V_iald hO (by decide) (fun _ _ => ce_58) (inb_in c1) dX7_tellDebt_50 ?_
        refine V_goto hO 56 dX7_tellDebt_51 (by decide) ?_
        exact V_iret hO hR rfl dX7_tellDebt_56
    · refine V_aload_n hO 0 dX7_tellDebt_20 rfl rfl ?_
      refine V_iload_n hO 1 dX7_tellDebt_21 rfl rfl ?_
      refine V_callV hO ml_X7_126 (C_X7_lookOf α p1 σ) (by decide) (fun _ _ => ce_55) rfl rfl (rest := []) rfl rfl (Nat.le_of_ble_eq_true rfl) ⟨Nat.le_of_ble_eq_true rfl, Nat.le_of_ble_eq_true rfl⟩ dX7_tellDebt_22 (kc_OI rfl fun v2 => ?_)
      refine V_goto hO 56 dX7_tellDebt_25 (by decide) ?_
      exact V_iret hO hR rfl dX7_tellDebt_56
  · refine V_aload_n hO 0 dX7_tellDebt_6 rfl rfl ?_
    refine V_iload_n hO 1 dX7_tellDebt_7 rfl rfl ?_
    refine V_callV hO ml_X7_123 (C_X7_worthOf α p1 σ) (by decide) (fun _ _ => ce_55) rfl rfl (rest := []) rfl rfl (Nat.le_of_ble_eq_true rfl) ⟨Nat.le_of_ble_eq_true rfl, Nat.le_of_ble_eq_true rfl⟩ dX7_tellDebt_8 (kc_OI rfl fun v3 => ?_)
    refine V_goto hO 56 dX7_tellDebt_11 (by decide) ?_
    exact V_iret hO hR rfl dX7_tellDebt_56
set_option maxHeartbeats 4000000 in
set_option maxRecDepth 100000 in
theorem C_X7_tellDebt (α : Nat → Nat) (p1 : Int32) (p2 : Int32) (σ : Hp) : Ct yX7_tellDebt cX7_tellDebt 3 (some .int) 1 25 α [.ref (α (55)), .int p1, .int p2] σ (kOI σ (F_X7_tellDebt p1 p2 σ)) := ct_of_V (own := RX7) rfl (by decide +kernel) (Nat.le_of_ble_eq_true rfl) fun _ hO hR => T_X7_tellDebt hO hR p1 p2 σ
/-! X7_about -/
noncomputable def F_X7_about  (p1 : Int32) (p2 : Int32) (σ : Hp) : Option Int32 :=
  if (F_X7_isDebt p1 σ) = true then
  (F_X7_tellDebt p1 p2 σ).bind fun v1 =>
  some v1
  else
  some ((-101) : Int32)
set_option maxHeartbeats 4000000 in
set_option maxRecDepth 100000 in
theorem T_X7_about {G : Gm} {α : Nat → Nat} (hO : Ok G α cX7_about 3 RX7 2 47) (hR : Rt G α (some .int)) (p1 : Int32) (p2 : Int32) (σ : Hp) : V G α 3 (kOI σ) 0 [(0, .ref (α (55))), (1, .int p1), (2, .int p2)] [] σ (F_X7_about p1 p2 σ) := by
  rw [F_X7_about]
  refine V_aload_n hO 0 dX7_about_0 rfl rfl ?_
  refine V_iload_n hO 1 dX7_about_1 rfl rfl ?_
  refine V_callV hO ml_X7_129 (C_X7_isDebt α p1 σ) (by decide) (fun _ _ => ce_55) rfl rfl (rest := []) rfl rfl (Nat.le_of_ble_eq_true rfl) ⟨Nat.le_of_ble_eq_true rfl, Nat.le_of_ble_eq_true rfl⟩ dX7_about_2 (kc_Z ?_)
  refine V_ifeqZ hO 17 dX7_about_5 (by decide) ?_ ?_
  · refine V_bipush hO (-101) dX7_about_17 (by decide) ?_
    exact V_iret hO hR rfl dX7_about_19
  · refine V_aload_n hO 0 dX7_about_8 rfl rfl ?_
    refine V_iload_n hO 1 dX7_about_9 rfl rfl ?_
    refine V_iload_n hO 2 dX7_about_10 rfl rfl ?_
    refine V_callV hO ml_X7_132 (C_X7_tellDebt α p1 p2 σ) (by decide) (fun _ _ => ce_55) rfl rfl (rest := []) rfl rfl (Nat.le_of_ble_eq_true rfl) ⟨Nat.le_of_ble_eq_true rfl, Nat.le_of_ble_eq_true rfl⟩ dX7_about_11 (kc_OI rfl fun v1 => ?_)
    refine V_goto hO 19 dX7_about_14 (by decide) ?_
    exact V_iret hO hR rfl dX7_about_19
set_option maxHeartbeats 4000000 in
set_option maxRecDepth 100000 in
theorem C_X7_about (α : Nat → Nat) (p1 : Int32) (p2 : Int32) (σ : Hp) : Ct yX7_about cX7_about 3 (some .int) 2 47 α [.ref (α (55)), .int p1, .int p2] σ (kOI σ (F_X7_about p1 p2 σ)) := ct_of_V (own := RX7) rfl (by decide +kernel) (Nat.le_of_ble_eq_true rfl) fun _ hO hR => T_X7_about hO hR p1 p2 σ
/-! X7_as -/
noncomputable def F_X7_as_60 (σ : Hp) (w1 : Int32) (s0 : Bool) : Option Int32 :=
  if s0 = true then
  some w1
  else
  some ((-1) : Int32)
noncomputable def F_X7_as  (p1 : Int32) (p2 : Int32) (σ : Hp) : Option Int32 :=
  if (F_X7_isDebt p1 σ) = true then
  if (F_X7_in (Int32.toInt64 p2) (0 : Int64) (4 : Int64) σ) = true then
  if inb ((8 : Int32) * p1) 80 = true then
  lt (σ.1 58 (Int32.toNatClampNeg ((8 : Int32) * p1))) fun v2 =>
  if p2 = 0 then
  F_X7_as_60 σ p1 true
  else
  if p2 = v2 then
  F_X7_as_60 σ p1 true
  else
  if p2 = (2 : Int32) then
  if v2 = (4 : Int32) then
  F_X7_as_60 σ p1 true
  else
  F_X7_as_60 σ p1 false
  else
  F_X7_as_60 σ p1 false
  else none
  else
  some ((-102) : Int32)
  else
  some ((-101) : Int32)
set_option maxHeartbeats 4000000 in
set_option maxRecDepth 100000 in
theorem T_X7_as_60 {G : Gm} {α : Nat → Nat} (hO : Ok G α cX7_as 5 RX7 2 46) (hR : Rt G α (some .int)) (σ : Hp) : ∀ (w1 : Int32) (s0 : Bool), V G α 5 (kOI σ) 60 [(1, .int w1)] [.int (b2i s0)] σ (F_X7_as_60 σ w1 s0) := by
  intro w1 s0
  rw [F_X7_as_60]
  refine V_istore hO (ls2 := [(4, .int (b2i s0)), (1, .int w1)]) dX7_as_60 (by decide) rfl ?_
  refine V_iload hO 0 dX7_as_62 rfl ?_
  refine V_ifeqZ hO 71 dX7_as_64 (by decide) ?_ ?_
  · refine V_iconst hO (-1) dX7_as_71 (by decide) ?_
    exact V_iret hO hR rfl dX7_as_72
  · refine V_iload_n hO 1 dX7_as_67 rfl rfl ?_
    refine V_goto hO 72 dX7_as_68 (by decide) ?_
    exact V_iret hO hR rfl dX7_as_72
set_option maxHeartbeats 4000000 in
set_option maxRecDepth 100000 in
theorem T_X7_as {G : Gm} {α : Nat → Nat} (hO : Ok G α cX7_as 5 RX7 2 46) (hR : Rt G α (some .int)) (p1 : Int32) (p2 : Int32) (σ : Hp) : V G α 5 (kOI σ) 0 [(0, .ref (α (55))), (1, .int p1), (2, .int p2)] [] σ (F_X7_as p1 p2 σ) := by
  rw [F_X7_as]
  refine V_aload_n hO 0 dX7_as_0 rfl rfl ?_
  refine V_iload_n hO 1 dX7_as_1 rfl rfl ?_
  refine V_callV hO ml_X7_129 (C_X7_isDebt α p1 σ) (by decide) (fun _ _ => ce_55) rfl rfl (rest := []) rfl rfl (Nat.le_of_ble_eq_true rfl) ⟨Nat.le_of_ble_eq_true rfl, Nat.le_of_ble_eq_true rfl⟩ dX7_as_2 (kc_Z ?_)
  refine V_ifneZ hO 11 dX7_as_5 (by decide) ?_ ?_
  · refine V_iload_n hO 2 dX7_as_11 rfl rfl ?_
    refine V_i2l hO dX7_as_12 ?_
    refine V_lconst hO 0 dX7_as_13 (by decide) ?_
    refine V_ldc2 hO (v := 4) dX7_as_14 cn_X7_86 ?_
    refine V_callS hO ml_X7_75 (C_X7_in α (Int32.toInt64 p2) (0 : Int64) (4 : Int64) σ) (rest := []) rfl rfl (Nat.le_of_ble_eq_true rfl) ⟨Nat.le_of_ble_eq_true rfl, Nat.le_of_ble_eq_true rfl⟩ dX7_as_17 (kc_Z ?_)
    refine V_ifneZ hO 26 dX7_as_20 (by decide) ?_ ?_
    · refine V_aload_n hO 0 dX7_as_26 rfl rfl ?_
      refine V_get hO (v := .ref (α (58))) fl_X7_16 (by decide) (fun _ _ => ce_55) rfl dX7_as_27 ?_
      refine V_bipush hO 8 dX7_as_30 (by decide) ?_
      refine V_iload_n hO 1 dX7_as_32 rfl rfl ?_
      refine V_imul hO dX7_as_33 ?_
      refine V_chk rfl fun c1 => ?_
      refine V_iald hO (by decide) (fun _ _ => ce_58) (inb_in c1) dX7_as_34 ?_
      refine V_istore_nN hO (ls2 := fun v2 => [(3, .int v2), (0, .ref (α (55))), (1, .int p1), (2, .int p2)]) dX7_as_35 rfl (by decide) (fun _ => rfl) (fun v2 => ?_)
      refine V_iload_n hO 3 dX7_as_36 rfl rfl ?_
      refine V_if_eq hO 55 dX7_as_37 (by decide) ?_ ?_
      · refine V_iconst hO 1 dX7_as_55 (by decide) ?_
        refine V_goto hO 60 dX7_as_56 (by decide) ?_
        exact V_sub [2] rfl (T_X7_as_60 hO hR σ p1 true )
      · refine V_iload_n hO 3 dX7_as_40 rfl rfl ?_
        refine V_iload_n hO 0 dX7_as_41 rfl rfl ?_
        refine V_icmp_eq hO 55 dX7_as_42 (by decide) ?_ ?_
        · refine V_iconst hO 1 dX7_as_55 (by decide) ?_
          refine V_goto hO 60 dX7_as_56 (by decide) ?_
          exact V_sub [2] rfl (T_X7_as_60 hO hR σ p1 true )
        · refine V_iload_n hO 3 dX7_as_45 rfl rfl ?_
          refine V_iconst hO 2 dX7_as_46 (by decide) ?_
          refine V_icmp_ne hO 59 dX7_as_47 (by decide) ?_ ?_
          · refine V_iconst hO 0 dX7_as_59 (by decide) ?_
            exact V_sub [2] rfl (T_X7_as_60 hO hR σ p1 false )
          · refine V_iload_n hO 0 dX7_as_50 rfl rfl ?_
            refine V_iconst hO 4 dX7_as_51 (by decide) ?_
            refine V_icmp_ne hO 59 dX7_as_52 (by decide) ?_ ?_
            · refine V_iconst hO 0 dX7_as_59 (by decide) ?_
              exact V_sub [2] rfl (T_X7_as_60 hO hR σ p1 false )
            · refine V_iconst hO 1 dX7_as_55 (by decide) ?_
              refine V_goto hO 60 dX7_as_56 (by decide) ?_
              exact V_sub [2] rfl (T_X7_as_60 hO hR σ p1 true )
    · refine V_bipush hO (-102) dX7_as_23 (by decide) ?_
      exact V_iret hO hR rfl dX7_as_25
  · refine V_bipush hO (-101) dX7_as_8 (by decide) ?_
    exact V_iret hO hR rfl dX7_as_10
set_option maxHeartbeats 4000000 in
set_option maxRecDepth 100000 in
theorem C_X7_as (α : Nat → Nat) (p1 : Int32) (p2 : Int32) (σ : Hp) : Ct yX7_as cX7_as 5 (some .int) 2 46 α [.ref (α (55)), .int p1, .int p2] σ (kOI σ (F_X7_as p1 p2 σ)) := ct_of_V (own := RX7) rfl (by decide +kernel) (Nat.le_of_ble_eq_true rfl) fun _ hO hR => T_X7_as hO hR p1 p2 σ
/-! X7_saw -/
noncomputable def F_X7_saw  (p1 : Int32) (σ : Hp) : Option (Int32 × Hp) :=
  if (F_X7_isDebt p1 σ) = true then
  (F_X7_isThere p1 σ).bind fun v1 =>
  if v1 = true then
  (F_X7_worthOf p1 σ).bind fun v2 =>
  if inb (((8 : Int32) * p1) + (7 : Int32)) 80 = true then
  lt (up σ 58 (Int32.toNatClampNeg (((8 : Int32) * p1) + (7 : Int32))) v2) fun h4 =>
  if inb (((8 : Int32) * p1) + (6 : Int32)) 80 = true then
  lt (up h4 58 (Int32.toNatClampNeg (((8 : Int32) * p1) + (6 : Int32))) (2 : Int32)) fun h6 =>
  if inb (((8 : Int32) * p1) + (1 : Int32)) 80 = true then
  if inb (h6.1 58 (Int32.toNatClampNeg (((8 : Int32) * p1) + (1 : Int32)))) 16 = true then
  some ((h6.1 56 (Int32.toNatClampNeg (h6.1 58 (Int32.toNatClampNeg (((8 : Int32) * p1) + (1 : Int32)))))), h6)
  else none
  else none
  else none
  else none
  else
  some (((-103) : Int32), σ)
  else
  some (((-101) : Int32), σ)
set_option maxHeartbeats 4000000 in
set_option maxRecDepth 100000 in
theorem T_X7_saw {G : Gm} {α : Nat → Nat} (hO : Ok G α cX7_saw 2 RX7 2 46) (hR : Rt G α (some .int)) (p1 : Int32) (σ : Hp) : V G α 2 (kSI) 0 [(0, .ref (α (55))), (1, .int p1)] [] σ (F_X7_saw p1 σ) := by
  rw [F_X7_saw]
  refine V_aload_n hO 0 dX7_saw_0 rfl rfl ?_
  refine V_iload_n hO 1 dX7_saw_1 rfl rfl ?_
  refine V_callV hO ml_X7_129 (C_X7_isDebt α p1 σ) (by decide) (fun _ _ => ce_55) rfl rfl (rest := []) rfl rfl (Nat.le_of_ble_eq_true rfl) ⟨Nat.le_of_ble_eq_true rfl, Nat.le_of_ble_eq_true rfl⟩ dX7_saw_2 (kc_Z ?_)
  refine V_ifneZ hO 11 dX7_saw_5 (by decide) ?_ ?_
  · refine V_aload_n hO 0 dX7_saw_11 rfl rfl ?_
    refine V_iload_n hO 1 dX7_saw_12 rfl rfl ?_
    refine V_callV hO ml_X7_94 (C_X7_isThere α p1 σ) (by decide) (fun _ _ => ce_55) rfl rfl (rest := []) rfl rfl (Nat.le_of_ble_eq_true rfl) ⟨Nat.le_of_ble_eq_true rfl, Nat.le_of_ble_eq_true rfl⟩ dX7_saw_13 (kc_OZ rfl fun v1 => ?_)
    refine V_ifneZ hO 22 dX7_saw_16 (by decide) ?_ ?_
    · refine V_aload_n hO 0 dX7_saw_22 rfl rfl ?_
      refine V_get hO (v := .ref (α (58))) fl_X7_16 (by decide) (fun _ _ => ce_55) rfl dX7_saw_23 ?_
      refine V_bipush hO 8 dX7_saw_26 (by decide) ?_
      refine V_iload_n hO 1 dX7_saw_28 rfl rfl ?_
      refine V_imul hO dX7_saw_29 ?_
      refine V_bipush hO 7 dX7_saw_30 (by decide) ?_
      refine V_iadd hO dX7_saw_32 ?_
      refine V_aload_n hO 0 dX7_saw_33 rfl rfl ?_
      refine V_iload_n hO 1 dX7_saw_34 rfl rfl ?_
      refine V_callV hO ml_X7_123 (C_X7_worthOf α p1 σ) (by decide) (fun _ _ => ce_55) rfl rfl (rest := [.int (((8 : Int32) * p1) + (7 : Int32)), .ref (α (58))]) rfl rfl (Nat.le_of_ble_eq_true rfl) ⟨Nat.le_of_ble_eq_true rfl, Nat.le_of_ble_eq_true rfl⟩ dX7_saw_35 (kc_OI rfl fun v2 => ?_)
      refine V_chk rfl fun c3 => ?_
      refine V_iast hO (by decide) (fun _ _ _ => ce_58) (inb_in c3) dX7_saw_38 (V_name fun h4 => ?_)
      refine V_aload_n hO 0 dX7_saw_39 rfl rfl ?_
      refine V_get hO (v := .ref (α (58))) fl_X7_16 (by decide) (fun _ _ => ce_55) rfl dX7_saw_40 ?_
      refine V_bipush hO 8 dX7_saw_43 (by decide) ?_
      refine V_iload_n hO 1 dX7_saw_45 rfl rfl ?_
      refine V_imul hO dX7_saw_46 ?_
      refine V_bipush hO 6 dX7_saw_47 (by decide) ?_
      refine V_iadd hO dX7_saw_49 ?_
      refine V_iconst hO 2 dX7_saw_50 (by decide) ?_
      refine V_chk rfl fun c5 => ?_
      refine V_iast hO (by decide) (fun _ _ _ => ce_58) (inb_in c5) dX7_saw_51 (V_name fun h6 => ?_)
      refine V_aload_n hO 0 dX7_saw_52 rfl rfl ?_
      refine V_get hO (v := .ref (α (56))) fl_X7_7 (by decide) (fun _ _ => ce_55) rfl dX7_saw_53 ?_
      refine V_aload_n hO 0 dX7_saw_56 rfl rfl ?_
      refine V_get hO (v := .ref (α (58))) fl_X7_16 (by decide) (fun _ _ => ce_55) rfl dX7_saw_57 ?_
      refine V_bipush hO 8 dX7_saw_60 (by decide) ?_
      refine V_iload_n hO 1 dX7_saw_62 rfl rfl ?_
      refine V_imul hO dX7_saw_63 ?_
      refine V_iconst hO 1 dX7_saw_64 (by decide) ?_
      refine V_iadd hO dX7_saw_65 ?_
      refine V_chk rfl fun c7 => ?_
      refine V_iald hO (by decide) (fun _ _ => ce_58) (inb_in c7) dX7_saw_66 ?_
      refine V_chk rfl fun c8 => ?_
      refine V_iald hO (by decide) (fun _ _ => ce_56) (inb_in c8) dX7_saw_67 ?_
      exact V_iret hO hR rfl dX7_saw_68
    · refine V_bipush hO (-103) dX7_saw_19 (by decide) ?_
      exact V_iret hO hR rfl dX7_saw_21
  · refine V_bipush hO (-101) dX7_saw_8 (by decide) ?_
    exact V_iret hO hR rfl dX7_saw_10
set_option maxHeartbeats 4000000 in
set_option maxRecDepth 100000 in
theorem C_X7_saw (α : Nat → Nat) (p1 : Int32) (σ : Hp) : Ct yX7_saw cX7_saw 2 (some .int) 2 46 α [.ref (α (55)), .int p1] σ (kSI (F_X7_saw p1 σ)) := ct_of_V (own := RX7) rfl (by decide +kernel) (Nat.le_of_ble_eq_true rfl) fun _ hO hR => T_X7_saw hO hR p1 σ
/-! X7_letters -/
noncomputable def F_X7_letters_75 (k11 : Int64 → Int32 → Bool → Int64 → Int32 → Hp → (Option (Int32 × Hp))) (w1 : Int64) (w4 : Bool) (w5 : Int64) (w7 : Int32) (s0 : Bool) (s1 : Int32) (h : Hp) : Option (Int32 × Hp) :=
  lt (s1 + (b2i s0)) fun v1 =>
  k11 w1 v1 w4 w5 (w7 + 1) h
noncomputable def F_X7_letters_62 (k11 : Int64 → Int32 → Bool → Int64 → Int32 → Hp → (Option (Int32 × Hp))) (w1 : Int64) (w3 : Int32) (w5 : Int64) (w7 : Int32) (w8 : Int32) (s0 : Bool) (h : Hp) : Option (Int32 × Hp) :=
  if w8 ≤ 0 then
  F_X7_letters_75 k11 w1 s0 w5 w7 false w3 h
  else
  F_X7_letters_75 k11 w1 s0 w5 w7 true w3 h
noncomputable def F_X7_letters_108  : Nat → Int64 → Int32 → Int32 → Hp → Option (Int32 × Hp)
  | 0, _, _, _, _ => none
  | n + 1, w1, w3, w7, h =>
    if w3 ≤ w7 then
    some ((h.1 55 9), h)
    else
    if inb (h.1 55 9) 24 = true then
    lt (up h 59 (Int32.toNatClampNeg (h.1 55 9)) (Int64.toInt32 ((jlushr w1 ((8 : Int32) * w7)) &&& (255 : Int64)))) fun h3 =>
    lt (up h3 55 9 ((h3.1 55 9) + (1 : Int32))) fun h4 =>
    F_X7_letters_108 n w1 w3 (w7 + 1) h4
    else none
noncomputable def F_X7_letters_11  : Nat → Int64 → Int32 → Bool → Int64 → Int32 → Hp → Option (Int32 × Hp)
  | 0, _, _, _, _, _, _ => none
  | n + 1, w1, w3, w4, w5, w7, h =>
    if (8 : Int32) ≤ w7 then
    if w4 = true then
    if ((h.1 55 9) + w3) ≤ (24 : Int32) then
    F_X7_letters_108 fuel w1 w3 (0 : Int32) h
    else
    some (((-104) : Int32), h)
    else
    some (((-102) : Int32), h)
    else
    lt (Int64.toInt32 (w5 &&& (255 : Int64))) fun v5 =>
    lt (jlushr w5 (8 : Int32)) fun v6 =>
    if w4 = true then
    if (126 : Int32) < v5 then
    F_X7_letters_62 (F_X7_letters_11 n) w1 w3 v6 w7 v5 false h
    else
    if v5 = 0 then
    F_X7_letters_62 (F_X7_letters_11 n) w1 w3 v6 w7 v5 true h
    else
    if w3 = w7 then
    F_X7_letters_62 (F_X7_letters_11 n) w1 w3 v6 w7 v5 true h
    else
    F_X7_letters_62 (F_X7_letters_11 n) w1 w3 v6 w7 v5 false h
    else
    F_X7_letters_62 (F_X7_letters_11 n) w1 w3 v6 w7 v5 false h
noncomputable def F_X7_letters  (p1 : Int64) (σ : Hp) : Option (Int32 × Hp) :=
  F_X7_letters_11 fuel p1 (0 : Int32) true p1 (0 : Int32) σ
set_option maxHeartbeats 4000000 in
set_option maxRecDepth 100000 in
theorem T_X7_letters_75 {G : Gm} {α : Nat → Nat} (hO : Ok G α cX7_letters 9 RX7 0 0) (hR : Rt G α (some .int)) (k11 : Int64 → Int32 → Bool → Int64 → Int32 → Hp → (Option (Int32 × Hp))) (hk11 : ∀ (w1 : Int64) (w3 : Int32) (w4 : Bool) (w5 : Int64) (w7 : Int32) (h : Hp), V G α 9 (kSI) 11 [(0, .ref (α (55))), (1, .long w1), (3, .int w3), (4, .int (b2i w4)), (5, .long w5), (7, .int w7)] [] h (k11 w1 w3 w4 w5 w7 h)) : ∀ (w1 : Int64) (w4 : Bool) (w5 : Int64) (w7 : Int32) (s0 : Bool) (s1 : Int32) (h : Hp), V G α 9 (kSI) 75 [(0, .ref (α (55))), (1, .long w1), (4, .int (b2i w4)), (5, .long w5), (7, .int w7)] [.int (b2i s0), .int s1] h (F_X7_letters_75 k11 w1 w4 w5 w7 s0 s1 h) := by
  intro w1 w4 w5 w7 s0 s1 h
  rw [F_X7_letters_75]
  refine V_iadd hO dX7_letters_75 ?_
  refine V_istore_nN hO (ls2 := fun v1 => [(3, .int v1), (0, .ref (α (55))), (1, .long w1), (4, .int (b2i w4)), (5, .long w5), (7, .int w7)]) dX7_letters_76 rfl (by decide) (fun _ => rfl) (fun v1 => ?_)
  refine V_iinc hO (ls2 := [(7, .int (w7 + 1)), (3, .int v1), (0, .ref (α (55))), (1, .long w1), (4, .int (b2i w4)), (5, .long w5)]) (z := 1) 5 dX7_letters_77 rfl (by decide) (by decide) rfl ?_
  refine V_goto hO 11 dX7_letters_80 (by decide) ?_
  exact V_sub [2, 3, 1, 4, 5, 0] rfl (hk11 w1 v1 w4 w5 (w7 + 1) h )
set_option maxHeartbeats 4000000 in
set_option maxRecDepth 100000 in
theorem T_X7_letters_62 {G : Gm} {α : Nat → Nat} (hO : Ok G α cX7_letters 9 RX7 0 0) (hR : Rt G α (some .int)) (k11 : Int64 → Int32 → Bool → Int64 → Int32 → Hp → (Option (Int32 × Hp))) (hk11 : ∀ (w1 : Int64) (w3 : Int32) (w4 : Bool) (w5 : Int64) (w7 : Int32) (h : Hp), V G α 9 (kSI) 11 [(0, .ref (α (55))), (1, .long w1), (3, .int w3), (4, .int (b2i w4)), (5, .long w5), (7, .int w7)] [] h (k11 w1 w3 w4 w5 w7 h)) : ∀ (w1 : Int64) (w3 : Int32) (w5 : Int64) (w7 : Int32) (w8 : Int32) (s0 : Bool) (h : Hp), V G α 9 (kSI) 62 [(0, .ref (α (55))), (1, .long w1), (3, .int w3), (5, .long w5), (7, .int w7), (8, .int w8)] [.int (b2i s0)] h (F_X7_letters_62 k11 w1 w3 w5 w7 w8 s0 h) := by
  intro w1 w3 w5 w7 w8 s0 h
  rw [F_X7_letters_62]
  refine V_istore hO (ls2 := [(4, .int (b2i s0)), (0, .ref (α (55))), (1, .long w1), (3, .int w3), (5, .long w5), (7, .int w7), (8, .int w8)]) dX7_letters_62 (by decide) rfl ?_
  refine V_iload_n hO 3 dX7_letters_64 rfl rfl ?_
  refine V_iload hO 6 dX7_letters_65 rfl ?_
  refine V_if_le hO 74 dX7_letters_67 (by decide) ?_ ?_
  · refine V_iconst hO 0 dX7_letters_74 (by decide) ?_
    exact V_sub [1, 2, 0, 4, 5] rfl (T_X7_letters_75 hO hR k11 hk11 w1 s0 w5 w7 false w3 h )
  · refine V_iconst hO 1 dX7_letters_70 (by decide) ?_
    refine V_goto hO 75 dX7_letters_71 (by decide) ?_
    exact V_sub [1, 2, 0, 4, 5] rfl (T_X7_letters_75 hO hR k11 hk11 w1 s0 w5 w7 true w3 h )
set_option maxHeartbeats 4000000 in
set_option maxRecDepth 100000 in
theorem T_X7_letters_108 {G : Gm} {α : Nat → Nat} (hO : Ok G α cX7_letters 9 RX7 0 0) (hR : Rt G α (some .int)) : ∀ (fuel : Nat) (w1 : Int64) (w3 : Int32) (w7 : Int32) (h : Hp), V G α 9 (kSI) 108 [(0, .ref (α (55))), (1, .long w1), (3, .int w3), (7, .int w7)] [] h (F_X7_letters_108 fuel w1 w3 w7 h) := by
  intro fuel
  induction fuel with
  | zero => intro w1 w3 w7 h; exact V_none rfl
  | succ n ih =>
    intro w1 w3 w7 h
    rw [F_X7_letters_108]
    refine V_iload hO 3 dX7_letters_108 rfl ?_
    refine V_iload_n hO 2 dX7_letters_110 rfl rfl ?_
    refine V_icmp_ge hO 151 dX7_letters_111 (by decide) ?_ ?_
    · refine V_aload_n hO 0 dX7_letters_151 rfl rfl ?_
      refine V_get hO (v := .int (h.1 55 9)) fl_X7_137 (by decide) (fun _ _ => ce_55) rfl dX7_letters_152 ?_
      exact V_iret hO hR rfl dX7_letters_155
    · refine V_aload_n hO 0 dX7_letters_114 rfl rfl ?_
      refine V_get hO (v := .ref (α (59))) fl_X7_19 (by decide) (fun _ _ => ce_55) rfl dX7_letters_115 ?_
      refine V_aload_n hO 0 dX7_letters_118 rfl rfl ?_
      refine V_get hO (v := .int (h.1 55 9)) fl_X7_137 (by decide) (fun _ _ => ce_55) rfl dX7_letters_119 ?_
      refine V_lload_n hO 1 dX7_letters_122 rfl rfl ?_
      refine V_bipush hO 8 dX7_letters_123 (by decide) ?_
      refine V_iload hO 3 dX7_letters_125 rfl ?_
      refine V_imul hO dX7_letters_127 ?_
      refine V_lushr hO dX7_letters_128 ?_
      refine V_ldc2 hO (v := 255) dX7_letters_129 cn_X7_135 ?_
      refine V_land hO dX7_letters_132 ?_
      refine V_l2i hO dX7_letters_133 ?_
      refine V_chk rfl fun c2 => ?_
      refine V_iast hO (by decide) (fun _ _ _ => ce_59) (inb_in c2) dX7_letters_134 (V_name fun h3 => ?_)
      refine V_aload_n hO 0 dX7_letters_135 rfl rfl ?_
      refine V_dup hO dX7_letters_136 rfl ?_
      refine V_get hO (v := .int (h3.1 55 9)) fl_X7_137 (by decide) (fun _ _ => ce_55) rfl dX7_letters_137 ?_
      refine V_iconst hO 1 dX7_letters_140 (by decide) ?_
      refine V_iadd hO dX7_letters_141 ?_
      refine V_puti hO fp_X7_137 (by decide) (fun _ _ => ce_55) (Nat.le_of_ble_eq_true rfl) (fun _ _ => pe_55_9) dX7_letters_142 (V_name fun h4 => ?_)
      refine V_iinc hO (ls2 := [(7, .int (w7 + 1)), (0, .ref (α (55))), (1, .long w1), (3, .int w3)]) (z := 1) 3 dX7_letters_145 rfl (by decide) (by decide) rfl ?_
      refine V_goto hO 108 dX7_letters_148 (by decide) ?_
      exact V_sub [1, 2, 3, 0] rfl (ih w1 w3 (w7 + 1) h4 )
set_option maxHeartbeats 4000000 in
set_option maxRecDepth 100000 in
theorem T_X7_letters_11 {G : Gm} {α : Nat → Nat} (hO : Ok G α cX7_letters 9 RX7 0 0) (hR : Rt G α (some .int)) : ∀ (fuel : Nat) (w1 : Int64) (w3 : Int32) (w4 : Bool) (w5 : Int64) (w7 : Int32) (h : Hp), V G α 9 (kSI) 11 [(0, .ref (α (55))), (1, .long w1), (3, .int w3), (4, .int (b2i w4)), (5, .long w5), (7, .int w7)] [] h (F_X7_letters_11 fuel w1 w3 w4 w5 w7 h) := by
  intro fuel
  induction fuel with
  | zero => intro w1 w3 w4 w5 w7 h; exact V_none rfl
  | succ n ih =>
    intro w1 w3 w4 w5 w7 h
    rw [F_X7_letters_11]
    refine V_iload hO 5 dX7_letters_11 rfl ?_
    refine V_bipush hO 8 dX7_letters_13 (by decide) ?_
    refine V_icmp_ge hO 83 dX7_letters_15 (by decide) ?_ ?_
    · refine V_iload hO 3 dX7_letters_83 rfl ?_
      refine V_ifneZ hO 91 dX7_letters_85 (by decide) ?_ ?_
      · refine V_aload_n hO 0 dX7_letters_91 rfl rfl ?_
        refine V_get hO (v := .int (h.1 55 9)) fl_X7_137 (by decide) (fun _ _ => ce_55) rfl dX7_letters_92 ?_
        refine V_iload_n hO 2 dX7_letters_95 rfl rfl ?_
        refine V_iadd hO dX7_letters_96 ?_
        refine V_bipush hO 24 dX7_letters_97 (by decide) ?_
        refine V_icmp_le hO 105 dX7_letters_99 (by decide) ?_ ?_
        · refine V_iconst hO 0 dX7_letters_105 (by decide) ?_
          refine V_istore hO (ls2 := [(7, .int 0), (0, .ref (α (55))), (1, .long w1), (3, .int w3), (4, .int (b2i w4)), (5, .long w5)]) dX7_letters_106 (by decide) rfl ?_
          exact V_sub [1, 2, 3, 0] rfl (T_X7_letters_108 hO hR fuel w1 w3 (0 : Int32) h )
        · refine V_bipush hO (-104) dX7_letters_102 (by decide) ?_
          exact V_iret hO hR rfl dX7_letters_104
      · refine V_bipush hO (-102) dX7_letters_88 (by decide) ?_
        exact V_iret hO hR rfl dX7_letters_90
    · refine V_lload hO 4 dX7_letters_18 rfl ?_
      refine V_ldc2 hO (v := 255) dX7_letters_20 cn_X7_135 ?_
      refine V_land hO dX7_letters_23 ?_
      refine V_l2i hO dX7_letters_24 ?_
      refine V_istoreN hO (ls2 := fun v5 => [(8, .int v5), (0, .ref (α (55))), (1, .long w1), (3, .int w3), (4, .int (b2i w4)), (5, .long w5), (7, .int w7)]) dX7_letters_25 (by decide) (fun _ => rfl) (fun v5 => ?_)
      refine V_lload hO 5 dX7_letters_27 rfl ?_
      refine V_bipush hO 8 dX7_letters_29 (by decide) ?_
      refine V_lushr hO dX7_letters_31 ?_
      refine V_lstoreN hO (ls2 := fun v6 => [(5, .long v6), (8, .int v5), (0, .ref (α (55))), (1, .long w1), (3, .int w3), (4, .int (b2i w4)), (7, .int w7)]) dX7_letters_32 (by decide) (fun _ => rfl) (fun v6 => ?_)
      refine V_iload hO 5 dX7_letters_34 rfl ?_
      refine V_ifeqZ hO 61 dX7_letters_36 (by decide) ?_ ?_
      · refine V_iconst hO 0 dX7_letters_61 (by decide) ?_
        exact V_sub [2, 3, 4, 0, 6, 1] rfl (T_X7_letters_62 hO hR (F_X7_letters_11 n) ih w1 w3 v6 w7 v5 false h )
      · refine V_iload hO 1 dX7_letters_39 rfl ?_
        refine V_bipush hO 126 dX7_letters_41 (by decide) ?_
        refine V_icmp_gt hO 61 dX7_letters_43 (by decide) ?_ ?_
        · refine V_iconst hO 0 dX7_letters_61 (by decide) ?_
          exact V_sub [2, 3, 4, 0, 6, 1] rfl (T_X7_letters_62 hO hR (F_X7_letters_11 n) ih w1 w3 v6 w7 v5 false h )
        · refine V_iload hO 1 dX7_letters_46 rfl ?_
          refine V_if_eq hO 57 dX7_letters_48 (by decide) ?_ ?_
          · refine V_iconst hO 1 dX7_letters_57 (by decide) ?_
            refine V_goto hO 62 dX7_letters_58 (by decide) ?_
            exact V_sub [2, 3, 4, 0, 6, 1] rfl (T_X7_letters_62 hO hR (F_X7_letters_11 n) ih w1 w3 v6 w7 v5 true h )
          · refine V_iload_n hO 4 dX7_letters_51 rfl rfl ?_
            refine V_iload hO 6 dX7_letters_52 rfl ?_
            refine V_icmp_ne hO 61 dX7_letters_54 (by decide) ?_ ?_
            · refine V_iconst hO 0 dX7_letters_61 (by decide) ?_
              exact V_sub [2, 3, 4, 0, 6, 1] rfl (T_X7_letters_62 hO hR (F_X7_letters_11 n) ih w1 w3 v6 w7 v5 false h )
            · refine V_iconst hO 1 dX7_letters_57 (by decide) ?_
              refine V_goto hO 62 dX7_letters_58 (by decide) ?_
              exact V_sub [2, 3, 4, 0, 6, 1] rfl (T_X7_letters_62 hO hR (F_X7_letters_11 n) ih w1 w3 v6 w7 v5 true h )
set_option maxHeartbeats 4000000 in
set_option maxRecDepth 100000 in
theorem T_X7_letters {G : Gm} {α : Nat → Nat} (hO : Ok G α cX7_letters 9 RX7 0 0) (hR : Rt G α (some .int)) (p1 : Int64) (σ : Hp) : V G α 9 (kSI) 0 [(0, .ref (α (55))), (1, .long p1)] [] σ (F_X7_letters p1 σ) := by
  rw [F_X7_letters]
  refine V_iconst hO 0 dX7_letters_0 (by decide) ?_
  refine V_istore_n hO (ls2 := [(3, .int 0), (0, .ref (α (55))), (1, .long p1)]) dX7_letters_1 rfl (by decide) rfl ?_
  refine V_iconst hO 1 dX7_letters_2 (by decide) ?_
  refine V_istore hO (ls2 := [(4, .int 1), (3, .int 0), (0, .ref (α (55))), (1, .long p1)]) dX7_letters_3 (by decide) rfl ?_
  refine V_lload_n hO 3 dX7_letters_5 rfl rfl ?_
  refine V_lstore hO (ls2 := [(5, .long p1), (4, .int 1), (3, .int 0), (0, .ref (α (55))), (1, .long p1)]) dX7_letters_6 (by decide) rfl ?_
  refine V_iconst hO 0 dX7_letters_8 (by decide) ?_
  refine V_istore hO (ls2 := [(7, .int 0), (5, .long p1), (4, .int 1), (3, .int 0), (0, .ref (α (55))), (1, .long p1)]) dX7_letters_9 (by decide) rfl ?_
  exact V_sub [4, 5, 3, 2, 1, 0] rfl (T_X7_letters_11 hO hR fuel p1 (0 : Int32) true p1 (0 : Int32) σ )
set_option maxHeartbeats 4000000 in
set_option maxRecDepth 100000 in
theorem C_X7_letters (α : Nat → Nat) (p1 : Int64) (σ : Hp) : Ct yX7_letters cX7_letters 9 (some .int) 0 0 α [.ref (α (55)), .long p1] σ (kSI (F_X7_letters p1 σ)) := ct_of_V (own := RX7) rfl (by decide +kernel) (Nat.le_of_ble_eq_true rfl) fun _ hO hR => T_X7_letters hO hR p1 σ
/-! X7_blank -/
noncomputable def F_X7_blank  (σ : Hp) : Int32 × Hp :=
  lt (σ.1 55 9) fun v1 =>
  lt (up σ 55 9 (0 : Int32)) fun h2 =>
  (v1, h2)
set_option maxHeartbeats 4000000 in
set_option maxRecDepth 100000 in
theorem T_X7_blank {G : Gm} {α : Nat → Nat} (hO : Ok G α cX7_blank 2 RX7 0 0) (hR : Rt G α (some .int)) (σ : Hp) : V G α 2 (kTI) 0 [(0, .ref (α (55)))] [] σ (F_X7_blank σ) := by
  rw [F_X7_blank]
  refine V_aload_n hO 0 dX7_blank_0 rfl rfl ?_
  refine V_get hO (v := .int (σ.1 55 9)) fl_X7_137 (by decide) (fun _ _ => ce_55) rfl dX7_blank_1 ?_
  refine V_istore_nN hO (ls2 := fun v1 => [(1, .int v1), (0, .ref (α (55)))]) dX7_blank_4 rfl (by decide) (fun _ => rfl) (fun v1 => ?_)
  refine V_aload_n hO 1 dX7_blank_5 rfl rfl ?_
  refine V_iconst hO 0 dX7_blank_6 (by decide) ?_
  refine V_puti hO fp_X7_137 (by decide) (fun _ _ => ce_55) (Nat.le_of_ble_eq_true rfl) (fun _ _ => pe_55_9) dX7_blank_7 (V_name fun h2 => ?_)
  refine V_iload_n hO 0 dX7_blank_10 rfl rfl ?_
  exact V_iret hO hR rfl dX7_blank_11
set_option maxHeartbeats 4000000 in
set_option maxRecDepth 100000 in
theorem C_X7_blank (α : Nat → Nat) (σ : Hp) : Ct yX7_blank cX7_blank 2 (some .int) 0 0 α [.ref (α (55))] σ (kTI (F_X7_blank σ)) := ct_of_V (own := RX7) rfl (by decide +kernel) (Nat.le_of_ble_eq_true rfl) fun _ hO hR => T_X7_blank hO hR σ
/-! X7_dayOf -/
noncomputable def F_X7_dayOf  (p1 : Int32) (σ : Hp) : Int32 :=
  if p1 = (99 : Int32) then
  (0 : Int32)
  else
  if p1 = (116 : Int32) then
  (1 : Int32)
  else
  if p1 = (115 : Int32) then
  (2 : Int32)
  else
  if p1 = (119 : Int32) then
  (3 : Int32)
  else
  ((-1) : Int32)
set_option maxHeartbeats 4000000 in
set_option maxRecDepth 100000 in
theorem T_X7_dayOf {G : Gm} {α : Nat → Nat} (hO : Ok G α cX7_dayOf 1 RX7 0 0) (hR : Rt G α (some .int)) (p1 : Int32) (σ : Hp) : V G α 1 (kI σ) 0 [(0, .int p1)] [] σ (F_X7_dayOf p1 σ) := by
  rw [F_X7_dayOf]
  refine V_iload_n hO 0 dX7_dayOf_0 rfl rfl ?_
  refine V_bipush hO 99 dX7_dayOf_1 (by decide) ?_
  refine V_icmp_ne hO 10 dX7_dayOf_3 (by decide) ?_ ?_
  · refine V_iload_n hO 0 dX7_dayOf_10 rfl rfl ?_
    refine V_bipush hO 116 dX7_dayOf_11 (by decide) ?_
    refine V_icmp_ne hO 20 dX7_dayOf_13 (by decide) ?_ ?_
    · refine V_iload_n hO 0 dX7_dayOf_20 rfl rfl ?_
      refine V_bipush hO 115 dX7_dayOf_21 (by decide) ?_
      refine V_icmp_ne hO 30 dX7_dayOf_23 (by decide) ?_ ?_
      · refine V_iload_n hO 0 dX7_dayOf_30 rfl rfl ?_
        refine V_bipush hO 119 dX7_dayOf_31 (by decide) ?_
        refine V_icmp_ne hO 40 dX7_dayOf_33 (by decide) ?_ ?_
        · refine V_iconst hO (-1) dX7_dayOf_40 (by decide) ?_
          exact V_iret hO hR rfl dX7_dayOf_41
        · refine V_iconst hO 3 dX7_dayOf_36 (by decide) ?_
          refine V_goto hO 41 dX7_dayOf_37 (by decide) ?_
          exact V_iret hO hR rfl dX7_dayOf_41
      · refine V_iconst hO 2 dX7_dayOf_26 (by decide) ?_
        refine V_goto hO 41 dX7_dayOf_27 (by decide) ?_
        exact V_iret hO hR rfl dX7_dayOf_41
    · refine V_iconst hO 1 dX7_dayOf_16 (by decide) ?_
      refine V_goto hO 41 dX7_dayOf_17 (by decide) ?_
      exact V_iret hO hR rfl dX7_dayOf_41
  · refine V_iconst hO 0 dX7_dayOf_6 (by decide) ?_
    refine V_goto hO 41 dX7_dayOf_7 (by decide) ?_
    exact V_iret hO hR rfl dX7_dayOf_41
set_option maxHeartbeats 4000000 in
set_option maxRecDepth 100000 in
theorem C_X7_dayOf (α : Nat → Nat) (p1 : Int32) (σ : Hp) : Ct yX7_dayOf cX7_dayOf 1 (some .int) 0 0 α [.int p1] σ (kI σ (F_X7_dayOf p1 σ)) := ct_of_V (own := RX7) rfl (by decide +kernel) (Nat.le_of_ble_eq_true rfl) fun _ hO hR => T_X7_dayOf hO hR p1 σ
/-! X7_go -/
noncomputable def F_X7_go_131  (w2 : Bool) (s0 : Bool) (s1 : Int32) (h : Hp) : Option (Bool × Hp) :=
  lt (up h 55 10 (s1 + (b2i s0))) fun h1 =>
  some (w2, h1)
noncomputable def F_X7_go_111  (w2 : Bool) (s0 : Bool) (h : Hp) : Option (Bool × Hp) :=
  lt (up h 55 11 (b2i s0)) fun h2 =>
  if (h2.1 55 11) = 0 then
  F_X7_go_131 w2 true (h2.1 55 10) h2
  else
  F_X7_go_131 w2 false (h2.1 55 10) h2
noncomputable def F_X7_go_69  (w1 : Int32) (s0 : Bool) (h : Hp) : Option (Bool × Hp) :=
  if s0 = true then
  if inb (h.1 55 10) 12 = true then
  lt (up h 60 (Int32.toNatClampNeg (h.1 55 10)) (F_X7_dayOf w1 h)) fun h4 =>
  if inb (h4.1 55 10) 12 = true then
  lt (up h4 61 (Int32.toNatClampNeg (h4.1 55 10)) (0 : Int32)) fun h6 =>
  if (2 : Int32) ≤ (F_X7_dayOf w1 h6) then
  F_X7_go_111 s0 false h6
  else
  F_X7_go_111 s0 true h6
  else none
  else none
  else
  some (s0, h)
noncomputable def F_X7_go  (p1 : Int32) (σ : Hp) : Option (Bool × Hp) :=
  if (σ.1 55 11) = 0 then
  if (F_X7_dayOf p1 σ) = ((-1) : Int32) then
  F_X7_go_69 p1 false σ
  else
  if (12 : Int32) ≤ (σ.1 55 10) then
  F_X7_go_69 p1 false σ
  else
  F_X7_go_69 p1 true σ
  else
  if inb (σ.1 55 10) 12 = true then
  lt (up σ 61 (Int32.toNatClampNeg (σ.1 55 10)) (p1 - (48 : Int32))) fun h8 =>
  lt (up h8 55 10 ((h8.1 55 10) + (1 : Int32))) fun h9 =>
  lt (up h9 55 11 (0 : Int32)) fun h10 =>
  some ((F_X7_in (Int32.toInt64 p1) (49 : Int64) (57 : Int64) h10), h10)
  else none
set_option maxHeartbeats 4000000 in
set_option maxRecDepth 100000 in
theorem T_X7_go_131 {G : Gm} {α : Nat → Nat} (hO : Ok G α cX7_go 3 RX7 1 25) (hR : Rt G α (some .boolean)) : ∀ (w2 : Bool) (s0 : Bool) (s1 : Int32) (h : Hp), V G α 3 (kSZ) 131 [(2, .int (b2i w2))] [.int (b2i s0), .int s1, .ref (α (55))] h (F_X7_go_131 w2 s0 s1 h) := by
  intro w2 s0 s1 h
  rw [F_X7_go_131]
  refine V_iadd hO dX7_go_131 ?_
  refine V_puti hO fp_X7_144 (by decide) (fun _ _ => ce_55) (Nat.le_of_ble_eq_true rfl) (fun _ _ => pe_55_10) dX7_go_132 (V_name fun h1 => ?_)
  refine V_iload_n hO 0 dX7_go_135 rfl rfl ?_
  exact V_zret hO hR (b2i_01 _) rfl dX7_go_136
set_option maxHeartbeats 4000000 in
set_option maxRecDepth 100000 in
theorem T_X7_go_111 {G : Gm} {α : Nat → Nat} (hO : Ok G α cX7_go 3 RX7 1 25) (hR : Rt G α (some .boolean)) : ∀ (w2 : Bool) (s0 : Bool) (h : Hp), V G α 3 (kSZ) 111 [(0, .ref (α (55))), (2, .int (b2i w2))] [.int (b2i s0), .ref (α (55))] h (F_X7_go_111 w2 s0 h) := by
  intro w2 s0 h
  rw [F_X7_go_111]
  refine V_putz hO fp_X7_140 (by decide) (fun _ _ => ce_55) (Nat.le_of_ble_eq_true rfl) (b2i_01 _) (fun _ _ => pe_55_11) dX7_go_111 (V_name fun h2 => ?_)
  refine V_aload_n hO 0 dX7_go_114 rfl rfl ?_
  refine V_dup hO dX7_go_115 rfl ?_
  refine V_get hO (v := .int (h2.1 55 10)) fl_X7_144 (by decide) (fun _ _ => ce_55) rfl dX7_go_116 ?_
  refine V_aload_n hO 0 dX7_go_119 rfl rfl ?_
  refine V_get hO (v := .int (h2.1 55 11)) fl_X7_140 (by decide) (fun _ _ => ce_55) rfl dX7_go_120 ?_
  refine V_if_eq hO 130 dX7_go_123 (by decide) ?_ ?_
  · refine V_iconst hO 1 dX7_go_130 (by decide) ?_
    exact V_sub [1] rfl (T_X7_go_131 hO hR w2 true (h2.1 55 10) h2 )
  · refine V_iconst hO 0 dX7_go_126 (by decide) ?_
    refine V_goto hO 131 dX7_go_127 (by decide) ?_
    exact V_sub [1] rfl (T_X7_go_131 hO hR w2 false (h2.1 55 10) h2 )
set_option maxHeartbeats 4000000 in
set_option maxRecDepth 100000 in
theorem T_X7_go_69 {G : Gm} {α : Nat → Nat} (hO : Ok G α cX7_go 3 RX7 1 25) (hR : Rt G α (some .boolean)) : ∀ (w1 : Int32) (s0 : Bool) (h : Hp), V G α 3 (kSZ) 69 [(0, .ref (α (55))), (1, .int w1)] [.int (b2i s0)] h (F_X7_go_69 w1 s0 h) := by
  intro w1 s0 h
  rw [F_X7_go_69]
  refine V_istore_n hO (ls2 := [(2, .int (b2i s0)), (0, .ref (α (55))), (1, .int w1)]) dX7_go_69 rfl (by decide) rfl ?_
  refine V_iload_n hO 0 dX7_go_70 rfl rfl ?_
  refine V_ifeqZ hO 135 dX7_go_71 (by decide) ?_ ?_
  · refine V_iload_n hO 0 dX7_go_135 rfl rfl ?_
    exact V_zret hO hR (b2i_01 _) rfl dX7_go_136
  · refine V_aload_n hO 1 dX7_go_74 rfl rfl ?_
    refine V_get hO (v := .ref (α (60))) fl_X7_22 (by decide) (fun _ _ => ce_55) rfl dX7_go_75 ?_
    refine V_aload_n hO 1 dX7_go_78 rfl rfl ?_
    refine V_get hO (v := .int (h.1 55 10)) fl_X7_144 (by decide) (fun _ _ => ce_55) rfl dX7_go_79 ?_
    refine V_iload_n hO 2 dX7_go_82 rfl rfl ?_
    refine V_callS hO ml_X7_151 (C_X7_dayOf α w1 h) (rest := [.int (h.1 55 10), .ref (α (60))]) rfl rfl (Nat.le_of_ble_eq_true rfl) ⟨Nat.le_of_ble_eq_true rfl, Nat.le_of_ble_eq_true rfl⟩ dX7_go_83 (kc_I ?_)
    refine V_chk rfl fun c3 => ?_
    refine V_iast hO (by decide) (fun _ _ _ => ce_60) (inb_in c3) dX7_go_86 (V_name fun h4 => ?_)
    refine V_aload_n hO 1 dX7_go_87 rfl rfl ?_
    refine V_get hO (v := .ref (α (61))) fl_X7_25 (by decide) (fun _ _ => ce_55) rfl dX7_go_88 ?_
    refine V_aload_n hO 1 dX7_go_91 rfl rfl ?_
    refine V_get hO (v := .int (h4.1 55 10)) fl_X7_144 (by decide) (fun _ _ => ce_55) rfl dX7_go_92 ?_
    refine V_iconst hO 0 dX7_go_95 (by decide) ?_
    refine V_chk rfl fun c5 => ?_
    refine V_iast hO (by decide) (fun _ _ _ => ce_61) (inb_in c5) dX7_go_96 (V_name fun h6 => ?_)
    refine V_aload_n hO 1 dX7_go_97 rfl rfl ?_
    refine V_iload_n hO 2 dX7_go_98 rfl rfl ?_
    refine V_callS hO ml_X7_151 (C_X7_dayOf α w1 h6) (rest := [.ref (α (55))]) rfl rfl (Nat.le_of_ble_eq_true rfl) ⟨Nat.le_of_ble_eq_true rfl, Nat.le_of_ble_eq_true rfl⟩ dX7_go_99 (kc_I ?_)
    refine V_iconst hO 2 dX7_go_102 (by decide) ?_
    refine V_icmp_ge hO 110 dX7_go_103 (by decide) ?_ ?_
    · refine V_iconst hO 0 dX7_go_110 (by decide) ?_
      exact V_sub [1, 0] rfl (T_X7_go_111 hO hR s0 false h6 )
    · refine V_iconst hO 1 dX7_go_106 (by decide) ?_
      refine V_goto hO 111 dX7_go_107 (by decide) ?_
      exact V_sub [1, 0] rfl (T_X7_go_111 hO hR s0 true h6 )
set_option maxHeartbeats 4000000 in
set_option maxRecDepth 100000 in
theorem T_X7_go {G : Gm} {α : Nat → Nat} (hO : Ok G α cX7_go 3 RX7 1 25) (hR : Rt G α (some .boolean)) (p1 : Int32) (σ : Hp) : V G α 3 (kSZ) 0 [(0, .ref (α (55))), (1, .int p1)] [] σ (F_X7_go p1 σ) := by
  rw [F_X7_go]
  refine V_aload_n hO 0 dX7_go_0 rfl rfl ?_
  refine V_get hO (v := .int (σ.1 55 11)) fl_X7_140 (by decide) (fun _ _ => ce_55) rfl dX7_go_1 ?_
  refine V_if_eq hO 47 dX7_go_4 (by decide) ?_ ?_
  · refine V_iload_n hO 1 dX7_go_47 rfl rfl ?_
    refine V_callS hO ml_X7_151 (C_X7_dayOf α p1 σ) (rest := []) rfl rfl (Nat.le_of_ble_eq_true rfl) ⟨Nat.le_of_ble_eq_true rfl, Nat.le_of_ble_eq_true rfl⟩ dX7_go_48 (kc_I ?_)
    refine V_iconst hO (-1) dX7_go_51 (by decide) ?_
    refine V_icmp_eq hO 68 dX7_go_52 (by decide) ?_ ?_
    · refine V_iconst hO 0 dX7_go_68 (by decide) ?_
      exact V_sub [0, 1] rfl (T_X7_go_69 hO hR p1 false σ )
    · refine V_aload_n hO 0 dX7_go_55 rfl rfl ?_
      refine V_get hO (v := .int (σ.1 55 10)) fl_X7_144 (by decide) (fun _ _ => ce_55) rfl dX7_go_56 ?_
      refine V_bipush hO 12 dX7_go_59 (by decide) ?_
      refine V_icmp_ge hO 68 dX7_go_61 (by decide) ?_ ?_
      · refine V_iconst hO 0 dX7_go_68 (by decide) ?_
        exact V_sub [0, 1] rfl (T_X7_go_69 hO hR p1 false σ )
      · refine V_iconst hO 1 dX7_go_64 (by decide) ?_
        refine V_goto hO 69 dX7_go_65 (by decide) ?_
        exact V_sub [0, 1] rfl (T_X7_go_69 hO hR p1 true σ )
  · refine V_aload_n hO 0 dX7_go_7 rfl rfl ?_
    refine V_get hO (v := .ref (α (61))) fl_X7_25 (by decide) (fun _ _ => ce_55) rfl dX7_go_8 ?_
    refine V_aload_n hO 0 dX7_go_11 rfl rfl ?_
    refine V_get hO (v := .int (σ.1 55 10)) fl_X7_144 (by decide) (fun _ _ => ce_55) rfl dX7_go_12 ?_
    refine V_iload_n hO 1 dX7_go_15 rfl rfl ?_
    refine V_bipush hO 48 dX7_go_16 (by decide) ?_
    refine V_isub hO dX7_go_18 ?_
    refine V_chk rfl fun c7 => ?_
    refine V_iast hO (by decide) (fun _ _ _ => ce_61) (inb_in c7) dX7_go_19 (V_name fun h8 => ?_)
    refine V_aload_n hO 0 dX7_go_20 rfl rfl ?_
    refine V_dup hO dX7_go_21 rfl ?_
    refine V_get hO (v := .int (h8.1 55 10)) fl_X7_144 (by decide) (fun _ _ => ce_55) rfl dX7_go_22 ?_
    refine V_iconst hO 1 dX7_go_25 (by decide) ?_
    refine V_iadd hO dX7_go_26 ?_
    refine V_puti hO fp_X7_144 (by decide) (fun _ _ => ce_55) (Nat.le_of_ble_eq_true rfl) (fun _ _ => pe_55_10) dX7_go_27 (V_name fun h9 => ?_)
    refine V_aload_n hO 0 dX7_go_30 rfl rfl ?_
    refine V_iconst hO 0 dX7_go_31 (by decide) ?_
    refine V_putz hO fp_X7_140 (by decide) (fun _ _ => ce_55) (Nat.le_of_ble_eq_true rfl) (by decide) (fun _ _ => pe_55_11) dX7_go_32 (V_name fun h10 => ?_)
    refine V_iload_n hO 1 dX7_go_35 rfl rfl ?_
    refine V_i2l hO dX7_go_36 ?_
    refine V_ldc2 hO (v := 49) dX7_go_37 cn_X7_147 ?_
    refine V_ldc2 hO (v := 57) dX7_go_40 cn_X7_149 ?_
    refine V_callS hO ml_X7_75 (C_X7_in α (Int32.toInt64 p1) (49 : Int64) (57 : Int64) h10) (rest := []) rfl rfl (Nat.le_of_ble_eq_true rfl) ⟨Nat.le_of_ble_eq_true rfl, Nat.le_of_ble_eq_true rfl⟩ dX7_go_43 (kc_Z ?_)
    exact V_zret hO hR (b2i_01 _) rfl dX7_go_46
set_option maxHeartbeats 4000000 in
set_option maxRecDepth 100000 in
theorem C_X7_go (α : Nat → Nat) (p1 : Int32) (σ : Hp) : Ct yX7_go cX7_go 3 (some .boolean) 1 25 α [.ref (α (55)), .int p1] σ (kSZ (F_X7_go p1 σ)) := ct_of_V (own := RX7) rfl (by decide +kernel) (Nat.le_of_ble_eq_true rfl) fun _ hO hR => T_X7_go hO hR p1 σ
/-! X7_faultOf -/
noncomputable def F_X7_faultOf_12  : Nat → Int32 → Hp → Option (Int32 × Hp)
  | 0, _, _ => none
  | n + 1, w1, h =>
    if (h.1 55 9) ≤ w1 then
    some (w1, h)
    else
    if inb w1 24 = true then
    (F_X7_go (h.1 59 (Int32.toNatClampNeg w1)) h).bind fun q2 =>
    if q2.1 = true then
    F_X7_faultOf_12 n (w1 + 1) q2.2
    else
    some (w1, q2.2)
    else none
noncomputable def F_X7_faultOf  (σ : Hp) : Option (Int32 × Hp) :=
  lt (up σ 55 10 (0 : Int32)) fun h3 =>
  lt (up h3 55 11 (0 : Int32)) fun h4 =>
  F_X7_faultOf_12 fuel (0 : Int32) h4
set_option maxHeartbeats 4000000 in
set_option maxRecDepth 100000 in
theorem T_X7_faultOf_12 {G : Gm} {α : Nat → Nat} (hO : Ok G α cX7_faultOf 2 RX7 2 47) (hR : Rt G α (some .int)) : ∀ (fuel : Nat) (w1 : Int32) (h : Hp), V G α 2 (kSI) 12 [(0, .ref (α (55))), (1, .int w1)] [] h (F_X7_faultOf_12 fuel w1 h) := by
  intro fuel
  induction fuel with
  | zero => intro w1 h; exact V_none rfl
  | succ n ih =>
    intro w1 h
    rw [F_X7_faultOf_12]
    refine V_iload_n hO 1 dX7_faultOf_12 rfl rfl ?_
    refine V_aload_n hO 0 dX7_faultOf_13 rfl rfl ?_
    refine V_get hO (v := .int (h.1 55 9)) fl_X7_137 (by decide) (fun _ _ => ce_55) rfl dX7_faultOf_14 ?_
    refine V_icmp_ge hO 39 dX7_faultOf_17 (by decide) ?_ ?_
    · refine V_iload_n hO 1 dX7_faultOf_39 rfl rfl ?_
      exact V_iret hO hR rfl dX7_faultOf_40
    · refine V_aload_n hO 0 dX7_faultOf_20 rfl rfl ?_
      refine V_aload_n hO 0 dX7_faultOf_21 rfl rfl ?_
      refine V_get hO (v := .ref (α (59))) fl_X7_19 (by decide) (fun _ _ => ce_55) rfl dX7_faultOf_22 ?_
      refine V_iload_n hO 1 dX7_faultOf_25 rfl rfl ?_
      refine V_chk rfl fun c1 => ?_
      refine V_iald hO (by decide) (fun _ _ => ce_59) (inb_in c1) dX7_faultOf_26 ?_
      refine V_callV hO ml_X7_154 (C_X7_go α (h.1 59 (Int32.toNatClampNeg w1)) h) (by decide) (fun _ _ => ce_55) rfl rfl (rest := []) rfl rfl (Nat.le_of_ble_eq_true rfl) ⟨Nat.le_of_ble_eq_true rfl, Nat.le_of_ble_eq_true rfl⟩ dX7_faultOf_27 (kc_SZ rfl fun q2 => ?_)
      refine V_ifeqZ hO 39 dX7_faultOf_30 (by decide) ?_ ?_
      · refine V_iload_n hO 1 dX7_faultOf_39 rfl rfl ?_
        exact V_iret hO hR rfl dX7_faultOf_40
      · refine V_iinc hO (ls2 := [(1, .int (w1 + 1)), (0, .ref (α (55)))]) (z := 1) 1 dX7_faultOf_33 rfl (by decide) (by decide) rfl ?_
        refine V_goto hO 12 dX7_faultOf_36 (by decide) ?_
        exact V_sub [1, 0] rfl (ih (w1 + 1) q2.2 )
set_option maxHeartbeats 4000000 in
set_option maxRecDepth 100000 in
theorem T_X7_faultOf {G : Gm} {α : Nat → Nat} (hO : Ok G α cX7_faultOf 2 RX7 2 47) (hR : Rt G α (some .int)) (σ : Hp) : V G α 2 (kSI) 0 [(0, .ref (α (55)))] [] σ (F_X7_faultOf σ) := by
  rw [F_X7_faultOf]
  refine V_aload_n hO 0 dX7_faultOf_0 rfl rfl ?_
  refine V_iconst hO 0 dX7_faultOf_1 (by decide) ?_
  refine V_puti hO fp_X7_144 (by decide) (fun _ _ => ce_55) (Nat.le_of_ble_eq_true rfl) (fun _ _ => pe_55_10) dX7_faultOf_2 (V_name fun h3 => ?_)
  refine V_aload_n hO 0 dX7_faultOf_5 rfl rfl ?_
  refine V_iconst hO 0 dX7_faultOf_6 (by decide) ?_
  refine V_putz hO fp_X7_140 (by decide) (fun _ _ => ce_55) (Nat.le_of_ble_eq_true rfl) (by decide) (fun _ _ => pe_55_11) dX7_faultOf_7 (V_name fun h4 => ?_)
  refine V_iconst hO 0 dX7_faultOf_10 (by decide) ?_
  refine V_istore_n hO (ls2 := [(1, .int 0), (0, .ref (α (55)))]) dX7_faultOf_11 rfl (by decide) rfl ?_
  exact V_sub [1, 0] rfl (T_X7_faultOf_12 hO hR fuel (0 : Int32) h4 )
set_option maxHeartbeats 4000000 in
set_option maxRecDepth 100000 in
theorem C_X7_faultOf (α : Nat → Nat) (σ : Hp) : Ct yX7_faultOf cX7_faultOf 2 (some .int) 2 47 α [.ref (α (55))] σ (kSI (F_X7_faultOf σ)) := ct_of_V (own := RX7) rfl (by decide +kernel) (Nat.le_of_ble_eq_true rfl) fun _ hO hR => T_X7_faultOf hO hR σ
/-! X7_fault -/
noncomputable def F_X7_fault  (σ : Hp) : Option (Int32 × Hp) :=
  (F_X7_faultOf σ).bind fun q1 =>
  some (q1.1, q1.2)
set_option maxHeartbeats 4000000 in
set_option maxRecDepth 100000 in
theorem T_X7_fault {G : Gm} {α : Nat → Nat} (hO : Ok G α cX7_fault 1 RX7 3 68) (hR : Rt G α (some .int)) (σ : Hp) : V G α 1 (kSI) 0 [(0, .ref (α (55)))] [] σ (F_X7_fault σ) := by
  rw [F_X7_fault]
  refine V_aload_n hO 0 dX7_fault_0 rfl rfl ?_
  refine V_callV hO ml_X7_157 (C_X7_faultOf α σ) (by decide) (fun _ _ => ce_55) rfl rfl (rest := []) rfl rfl (Nat.le_of_ble_eq_true rfl) ⟨Nat.le_of_ble_eq_true rfl, Nat.le_of_ble_eq_true rfl⟩ dX7_fault_1 (kc_SI rfl fun q1 => ?_)
  exact V_iret hO hR rfl dX7_fault_4
set_option maxHeartbeats 4000000 in
set_option maxRecDepth 100000 in
theorem C_X7_fault (α : Nat → Nat) (σ : Hp) : Ct yX7_fault cX7_fault 1 (some .int) 3 68 α [.ref (α (55))] σ (kSI (F_X7_fault σ)) := ct_of_V (own := RX7) rfl (by decide +kernel) (Nat.le_of_ble_eq_true rfl) fun _ hO hR => T_X7_fault hO hR σ
/-! X7_areDays -/
noncomputable def F_X7_areDays  (σ : Hp) : Option (Bool × Hp) :=
  (F_X7_faultOf σ).bind fun q1 =>
  if q1.1 = (q1.2.1 55 9) then
  if (q1.2.1 55 11) = 0 then
  if (q1.2.1 55 10) ≤ 0 then
  some (false, q1.2)
  else
  some (true, q1.2)
  else
  some (false, q1.2)
  else
  some (false, q1.2)
set_option maxHeartbeats 4000000 in
set_option maxRecDepth 100000 in
theorem T_X7_areDays {G : Gm} {α : Nat → Nat} (hO : Ok G α cX7_areDays 1 RX7 3 68) (hR : Rt G α (some .boolean)) (σ : Hp) : V G α 1 (kSZ) 0 [(0, .ref (α (55)))] [] σ (F_X7_areDays σ) := by
  rw [F_X7_areDays]
  refine V_aload_n hO 0 dX7_areDays_0 rfl rfl ?_
  refine V_callV hO ml_X7_157 (C_X7_faultOf α σ) (by decide) (fun _ _ => ce_55) rfl rfl (rest := []) rfl rfl (Nat.le_of_ble_eq_true rfl) ⟨Nat.le_of_ble_eq_true rfl, Nat.le_of_ble_eq_true rfl⟩ dX7_areDays_1 (kc_SI rfl fun q1 => ?_)
  refine V_aload_n hO 0 dX7_areDays_4 rfl rfl ?_
  refine V_get hO (v := .int (q1.2.1 55 9)) fl_X7_137 (by decide) (fun _ _ => ce_55) rfl dX7_areDays_5 ?_
  refine V_icmp_ne hO 29 dX7_areDays_8 (by decide) ?_ ?_
  · refine V_iconst hO 0 dX7_areDays_29 (by decide) ?_
    exact V_zret hO hR (by decide) rfl dX7_areDays_30
  · refine V_aload_n hO 0 dX7_areDays_11 rfl rfl ?_
    refine V_get hO (v := .int (q1.2.1 55 11)) fl_X7_140 (by decide) (fun _ _ => ce_55) rfl dX7_areDays_12 ?_
    refine V_if_ne hO 29 dX7_areDays_15 (by decide) ?_ ?_
    · refine V_iconst hO 0 dX7_areDays_29 (by decide) ?_
      exact V_zret hO hR (by decide) rfl dX7_areDays_30
    · refine V_aload_n hO 0 dX7_areDays_18 rfl rfl ?_
      refine V_get hO (v := .int (q1.2.1 55 10)) fl_X7_144 (by decide) (fun _ _ => ce_55) rfl dX7_areDays_19 ?_
      refine V_if_le hO 29 dX7_areDays_22 (by decide) ?_ ?_
      · refine V_iconst hO 0 dX7_areDays_29 (by decide) ?_
        exact V_zret hO hR (by decide) rfl dX7_areDays_30
      · refine V_iconst hO 1 dX7_areDays_25 (by decide) ?_
        refine V_goto hO 30 dX7_areDays_26 (by decide) ?_
        exact V_zret hO hR (by decide) rfl dX7_areDays_30
set_option maxHeartbeats 4000000 in
set_option maxRecDepth 100000 in
theorem C_X7_areDays (α : Nat → Nat) (σ : Hp) : Ct yX7_areDays cX7_areDays 1 (some .boolean) 3 68 α [.ref (α (55))] σ (kSZ (F_X7_areDays σ)) := ct_of_V (own := RX7) rfl (by decide +kernel) (Nat.le_of_ble_eq_true rfl) fun _ hO hR => T_X7_areDays hO hR σ
/-! X7_less -/
noncomputable def F_X7_less  (p1 : Int32) (p2 : Int32) (σ : Hp) : Int32 :=
  if p1 ≤ p2 then
  (0 : Int32)
  else
  (p1 - p2)
set_option maxHeartbeats 4000000 in
set_option maxRecDepth 100000 in
theorem T_X7_less {G : Gm} {α : Nat → Nat} (hO : Ok G α cX7_less 2 RX7 0 0) (hR : Rt G α (some .int)) (p1 : Int32) (p2 : Int32) (σ : Hp) : V G α 2 (kI σ) 0 [(0, .int p1), (1, .int p2)] [] σ (F_X7_less p1 p2 σ) := by
  rw [F_X7_less]
  refine V_iload_n hO 0 dX7_less_0 rfl rfl ?_
  refine V_iload_n hO 1 dX7_less_1 rfl rfl ?_
  refine V_icmp_le hO 11 dX7_less_2 (by decide) ?_ ?_
  · refine V_iconst hO 0 dX7_less_11 (by decide) ?_
    exact V_iret hO hR rfl dX7_less_12
  · refine V_iload_n hO 0 dX7_less_5 rfl rfl ?_
    refine V_iload_n hO 1 dX7_less_6 rfl rfl ?_
    refine V_isub hO dX7_less_7 ?_
    refine V_goto hO 12 dX7_less_8 (by decide) ?_
    exact V_iret hO hR rfl dX7_less_12
set_option maxHeartbeats 4000000 in
set_option maxRecDepth 100000 in
theorem C_X7_less (α : Nat → Nat) (p1 : Int32) (p2 : Int32) (σ : Hp) : Ct yX7_less cX7_less 2 (some .int) 0 0 α [.int p1, .int p2] σ (kI σ (F_X7_less p1 p2 σ)) := ct_of_V (own := RX7) rfl (by decide +kernel) (Nat.le_of_ble_eq_true rfl) fun _ hO hR => T_X7_less hO hR p1 p2 σ
/-! X7_thawOf -/
noncomputable def F_X7_thawOf  (p1 : Int32) (p2 : Int32) (σ : Hp) : Int32 :=
  if p1 = (4 : Int32) then
  ((p2 + (1 : Int32)) / (2 : Int32))
  else
  p2
set_option maxHeartbeats 4000000 in
set_option maxRecDepth 100000 in
theorem T_X7_thawOf {G : Gm} {α : Nat → Nat} (hO : Ok G α cX7_thawOf 2 RX7 0 0) (hR : Rt G α (some .int)) (p1 : Int32) (p2 : Int32) (σ : Hp) : V G α 2 (kI σ) 0 [(0, .int p1), (1, .int p2)] [] σ (F_X7_thawOf p1 p2 σ) := by
  rw [F_X7_thawOf]
  refine V_iload_n hO 0 dX7_thawOf_0 rfl rfl ?_
  refine V_iconst hO 4 dX7_thawOf_1 (by decide) ?_
  refine V_icmp_ne hO 13 dX7_thawOf_2 (by decide) ?_ ?_
  · refine V_iload_n hO 1 dX7_thawOf_13 rfl rfl ?_
    exact V_iret hO hR rfl dX7_thawOf_14
  · refine V_iload_n hO 1 dX7_thawOf_5 rfl rfl ?_
    refine V_iconst hO 1 dX7_thawOf_6 (by decide) ?_
    refine V_iadd hO dX7_thawOf_7 ?_
    refine V_iconst hO 2 dX7_thawOf_8 (by decide) ?_
    refine V_idiv hO dX7_thawOf_9 (by decide) ?_
    refine V_goto hO 14 dX7_thawOf_10 (by decide) ?_
    exact V_iret hO hR rfl dX7_thawOf_14
set_option maxHeartbeats 4000000 in
set_option maxRecDepth 100000 in
theorem C_X7_thawOf (α : Nat → Nat) (p1 : Int32) (p2 : Int32) (σ : Hp) : Ct yX7_thawOf cX7_thawOf 2 (some .int) 0 0 α [.int p1, .int p2] σ (kI σ (F_X7_thawOf p1 p2 σ)) := ct_of_V (own := RX7) rfl (by decide +kernel) (Nat.le_of_ble_eq_true rfl) fun _ hO hR => T_X7_thawOf hO hR p1 p2 σ
/-! X7_thaw -/
noncomputable def F_X7_thaw_136 (k39 : Int32 → Int32 → Hp → (Option Hp)) (w1 : Int32) (w2 : Int32) (h : Hp) : Option Hp :=
  k39 w1 (w2 + 1) h
noncomputable def F_X7_thaw_131 (k39 : Int32 → Int32 → Hp → (Option Hp)) (w1 : Int32) (w2 : Int32) (h : Hp) : Option Hp :=
  (F_X7_lose w2 h).bind fun q1 =>
  F_X7_thaw_136 k39 w1 w2 q1
noncomputable def F_X7_thaw_39  : Nat → Int32 → Int32 → Hp → Option Hp
  | 0, _, _, _ => none
  | n + 1, w1, w2, h =>
    if (h.1 55 6) ≤ w2 then
    some h
    else
    (F_X7_isThere w2 h).bind fun v2 =>
    if v2 = true then
    if inb (((8 : Int32) * w2) + (5 : Int32)) 80 = true then
    if inb ((8 : Int32) * w2) 80 = true then
    lt (F_X7_less (h.1 58 (Int32.toNatClampNeg (((8 : Int32) * w2) + (5 : Int32)))) (F_X7_thawOf (h.1 58 (Int32.toNatClampNeg ((8 : Int32) * w2))) w1 h) h) fun v5 =>
    if inb (((8 : Int32) * w2) + (5 : Int32)) 80 = true then
    lt (up h 58 (Int32.toNatClampNeg (((8 : Int32) * w2) + (5 : Int32))) v5) fun h7 =>
    if v5 = 0 then
    F_X7_thaw_131 (F_X7_thaw_39 n) w1 w2 h7
    else
    if inb (((8 : Int32) * w2) + (1 : Int32)) 80 = true then
    if inb (h7.1 58 (Int32.toNatClampNeg (((8 : Int32) * w2) + (1 : Int32)))) 16 = true then
    if (h7.1 56 (Int32.toNatClampNeg (h7.1 58 (Int32.toNatClampNeg (((8 : Int32) * w2) + (1 : Int32)))))) = 0 then
    F_X7_thaw_131 (F_X7_thaw_39 n) w1 w2 h7
    else
    if inb ((8 : Int32) * w2) 80 = true then
    if (h7.1 58 (Int32.toNatClampNeg ((8 : Int32) * w2))) = (3 : Int32) then
    F_X7_thaw_131 (F_X7_thaw_39 n) w1 w2 h7
    else
    F_X7_thaw_136 (F_X7_thaw_39 n) w1 w2 h7
    else none
    else none
    else none
    else none
    else none
    else none
    else
    F_X7_thaw_136 (F_X7_thaw_39 n) w1 w2 h
noncomputable def F_X7_thaw_2  : Nat → Int32 → Int32 → Hp → Option Hp
  | 0, _, _, _ => none
  | n + 1, w1, w2, h =>
    if (16 : Int32) ≤ w2 then
    F_X7_thaw_39 fuel w1 (0 : Int32) h
    else
    if inb w2 16 = true then
    lt (up h 57 (Int32.toNatClampNeg w2) (0 : Int32)) fun h12 =>
    if inb w2 16 = true then
    if inb w2 16 = true then
    lt (up h12 56 (Int32.toNatClampNeg w2) (F_X7_less (h12.1 56 (Int32.toNatClampNeg w2)) w1 h12)) fun h15 =>
    F_X7_thaw_2 n w1 (w2 + 1) h15
    else none
    else none
    else none
noncomputable def F_X7_thaw  (p1 : Int32) (σ : Hp) : Option Hp :=
  F_X7_thaw_2 fuel p1 (0 : Int32) σ
set_option maxHeartbeats 4000000 in
set_option maxRecDepth 100000 in
theorem T_X7_thaw_136 {G : Gm} {α : Nat → Nat} (hO : Ok G α cX7_thaw 4 RX7 1 21) (hR : Rt G α none) (k39 : Int32 → Int32 → Hp → (Option Hp)) (hk39 : ∀ (w1 : Int32) (w2 : Int32) (h : Hp), V G α 4 (kSV) 39 [(0, .ref (α (55))), (1, .int w1), (2, .int w2)] [] h (k39 w1 w2 h)) : ∀ (w1 : Int32) (w2 : Int32) (h : Hp), V G α 4 (kSV) 136 [(0, .ref (α (55))), (1, .int w1), (2, .int w2)] [] h (F_X7_thaw_136 k39 w1 w2 h) := by
  intro w1 w2 h
  rw [F_X7_thaw_136]
  refine V_iinc hO (ls2 := [(2, .int (w2 + 1)), (0, .ref (α (55))), (1, .int w1)]) (z := 1) 2 dX7_thaw_136 rfl (by decide) (by decide) rfl ?_
  refine V_goto hO 39 dX7_thaw_139 (by decide) ?_
  exact V_sub [1, 2, 0] rfl (hk39 w1 (w2 + 1) h )
set_option maxHeartbeats 4000000 in
set_option maxRecDepth 100000 in
theorem T_X7_thaw_131 {G : Gm} {α : Nat → Nat} (hO : Ok G α cX7_thaw 4 RX7 1 21) (hR : Rt G α none) (k39 : Int32 → Int32 → Hp → (Option Hp)) (hk39 : ∀ (w1 : Int32) (w2 : Int32) (h : Hp), V G α 4 (kSV) 39 [(0, .ref (α (55))), (1, .int w1), (2, .int w2)] [] h (k39 w1 w2 h)) : ∀ (w1 : Int32) (w2 : Int32) (h : Hp), V G α 4 (kSV) 131 [(0, .ref (α (55))), (1, .int w1), (2, .int w2)] [] h (F_X7_thaw_131 k39 w1 w2 h) := by
  intro w1 w2 h
  rw [F_X7_thaw_131]
  refine V_aload_n hO 0 dX7_thaw_131 rfl rfl ?_
  refine V_iload_n hO 2 dX7_thaw_132 rfl rfl ?_
  refine V_callV hO ml_X7_114 (C_X7_lose α w2 h) (by decide) (fun _ _ => ce_55) rfl rfl (rest := []) rfl rfl (Nat.le_of_ble_eq_true rfl) ⟨Nat.le_of_ble_eq_true rfl, Nat.le_of_ble_eq_true rfl⟩ dX7_thaw_133 (kc_SV rfl fun q1 => ?_)
  exact V_sub [0, 1, 2] rfl (T_X7_thaw_136 hO hR k39 hk39 w1 w2 q1 )
set_option maxHeartbeats 4000000 in
set_option maxRecDepth 100000 in
theorem T_X7_thaw_39 {G : Gm} {α : Nat → Nat} (hO : Ok G α cX7_thaw 4 RX7 1 21) (hR : Rt G α none) : ∀ (fuel : Nat) (w1 : Int32) (w2 : Int32) (h : Hp), V G α 4 (kSV) 39 [(0, .ref (α (55))), (1, .int w1), (2, .int w2)] [] h (F_X7_thaw_39 fuel w1 w2 h) := by
  intro fuel
  induction fuel with
  | zero => intro w1 w2 h; exact V_none rfl
  | succ n ih =>
    intro w1 w2 h
    rw [F_X7_thaw_39]
    refine V_iload_n hO 2 dX7_thaw_39 rfl rfl ?_
    refine V_aload_n hO 0 dX7_thaw_40 rfl rfl ?_
    refine V_get hO (v := .int (h.1 55 6)) fl_X7_79 (by decide) (fun _ _ => ce_55) rfl dX7_thaw_41 ?_
    refine V_icmp_ge hO 142 dX7_thaw_44 (by decide) ?_ ?_
    · exact V_vret hO hR rfl dX7_thaw_142
    · refine V_aload_n hO 0 dX7_thaw_47 rfl rfl ?_
      refine V_iload_n hO 2 dX7_thaw_48 rfl rfl ?_
      refine V_callV hO ml_X7_94 (C_X7_isThere α w2 h) (by decide) (fun _ _ => ce_55) rfl rfl (rest := []) rfl rfl (Nat.le_of_ble_eq_true rfl) ⟨Nat.le_of_ble_eq_true rfl, Nat.le_of_ble_eq_true rfl⟩ dX7_thaw_49 (kc_OZ rfl fun v2 => ?_)
      refine V_ifeqZ hO 136 dX7_thaw_52 (by decide) ?_ ?_
      · exact V_sub [0, 1, 2] rfl (T_X7_thaw_136 hO hR (F_X7_thaw_39 n) ih w1 w2 h )
      · refine V_aload_n hO 0 dX7_thaw_55 rfl rfl ?_
        refine V_get hO (v := .ref (α (58))) fl_X7_16 (by decide) (fun _ _ => ce_55) rfl dX7_thaw_56 ?_
        refine V_bipush hO 8 dX7_thaw_59 (by decide) ?_
        refine V_iload_n hO 2 dX7_thaw_61 rfl rfl ?_
        refine V_imul hO dX7_thaw_62 ?_
        refine V_iconst hO 5 dX7_thaw_63 (by decide) ?_
        refine V_iadd hO dX7_thaw_64 ?_
        refine V_chk rfl fun c3 => ?_
        refine V_iald hO (by decide) (fun _ _ => ce_58) (inb_in c3) dX7_thaw_65 ?_
        refine V_aload_n hO 0 dX7_thaw_66 rfl rfl ?_
        refine V_get hO (v := .ref (α (58))) fl_X7_16 (by decide) (fun _ _ => ce_55) rfl dX7_thaw_67 ?_
        refine V_bipush hO 8 dX7_thaw_70 (by decide) ?_
        refine V_iload_n hO 2 dX7_thaw_72 rfl rfl ?_
        refine V_imul hO dX7_thaw_73 ?_
        refine V_chk rfl fun c4 => ?_
        refine V_iald hO (by decide) (fun _ _ => ce_58) (inb_in c4) dX7_thaw_74 ?_
        refine V_iload_n hO 1 dX7_thaw_75 rfl rfl ?_
        refine V_callS hO ml_X7_163 (C_X7_thawOf α (h.1 58 (Int32.toNatClampNeg ((8 : Int32) * w2))) w1 h) (rest := [.int (h.1 58 (Int32.toNatClampNeg (((8 : Int32) * w2) + (5 : Int32))))]) rfl rfl (Nat.le_of_ble_eq_true rfl) ⟨Nat.le_of_ble_eq_true rfl, Nat.le_of_ble_eq_true rfl⟩ dX7_thaw_76 (kc_I ?_)
        refine V_callS hO ml_X7_160 (C_X7_less α (h.1 58 (Int32.toNatClampNeg (((8 : Int32) * w2) + (5 : Int32)))) (F_X7_thawOf (h.1 58 (Int32.toNatClampNeg ((8 : Int32) * w2))) w1 h) h) (rest := []) rfl rfl (Nat.le_of_ble_eq_true rfl) ⟨Nat.le_of_ble_eq_true rfl, Nat.le_of_ble_eq_true rfl⟩ dX7_thaw_79 (kc_I ?_)
        refine V_istore_nN hO (ls2 := fun v5 => [(3, .int v5), (0, .ref (α (55))), (1, .int w1), (2, .int w2)]) dX7_thaw_82 rfl (by decide) (fun _ => rfl) (fun v5 => ?_)
        refine V_aload_n hO 1 dX7_thaw_83 rfl rfl ?_
        refine V_get hO (v := .ref (α (58))) fl_X7_16 (by decide) (fun _ _ => ce_55) rfl dX7_thaw_84 ?_
        refine V_bipush hO 8 dX7_thaw_87 (by decide) ?_
        refine V_iload_n hO 3 dX7_thaw_89 rfl rfl ?_
        refine V_imul hO dX7_thaw_90 ?_
        refine V_iconst hO 5 dX7_thaw_91 (by decide) ?_
        refine V_iadd hO dX7_thaw_92 ?_
        refine V_iload_n hO 0 dX7_thaw_93 rfl rfl ?_
        refine V_chk rfl fun c6 => ?_
        refine V_iast hO (by decide) (fun _ _ _ => ce_58) (inb_in c6) dX7_thaw_94 (V_name fun h7 => ?_)
        refine V_iload_n hO 0 dX7_thaw_95 rfl rfl ?_
        refine V_if_eq hO 131 dX7_thaw_96 (by decide) ?_ ?_
        · exact V_sub [1, 2, 3] rfl (T_X7_thaw_131 hO hR (F_X7_thaw_39 n) ih w1 w2 h7 )
        · refine V_aload_n hO 1 dX7_thaw_99 rfl rfl ?_
          refine V_get hO (v := .ref (α (56))) fl_X7_7 (by decide) (fun _ _ => ce_55) rfl dX7_thaw_100 ?_
          refine V_aload_n hO 1 dX7_thaw_103 rfl rfl ?_
          refine V_get hO (v := .ref (α (58))) fl_X7_16 (by decide) (fun _ _ => ce_55) rfl dX7_thaw_104 ?_
          refine V_bipush hO 8 dX7_thaw_107 (by decide) ?_
          refine V_iload_n hO 3 dX7_thaw_109 rfl rfl ?_
          refine V_imul hO dX7_thaw_110 ?_
          refine V_iconst hO 1 dX7_thaw_111 (by decide) ?_
          refine V_iadd hO dX7_thaw_112 ?_
          refine V_chk rfl fun c8 => ?_
          refine V_iald hO (by decide) (fun _ _ => ce_58) (inb_in c8) dX7_thaw_113 ?_
          refine V_chk rfl fun c9 => ?_
          refine V_iald hO (by decide) (fun _ _ => ce_56) (inb_in c9) dX7_thaw_114 ?_
          refine V_if_eq hO 131 dX7_thaw_115 (by decide) ?_ ?_
          · exact V_sub [1, 2, 3] rfl (T_X7_thaw_131 hO hR (F_X7_thaw_39 n) ih w1 w2 h7 )
          · refine V_aload_n hO 1 dX7_thaw_118 rfl rfl ?_
            refine V_get hO (v := .ref (α (58))) fl_X7_16 (by decide) (fun _ _ => ce_55) rfl dX7_thaw_119 ?_
            refine V_bipush hO 8 dX7_thaw_122 (by decide) ?_
            refine V_iload_n hO 3 dX7_thaw_124 rfl rfl ?_
            refine V_imul hO dX7_thaw_125 ?_
            refine V_chk rfl fun c10 => ?_
            refine V_iald hO (by decide) (fun _ _ => ce_58) (inb_in c10) dX7_thaw_126 ?_
            refine V_iconst hO 3 dX7_thaw_127 (by decide) ?_
            refine V_icmp_ne hO 136 dX7_thaw_128 (by decide) ?_ ?_
            · exact V_sub [1, 2, 3] rfl (T_X7_thaw_136 hO hR (F_X7_thaw_39 n) ih w1 w2 h7 )
            · exact V_sub [1, 2, 3] rfl (T_X7_thaw_131 hO hR (F_X7_thaw_39 n) ih w1 w2 h7 )
set_option maxHeartbeats 4000000 in
set_option maxRecDepth 100000 in
theorem T_X7_thaw_2 {G : Gm} {α : Nat → Nat} (hO : Ok G α cX7_thaw 4 RX7 1 21) (hR : Rt G α none) : ∀ (fuel : Nat) (w1 : Int32) (w2 : Int32) (h : Hp), V G α 4 (kSV) 2 [(0, .ref (α (55))), (1, .int w1), (2, .int w2)] [] h (F_X7_thaw_2 fuel w1 w2 h) := by
  intro fuel
  induction fuel with
  | zero => intro w1 w2 h; exact V_none rfl
  | succ n ih =>
    intro w1 w2 h
    rw [F_X7_thaw_2]
    refine V_iload_n hO 2 dX7_thaw_2 rfl rfl ?_
    refine V_bipush hO 16 dX7_thaw_3 (by decide) ?_
    refine V_icmp_ge hO 37 dX7_thaw_5 (by decide) ?_ ?_
    · refine V_iconst hO 0 dX7_thaw_37 (by decide) ?_
      refine V_istore_n hO (ls2 := [(2, .int 0), (0, .ref (α (55))), (1, .int w1)]) dX7_thaw_38 rfl (by decide) rfl ?_
      exact V_sub [1, 2, 0] rfl (T_X7_thaw_39 hO hR fuel w1 (0 : Int32) h )
    · refine V_aload_n hO 0 dX7_thaw_8 rfl rfl ?_
      refine V_get hO (v := .ref (α (57))) fl_X7_13 (by decide) (fun _ _ => ce_55) rfl dX7_thaw_9 ?_
      refine V_iload_n hO 2 dX7_thaw_12 rfl rfl ?_
      refine V_iconst hO 0 dX7_thaw_13 (by decide) ?_
      refine V_chk rfl fun c11 => ?_
      refine V_iast hO (by decide) (fun _ _ _ => ce_57) (inb_in c11) dX7_thaw_14 (V_name fun h12 => ?_)
      refine V_aload_n hO 0 dX7_thaw_15 rfl rfl ?_
      refine V_get hO (v := .ref (α (56))) fl_X7_7 (by decide) (fun _ _ => ce_55) rfl dX7_thaw_16 ?_
      refine V_iload_n hO 2 dX7_thaw_19 rfl rfl ?_
      refine V_aload_n hO 0 dX7_thaw_20 rfl rfl ?_
      refine V_get hO (v := .ref (α (56))) fl_X7_7 (by decide) (fun _ _ => ce_55) rfl dX7_thaw_21 ?_
      refine V_iload_n hO 2 dX7_thaw_24 rfl rfl ?_
      refine V_chk rfl fun c13 => ?_
      refine V_iald hO (by decide) (fun _ _ => ce_56) (inb_in c13) dX7_thaw_25 ?_
      refine V_iload_n hO 1 dX7_thaw_26 rfl rfl ?_
      refine V_callS hO ml_X7_160 (C_X7_less α (h12.1 56 (Int32.toNatClampNeg w2)) w1 h12) (rest := [.int w2, .ref (α (56))]) rfl rfl (Nat.le_of_ble_eq_true rfl) ⟨Nat.le_of_ble_eq_true rfl, Nat.le_of_ble_eq_true rfl⟩ dX7_thaw_27 (kc_I ?_)
      refine V_chk rfl fun c14 => ?_
      refine V_iast hO (by decide) (fun _ _ _ => ce_56) (inb_in c14) dX7_thaw_30 (V_name fun h15 => ?_)
      refine V_iinc hO (ls2 := [(2, .int (w2 + 1)), (0, .ref (α (55))), (1, .int w1)]) (z := 1) 2 dX7_thaw_31 rfl (by decide) (by decide) rfl ?_
      refine V_goto hO 2 dX7_thaw_34 (by decide) ?_
      exact V_sub [1, 2, 0] rfl (ih w1 (w2 + 1) h15 )
set_option maxHeartbeats 4000000 in
set_option maxRecDepth 100000 in
theorem T_X7_thaw {G : Gm} {α : Nat → Nat} (hO : Ok G α cX7_thaw 4 RX7 1 21) (hR : Rt G α none) (p1 : Int32) (σ : Hp) : V G α 4 (kSV) 0 [(0, .ref (α (55))), (1, .int p1)] [] σ (F_X7_thaw p1 σ) := by
  rw [F_X7_thaw]
  refine V_iconst hO 0 dX7_thaw_0 (by decide) ?_
  refine V_istore_n hO (ls2 := [(2, .int 0), (0, .ref (α (55))), (1, .int p1)]) dX7_thaw_1 rfl (by decide) rfl ?_
  exact V_sub [1, 2, 0] rfl (T_X7_thaw_2 hO hR fuel p1 (0 : Int32) σ )
set_option maxHeartbeats 4000000 in
set_option maxRecDepth 100000 in
theorem C_X7_thaw (α : Nat → Nat) (p1 : Int32) (σ : Hp) : Ct yX7_thaw cX7_thaw 4 none 1 21 α [.ref (α (55)), .int p1] σ (kSV (F_X7_thaw p1 σ)) := ct_of_V (own := RX7) rfl (by decide +kernel) (Nat.le_of_ble_eq_true rfl) fun _ hO hR => T_X7_thaw hO hR p1 σ
