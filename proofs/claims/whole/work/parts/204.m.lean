/-! X6_write -/
noncomputable def F_X6_write  (p1 : Int32) (p2 : Int32) (p3 : Int32) (p4 : Int32) (p5 : Int32) (p6 : Int32) (σ : Hp) : Option (Int32 × Hp) :=
  if (F_X5_hasSquare 0 p2 σ) = true then
  if (F_X6_arePair p3 p4 σ) = true then
  if (F_X6_isKind p1 σ) = true then
  if (F_X6_within p5 (1 : Int32) (99 : Int32) σ) = true then
  if (F_X6_within p6 (1 : Int32) (9 : Int32) σ) = true then
  if inb p2 16 = true then
  if (F_X0_depthOf p1 p6 σ) ≤ (σ.1 33 (Int32.toNatClampNeg p2)) then
  if (σ.1 30 4) < (10 : Int32) then
  lt (σ.1 30 4) fun v2 =>
  if inb v2 10 = true then
  lt (F_X0_concern (10 * 0 + (Int32.toNatClampNeg v2)) p1 p2 p3 p4 σ) fun q4 =>
  lt (F_X0_cutIn (10 * 0 + (Int32.toNatClampNeg v2)) p5 (F_X0_depthOf p1 p6 q4) q4) fun q5 =>
  lt (up q5 30 4 (v2 + (1 : Int32))) fun h6 =>
  some (v2, h6)
  else none
  else
  some (((-104) : Int32), σ)
  else
  some (((-103) : Int32), σ)
  else none
  else
  some (((-102) : Int32), σ)
  else
  some (((-102) : Int32), σ)
  else
  some (((-102) : Int32), σ)
  else
  some (((-101) : Int32), σ)
  else
  some (((-101) : Int32), σ)
set_option maxHeartbeats 4000000 in
set_option maxRecDepth 100000 in
theorem T_X6_write {G : Gm} {α : Nat → Nat} (hO : Ok G α cX6_write 9 RX6 3 63) (hR : Rt G α (some .int)) (p1 : Int32) (p2 : Int32) (p3 : Int32) (p4 : Int32) (p5 : Int32) (p6 : Int32) (σ : Hp) : V G α 9 (kSI) 0 [(0, .ref (α (54))), (1, .int p1), (2, .int p2), (3, .int p3), (4, .int p4), (5, .int p5), (6, .int p6)] [] σ (F_X6_write p1 p2 p3 p4 p5 p6 σ) := by
  rw [F_X6_write]
  refine V_aload_n hO 0 dX6_write_0 rfl rfl ?_
  refine V_get hO (v := .ref (α (30))) fl_X6_10 (by decide) (fun _ _ => ce_54) rfl dX6_write_1 ?_
  refine V_iload_n hO 2 dX6_write_4 rfl rfl ?_
  refine V_callV hO ml_X6_66 (C_X5_hasSquare α (t := 0) (by decide) p2 σ) (by decide) (fun _ _ => ce_town (t := 0) (by decide)) rfl rfl (rest := []) rfl rfl (Nat.le_of_ble_eq_true rfl) ⟨Nat.le_of_ble_eq_true rfl, Nat.le_of_ble_eq_true rfl⟩ dX6_write_5 (kc_Z ?_)
  refine V_ifeqZ hO 20 dX6_write_8 (by decide) ?_ ?_
  · refine V_bipush hO (-101) dX6_write_20 (by decide) ?_
    exact V_iret hO hR rfl dX6_write_22
  · refine V_iload_n hO 3 dX6_write_11 rfl rfl ?_
    refine V_iload hO 4 dX6_write_12 rfl ?_
    refine V_callS hO ml_X6_84 (C_X6_arePair α p3 p4 σ) (rest := []) rfl rfl (Nat.le_of_ble_eq_true rfl) ⟨Nat.le_of_ble_eq_true rfl, Nat.le_of_ble_eq_true rfl⟩ dX6_write_14 (kc_Z ?_)
    refine V_ifneZ hO 23 dX6_write_17 (by decide) ?_ ?_
    · refine V_iload_n hO 1 dX6_write_23 rfl rfl ?_
      refine V_callS hO ml_X6_88 (C_X6_isKind α p1 σ) (rest := []) rfl rfl (Nat.le_of_ble_eq_true rfl) ⟨Nat.le_of_ble_eq_true rfl, Nat.le_of_ble_eq_true rfl⟩ dX6_write_24 (kc_Z ?_)
      refine V_ifeqZ hO 52 dX6_write_27 (by decide) ?_ ?_
      · refine V_bipush hO (-102) dX6_write_52 (by decide) ?_
        exact V_iret hO hR rfl dX6_write_54
      · refine V_iload hO 5 dX6_write_30 rfl ?_
        refine V_iconst hO 1 dX6_write_32 (by decide) ?_
        refine V_bipush hO 99 dX6_write_33 (by decide) ?_
        refine V_callS hO ml_X6_54 (C_X6_within α p5 (1 : Int32) (99 : Int32) σ) (rest := []) rfl rfl (Nat.le_of_ble_eq_true rfl) ⟨Nat.le_of_ble_eq_true rfl, Nat.le_of_ble_eq_true rfl⟩ dX6_write_35 (kc_Z ?_)
        refine V_ifeqZ hO 52 dX6_write_38 (by decide) ?_ ?_
        · refine V_bipush hO (-102) dX6_write_52 (by decide) ?_
          exact V_iret hO hR rfl dX6_write_54
        · refine V_iload hO 6 dX6_write_41 rfl ?_
          refine V_iconst hO 1 dX6_write_43 (by decide) ?_
          refine V_bipush hO 9 dX6_write_44 (by decide) ?_
          refine V_callS hO ml_X6_54 (C_X6_within α p6 (1 : Int32) (9 : Int32) σ) (rest := []) rfl rfl (Nat.le_of_ble_eq_true rfl) ⟨Nat.le_of_ble_eq_true rfl, Nat.le_of_ble_eq_true rfl⟩ dX6_write_46 (kc_Z ?_)
          refine V_ifneZ hO 55 dX6_write_49 (by decide) ?_ ?_
          · refine V_aload_n hO 0 dX6_write_55 rfl rfl ?_
            refine V_get hO (v := .ref (α (30))) fl_X6_10 (by decide) (fun _ _ => ce_54) rfl dX6_write_56 ?_
            refine V_get hO (v := .ref (α (33))) fl_X6_74 (by decide) (fun _ _ => ce_town (t := 0) (by decide)) rfl dX6_write_59 ?_
            refine V_iload_n hO 2 dX6_write_62 rfl rfl ?_
            refine V_chk rfl fun c1 => ?_
            refine V_iald hO (by decide) (fun _ _ => ce_ice (t := 0) (by decide)) (inb_in c1) dX6_write_63 ?_
            refine V_iload_n hO 1 dX6_write_64 rfl rfl ?_
            refine V_iload hO 6 dX6_write_65 rfl ?_
            refine V_callS hO ml_X6_91 (C_X0_depthOf α p1 p6 σ) (rest := [.int (σ.1 33 (Int32.toNatClampNeg p2))]) rfl rfl (Nat.le_of_ble_eq_true rfl) ⟨Nat.le_of_ble_eq_true rfl, Nat.le_of_ble_eq_true rfl⟩ dX6_write_67 (kc_I ?_)
            refine V_icmp_ge hO 76 dX6_write_70 (by decide) ?_ ?_
            · refine V_aload_n hO 0 dX6_write_76 rfl rfl ?_
              refine V_get hO (v := .ref (α (30))) fl_X6_10 (by decide) (fun _ _ => ce_54) rfl dX6_write_77 ?_
              refine V_get hO (v := .int (σ.1 30 4)) fl_X6_97 (by decide) (fun _ _ => ce_town (t := 0) (by decide)) rfl dX6_write_80 ?_
              refine V_bipush hO 10 dX6_write_83 (by decide) ?_
              refine V_icmp_lt hO 91 dX6_write_85 (by decide) ?_ ?_
              · refine V_aload_n hO 0 dX6_write_91 rfl rfl ?_
                refine V_get hO (v := .ref (α (30))) fl_X6_10 (by decide) (fun _ _ => ce_54) rfl dX6_write_92 ?_
                refine V_get hO (v := .int (σ.1 30 4)) fl_X6_97 (by decide) (fun _ _ => ce_town (t := 0) (by decide)) rfl dX6_write_95 ?_
                refine V_istoreN hO (ls2 := fun v2 => [(7, .int v2), (0, .ref (α (54))), (1, .int p1), (2, .int p2), (3, .int p3), (4, .int p4), (5, .int p5), (6, .int p6)]) dX6_write_98 (by decide) (fun _ => rfl) (fun v2 => ?_)
                refine V_aload_n hO 1 dX6_write_100 rfl rfl ?_
                refine V_get hO (v := .ref (α (30))) fl_X6_10 (by decide) (fun _ _ => ce_54) rfl dX6_write_101 ?_
                refine V_get hO (v := .ref (α (36))) fl_X6_100 (by decide) (fun _ _ => ce_town (t := 0) (by decide)) rfl dX6_write_104 ?_
                refine V_iload hO 0 dX6_write_107 rfl ?_
                refine V_chk rfl fun c3 => ?_
                refine V_aald hO (by decide) (fun _ _ => ce_da (t := 0) (by decide)) (inb_in c3) dX6_write_109 ?_
                refine V_astore hO (ls2 := [(8, .ref (α ((10 * 0 + (Int32.toNatClampNeg v2))))), (7, .int v2), (0, .ref (α (54))), (1, .int p1), (2, .int p2), (3, .int p3), (4, .int p4), (5, .int p5), (6, .int p6)]) dX6_write_110 (by decide) rfl ?_
                refine V_aload hO 0 dX6_write_112 rfl ?_
                refine V_iload_n hO 3 dX6_write_114 rfl rfl ?_
                refine V_iload_n hO 4 dX6_write_115 rfl rfl ?_
                refine V_iload_n hO 5 dX6_write_116 rfl rfl ?_
                refine V_iload hO 6 dX6_write_117 rfl ?_
                refine V_callV hO ml_X6_104 (C_X0_concern α (c := (10 * 0 + (Int32.toNatClampNeg v2))) (cd_lt (t := 0) (by decide) (inb_in c3)) p1 p2 p3 p4 σ) (Nat.lt_trans (cd_lt (t := 0) (by decide) (inb_in c3)) (by decide)) (fun _ _ => ce_debt (cd_lt (t := 0) (by decide) (inb_in c3))) rfl rfl (rest := []) rfl rfl (Nat.le_of_ble_eq_true rfl) ⟨Nat.le_of_ble_eq_true rfl, Nat.le_of_ble_eq_true rfl⟩ dX6_write_119 (kc_TV fun q4 => ?_)
                refine V_aload hO 0 dX6_write_122 rfl ?_
                refine V_iload hO 7 dX6_write_124 rfl ?_
                refine V_iload_n hO 3 dX6_write_126 rfl rfl ?_
                refine V_iload hO 8 dX6_write_127 rfl ?_
                refine V_callS hO ml_X6_91 (C_X0_depthOf α p1 p6 q4) (rest := [.int p5, .ref (α ((10 * 0 + (Int32.toNatClampNeg v2))))]) rfl rfl (Nat.le_of_ble_eq_true rfl) ⟨Nat.le_of_ble_eq_true rfl, Nat.le_of_ble_eq_true rfl⟩ dX6_write_129 (kc_I ?_)
                refine V_callV hO ml_X6_108 (C_X0_cutIn α (c := (10 * 0 + (Int32.toNatClampNeg v2))) (cd_lt (t := 0) (by decide) (inb_in c3)) p5 (F_X0_depthOf p1 p6 q4) q4) (Nat.lt_trans (cd_lt (t := 0) (by decide) (inb_in c3)) (by decide)) (fun _ _ => ce_debt (cd_lt (t := 0) (by decide) (inb_in c3))) rfl rfl (rest := []) rfl rfl (Nat.le_of_ble_eq_true rfl) ⟨Nat.le_of_ble_eq_true rfl, Nat.le_of_ble_eq_true rfl⟩ dX6_write_132 (kc_TV fun q5 => ?_)
                refine V_aload_n hO 2 dX6_write_135 rfl rfl ?_
                refine V_get hO (v := .ref (α (30))) fl_X6_10 (by decide) (fun _ _ => ce_54) rfl dX6_write_136 ?_
                refine V_iload hO 1 dX6_write_139 rfl ?_
                refine V_iconst hO 1 dX6_write_141 (by decide) ?_
                refine V_iadd hO dX6_write_142 ?_
                refine V_puti hO fp_X6_97 (by decide) (fun _ _ => ce_town (t := 0) (by decide)) (Nat.le_of_ble_eq_true rfl) (fun _ _ => pe_town4 (t := 0) (by decide)) dX6_write_143 (V_name fun h6 => ?_)
                refine V_iload hO 1 dX6_write_146 rfl ?_
                exact V_iret hO hR rfl dX6_write_148
              · refine V_bipush hO (-104) dX6_write_88 (by decide) ?_
                exact V_iret hO hR rfl dX6_write_90
            · refine V_bipush hO (-103) dX6_write_73 (by decide) ?_
              exact V_iret hO hR rfl dX6_write_75
          · refine V_bipush hO (-102) dX6_write_52 (by decide) ?_
            exact V_iret hO hR rfl dX6_write_54
    · refine V_bipush hO (-101) dX6_write_20 (by decide) ?_
      exact V_iret hO hR rfl dX6_write_22
set_option maxHeartbeats 4000000 in
set_option maxRecDepth 100000 in
theorem C_X6_write (α : Nat → Nat) (p1 : Int32) (p2 : Int32) (p3 : Int32) (p4 : Int32) (p5 : Int32) (p6 : Int32) (σ : Hp) : Ct yX6_write cX6_write 9 (some .int) 3 63 α [.ref (α (54)), .int p1, .int p2, .int p3, .int p4, .int p5, .int p6] σ (kSI (F_X6_write p1 p2 p3 p4 p5 p6 σ)) := ct_of_V (own := RX6) rfl (by decide +kernel) (Nat.le_of_ble_eq_true rfl) fun _ hO hR => T_X6_write hO hR p1 p2 p3 p4 p5 p6 σ
/-! X6_conditionOf -/
noncomputable def F_X6_conditionOf (d : Nat) (σ : Hp) : Int32 :=
  if (σ.1 d 6) = 0 then
  if (F_X0_isThere d σ) = true then
  if (σ.1 30 2) ≤ 0 then
  (2 : Int32)
  else
  (1 : Int32)
  else
  (0 : Int32)
  else
  (3 : Int32)
set_option maxHeartbeats 4000000 in
set_option maxRecDepth 100000 in
theorem T_X6_conditionOf {G : Gm} {α : Nat → Nat} {d : Nat} (hO : Ok G α cX6_conditionOf 2 RX6 1 20) (hR : Rt G α (some .int)) (hd : d < 30) (σ : Hp) : V G α 2 (kI σ) 0 [(0, .ref (α (54))), (1, .ref (α (d)))] [] σ (F_X6_conditionOf d σ) := by
  rw [F_X6_conditionOf]
  refine V_aload_n hO 1 dX6_conditionOf_0 rfl rfl ?_
  refine V_get hO (v := .int (σ.1 d 6)) fl_X6_139 (Nat.lt_trans hd (by decide)) (fun _ _ => ce_debt hd) rfl dX6_conditionOf_1 ?_
  refine V_if_eq hO 9 dX6_conditionOf_4 (by decide) ?_ ?_
  · refine V_aload_n hO 1 dX6_conditionOf_9 rfl rfl ?_
    refine V_callV hO ml_X6_142 (C_X0_isThere α (c := d) hd σ) (Nat.lt_trans hd (by decide)) (fun _ _ => ce_debt hd) rfl rfl (rest := []) rfl rfl (Nat.le_of_ble_eq_true rfl) ⟨Nat.le_of_ble_eq_true rfl, Nat.le_of_ble_eq_true rfl⟩ dX6_conditionOf_10 (kc_Z ?_)
    refine V_ifneZ hO 18 dX6_conditionOf_13 (by decide) ?_ ?_
    · refine V_aload_n hO 0 dX6_conditionOf_18 rfl rfl ?_
      refine V_get hO (v := .ref (α (30))) fl_X6_10 (by decide) (fun _ _ => ce_54) rfl dX6_conditionOf_19 ?_
      refine V_get hO (v := .int (σ.1 30 2)) fl_X6_78 (by decide) (fun _ _ => ce_town (t := 0) (by decide)) rfl dX6_conditionOf_22 ?_
      refine V_if_le hO 32 dX6_conditionOf_25 (by decide) ?_ ?_
      · refine V_iconst hO 2 dX6_conditionOf_32 (by decide) ?_
        exact V_iret hO hR rfl dX6_conditionOf_33
      · refine V_iconst hO 1 dX6_conditionOf_28 (by decide) ?_
        refine V_goto hO 33 dX6_conditionOf_29 (by decide) ?_
        exact V_iret hO hR rfl dX6_conditionOf_33
    · refine V_iconst hO 0 dX6_conditionOf_16 (by decide) ?_
      exact V_iret hO hR rfl dX6_conditionOf_17
  · refine V_iconst hO 3 dX6_conditionOf_7 (by decide) ?_
    exact V_iret hO hR rfl dX6_conditionOf_8
set_option maxHeartbeats 4000000 in
set_option maxRecDepth 100000 in
theorem C_X6_conditionOf (α : Nat → Nat) {d : Nat} (hd : d < 30) (σ : Hp) : Ct yX6_conditionOf cX6_conditionOf 2 (some .int) 1 20 α [.ref (α (54)), .ref (α (d))] σ (kI σ (F_X6_conditionOf d σ)) := ct_of_V (own := RX6) rfl (by decide +kernel) (Nat.le_of_ble_eq_true rfl) fun _ hO hR => T_X6_conditionOf hO hR hd σ
/-! X6_about -/
noncomputable def F_X6_about  (p1 : Int32) (p2 : Int32) (σ : Hp) : Option Int32 :=
  if (F_X5_hasDebt 0 p1 σ) = true then
  if inb p1 10 = true then
  if p2 = 0 then
  some (σ.1 ((10 * 0 + (Int32.toNatClampNeg p1))) 0)
  else if p2 = 1 then
  some (σ.1 ((10 * 0 + (Int32.toNatClampNeg p1))) 1)
  else if p2 = 2 then
  some (σ.1 ((10 * 0 + (Int32.toNatClampNeg p1))) 2)
  else if p2 = 3 then
  some (σ.1 ((10 * 0 + (Int32.toNatClampNeg p1))) 3)
  else if p2 = 4 then
  some (σ.1 ((10 * 0 + (Int32.toNatClampNeg p1))) 4)
  else if p2 = 5 then
  some (σ.1 ((10 * 0 + (Int32.toNatClampNeg p1))) 5)
  else if p2 = 6 then
  (F_X5_worthOf 0 p1 σ).bind fun v14 =>
  some v14
  else if p2 = 7 then
  some (F_X6_conditionOf (10 * 0 + (Int32.toNatClampNeg p1)) σ)
  else 
  some ((-102) : Int32)
  else none
  else
  some ((-101) : Int32)
set_option maxHeartbeats 4000000 in
set_option maxRecDepth 100000 in
theorem T_X6_about {G : Gm} {α : Nat → Nat} (hO : Ok G α cX6_about 4 RX6 3 64) (hR : Rt G α (some .int)) (p1 : Int32) (p2 : Int32) (σ : Hp) : V G α 4 (kOI σ) 0 [(0, .ref (α (54))), (1, .int p1), (2, .int p2)] [] σ (F_X6_about p1 p2 σ) := by
  rw [F_X6_about]
  refine V_aload_n hO 0 dX6_about_0 rfl rfl ?_
  refine V_get hO (v := .ref (α (30))) fl_X6_10 (by decide) (fun _ _ => ce_54) rfl dX6_about_1 ?_
  refine V_iload_n hO 1 dX6_about_4 rfl rfl ?_
  refine V_callV hO ml_X6_111 (C_X5_hasDebt α (t := 0) (by decide) p1 σ) (by decide) (fun _ _ => ce_town (t := 0) (by decide)) rfl rfl (rest := []) rfl rfl (Nat.le_of_ble_eq_true rfl) ⟨Nat.le_of_ble_eq_true rfl, Nat.le_of_ble_eq_true rfl⟩ dX6_about_5 (kc_Z ?_)
  refine V_ifneZ hO 14 dX6_about_8 (by decide) ?_ ?_
  · refine V_aload_n hO 0 dX6_about_14 rfl rfl ?_
    refine V_get hO (v := .ref (α (30))) fl_X6_10 (by decide) (fun _ _ => ce_54) rfl dX6_about_15 ?_
    refine V_get hO (v := .ref (α (36))) fl_X6_100 (by decide) (fun _ _ => ce_town (t := 0) (by decide)) rfl dX6_about_18 ?_
    refine V_iload_n hO 1 dX6_about_21 rfl rfl ?_
    refine V_chk rfl fun c1 => ?_
    refine V_aald hO (by decide) (fun _ _ => ce_da (t := 0) (by decide)) (inb_in c1) dX6_about_22 ?_
    refine V_astore_n hO (ls2 := [(3, .ref (α ((10 * 0 + (Int32.toNatClampNeg p1))))), (0, .ref (α (54))), (1, .int p1), (2, .int p2)]) dX6_about_23 rfl (by decide) rfl ?_
    refine V_iload_n hO 3 dX6_about_24 rfl rfl ?_
    refine V_case (fun c2 => ?_) (fun n3 => ?_)
    · refine V_tsIn hO (off := 47) 72 dX6_about_25 (by rw [c2]; decide) (by rw [c2]; decide) (by rw [c2]; first | done | rfl | decide) (by decide) ?_
      refine V_aload_n hO 0 dX6_about_72 rfl rfl ?_
      refine V_get hO (v := .int (σ.1 ((10 * 0 + (Int32.toNatClampNeg p1))) 0)) fl_X6_114 (Nat.lt_trans (cd_lt (t := 0) (by decide) (inb_in c1)) (by decide)) (fun _ _ => ce_debt (cd_lt (t := 0) (by decide) (inb_in c1))) rfl dX6_about_73 ?_
      exact V_iret hO hR rfl dX6_about_76
    refine V_case (fun c4 => ?_) (fun n5 => ?_)
    · refine V_tsIn hO (off := 52) 77 dX6_about_25 (by rw [c4]; decide) (by rw [c4]; decide) (by rw [c4]; first | done | rfl | decide) (by decide) ?_
      refine V_aload_n hO 0 dX6_about_77 rfl rfl ?_
      refine V_get hO (v := .int (σ.1 ((10 * 0 + (Int32.toNatClampNeg p1))) 1)) fl_X6_117 (Nat.lt_trans (cd_lt (t := 0) (by decide) (inb_in c1)) (by decide)) (fun _ _ => ce_debt (cd_lt (t := 0) (by decide) (inb_in c1))) rfl dX6_about_78 ?_
      exact V_iret hO hR rfl dX6_about_81
    refine V_case (fun c6 => ?_) (fun n7 => ?_)
    · refine V_tsIn hO (off := 57) 82 dX6_about_25 (by rw [c6]; decide) (by rw [c6]; decide) (by rw [c6]; first | done | rfl | decide) (by decide) ?_
      refine V_aload_n hO 0 dX6_about_82 rfl rfl ?_
      refine V_get hO (v := .int (σ.1 ((10 * 0 + (Int32.toNatClampNeg p1))) 2)) fl_X6_120 (Nat.lt_trans (cd_lt (t := 0) (by decide) (inb_in c1)) (by decide)) (fun _ _ => ce_debt (cd_lt (t := 0) (by decide) (inb_in c1))) rfl dX6_about_83 ?_
      exact V_iret hO hR rfl dX6_about_86
    refine V_case (fun c8 => ?_) (fun n9 => ?_)
    · refine V_tsIn hO (off := 62) 87 dX6_about_25 (by rw [c8]; decide) (by rw [c8]; decide) (by rw [c8]; first | done | rfl | decide) (by decide) ?_
      refine V_aload_n hO 0 dX6_about_87 rfl rfl ?_
      refine V_get hO (v := .int (σ.1 ((10 * 0 + (Int32.toNatClampNeg p1))) 3)) fl_X6_123 (Nat.lt_trans (cd_lt (t := 0) (by decide) (inb_in c1)) (by decide)) (fun _ _ => ce_debt (cd_lt (t := 0) (by decide) (inb_in c1))) rfl dX6_about_88 ?_
      exact V_iret hO hR rfl dX6_about_91
    refine V_case (fun c10 => ?_) (fun n11 => ?_)
    · refine V_tsIn hO (off := 67) 92 dX6_about_25 (by rw [c10]; decide) (by rw [c10]; decide) (by rw [c10]; first | done | rfl | decide) (by decide) ?_
      refine V_aload_n hO 0 dX6_about_92 rfl rfl ?_
      refine V_get hO (v := .int (σ.1 ((10 * 0 + (Int32.toNatClampNeg p1))) 4)) fl_X6_126 (Nat.lt_trans (cd_lt (t := 0) (by decide) (inb_in c1)) (by decide)) (fun _ _ => ce_debt (cd_lt (t := 0) (by decide) (inb_in c1))) rfl dX6_about_93 ?_
      exact V_iret hO hR rfl dX6_about_96
    refine V_case (fun c12 => ?_) (fun n13 => ?_)
    · refine V_tsIn hO (off := 72) 97 dX6_about_25 (by rw [c12]; decide) (by rw [c12]; decide) (by rw [c12]; first | done | rfl | decide) (by decide) ?_
      refine V_aload_n hO 0 dX6_about_97 rfl rfl ?_
      refine V_get hO (v := .int (σ.1 ((10 * 0 + (Int32.toNatClampNeg p1))) 5)) fl_X6_129 (Nat.lt_trans (cd_lt (t := 0) (by decide) (inb_in c1)) (by decide)) (fun _ _ => ce_debt (cd_lt (t := 0) (by decide) (inb_in c1))) rfl dX6_about_98 ?_
      exact V_iret hO hR rfl dX6_about_101
    refine V_case (fun c15 => ?_) (fun n16 => ?_)
    · refine V_tsIn hO (off := 77) 102 dX6_about_25 (by rw [c15]; decide) (by rw [c15]; decide) (by rw [c15]; first | done | rfl | decide) (by decide) ?_
      refine V_aload_n hO 1 dX6_about_102 rfl rfl ?_
      refine V_get hO (v := .ref (α (30))) fl_X6_10 (by decide) (fun _ _ => ce_54) rfl dX6_about_103 ?_
      refine V_iload_n hO 2 dX6_about_106 rfl rfl ?_
      refine V_callV hO ml_X6_132 (C_X5_worthOf α (t := 0) (by decide) p1 σ) (by decide) (fun _ _ => ce_town (t := 0) (by decide)) rfl rfl (rest := []) rfl rfl (Nat.le_of_ble_eq_true rfl) ⟨Nat.le_of_ble_eq_true rfl, Nat.le_of_ble_eq_true rfl⟩ dX6_about_107 (kc_OI rfl fun v14 => ?_)
      exact V_iret hO hR rfl dX6_about_110
    refine V_case (fun c17 => ?_) (fun n18 => ?_)
    · refine V_tsIn hO (off := 86) 111 dX6_about_25 (by rw [c17]; decide) (by rw [c17]; decide) (by rw [c17]; first | done | rfl | decide) (by decide) ?_
      refine V_aload_n hO 1 dX6_about_111 rfl rfl ?_
      refine V_aload_n hO 0 dX6_about_112 rfl rfl ?_
      refine V_callV hO ml_X6_135 (C_X6_conditionOf α (d := (10 * 0 + (Int32.toNatClampNeg p1))) (cd_lt (t := 0) (by decide) (inb_in c1)) σ) (by decide) (fun _ _ => ce_54) rfl rfl (rest := []) rfl rfl (Nat.le_of_ble_eq_true rfl) ⟨Nat.le_of_ble_eq_true rfl, Nat.le_of_ble_eq_true rfl⟩ dX6_about_113 (kc_I ?_)
      exact V_iret hO hR rfl dX6_about_116
    refine V_tsOut hO 117 dX6_about_25 (by have h9 := ts_out 8 (p9_ts (lt_s (lt_s (lt_s (lt_s (lt_s (lt_s (lt_s (lt_s lt_0 n3) n5) n7) n9) n11) n13) n16) n18)) (by decide); omega) (by decide) ?_
    refine V_bipush hO (-102) dX6_about_117 (by decide) ?_
    exact V_iret hO hR rfl dX6_about_119
  · refine V_bipush hO (-101) dX6_about_11 (by decide) ?_
    exact V_iret hO hR rfl dX6_about_13
set_option maxHeartbeats 4000000 in
set_option maxRecDepth 100000 in
theorem C_X6_about (α : Nat → Nat) (p1 : Int32) (p2 : Int32) (σ : Hp) : Ct yX6_about cX6_about 4 (some .int) 3 64 α [.ref (α (54)), .int p1, .int p2] σ (kOI σ (F_X6_about p1 p2 σ)) := ct_of_V (own := RX6) rfl (by decide +kernel) (Nat.le_of_ble_eq_true rfl) fun _ hO hR => T_X6_about hO hR p1 p2 σ
/-! X6_as -/
noncomputable def F_X6_as  (p1 : Int32) (p2 : Int32) (σ : Hp) : Option Int32 :=
  if (F_X5_hasDebt 0 p1 σ) = true then
  if (F_X6_isKind p2 σ) = true then
  if inb p1 10 = true then
  if (F_X0_isOfKind (σ.1 ((10 * 0 + (Int32.toNatClampNeg p1))) 0) p2 σ) = true then
  some p1
  else
  some ((-1) : Int32)
  else none
  else
  some ((-102) : Int32)
  else
  some ((-101) : Int32)
set_option maxHeartbeats 4000000 in
set_option maxRecDepth 100000 in
theorem T_X6_as {G : Gm} {α : Nat → Nat} (hO : Ok G α cX6_as 3 RX6 2 42) (hR : Rt G α (some .int)) (p1 : Int32) (p2 : Int32) (σ : Hp) : V G α 3 (kOI σ) 0 [(0, .ref (α (54))), (1, .int p1), (2, .int p2)] [] σ (F_X6_as p1 p2 σ) := by
  rw [F_X6_as]
  refine V_aload_n hO 0 dX6_as_0 rfl rfl ?_
  refine V_get hO (v := .ref (α (30))) fl_X6_10 (by decide) (fun _ _ => ce_54) rfl dX6_as_1 ?_
  refine V_iload_n hO 1 dX6_as_4 rfl rfl ?_
  refine V_callV hO ml_X6_111 (C_X5_hasDebt α (t := 0) (by decide) p1 σ) (by decide) (fun _ _ => ce_town (t := 0) (by decide)) rfl rfl (rest := []) rfl rfl (Nat.le_of_ble_eq_true rfl) ⟨Nat.le_of_ble_eq_true rfl, Nat.le_of_ble_eq_true rfl⟩ dX6_as_5 (kc_Z ?_)
  refine V_ifneZ hO 14 dX6_as_8 (by decide) ?_ ?_
  · refine V_iload_n hO 2 dX6_as_14 rfl rfl ?_
    refine V_callS hO ml_X6_88 (C_X6_isKind α p2 σ) (rest := []) rfl rfl (Nat.le_of_ble_eq_true rfl) ⟨Nat.le_of_ble_eq_true rfl, Nat.le_of_ble_eq_true rfl⟩ dX6_as_15 (kc_Z ?_)
    refine V_ifneZ hO 24 dX6_as_18 (by decide) ?_ ?_
    · refine V_aload_n hO 0 dX6_as_24 rfl rfl ?_
      refine V_get hO (v := .ref (α (30))) fl_X6_10 (by decide) (fun _ _ => ce_54) rfl dX6_as_25 ?_
      refine V_get hO (v := .ref (α (36))) fl_X6_100 (by decide) (fun _ _ => ce_town (t := 0) (by decide)) rfl dX6_as_28 ?_
      refine V_iload_n hO 1 dX6_as_31 rfl rfl ?_
      refine V_chk rfl fun c1 => ?_
      refine V_aald hO (by decide) (fun _ _ => ce_da (t := 0) (by decide)) (inb_in c1) dX6_as_32 ?_
      refine V_get hO (v := .int (σ.1 ((10 * 0 + (Int32.toNatClampNeg p1))) 0)) fl_X6_114 (Nat.lt_trans (cd_lt (t := 0) (by decide) (inb_in c1)) (by decide)) (fun _ _ => ce_debt (cd_lt (t := 0) (by decide) (inb_in c1))) rfl dX6_as_33 ?_
      refine V_iload_n hO 2 dX6_as_36 rfl rfl ?_
      refine V_callS hO ml_X6_146 (C_X0_isOfKind α (σ.1 ((10 * 0 + (Int32.toNatClampNeg p1))) 0) p2 σ) (rest := []) rfl rfl (Nat.le_of_ble_eq_true rfl) ⟨Nat.le_of_ble_eq_true rfl, Nat.le_of_ble_eq_true rfl⟩ dX6_as_37 (kc_Z ?_)
      refine V_ifeqZ hO 47 dX6_as_40 (by decide) ?_ ?_
      · refine V_iconst hO (-1) dX6_as_47 (by decide) ?_
        exact V_iret hO hR rfl dX6_as_48
      · refine V_iload_n hO 1 dX6_as_43 rfl rfl ?_
        refine V_goto hO 48 dX6_as_44 (by decide) ?_
        exact V_iret hO hR rfl dX6_as_48
    · refine V_bipush hO (-102) dX6_as_21 (by decide) ?_
      exact V_iret hO hR rfl dX6_as_23
  · refine V_bipush hO (-101) dX6_as_11 (by decide) ?_
    exact V_iret hO hR rfl dX6_as_13
set_option maxHeartbeats 4000000 in
set_option maxRecDepth 100000 in
theorem C_X6_as (α : Nat → Nat) (p1 : Int32) (p2 : Int32) (σ : Hp) : Ct yX6_as cX6_as 3 (some .int) 2 42 α [.ref (α (54)), .int p1, .int p2] σ (kOI σ (F_X6_as p1 p2 σ)) := ct_of_V (own := RX6) rfl (by decide +kernel) (Nat.le_of_ble_eq_true rfl) fun _ hO hR => T_X6_as hO hR p1 p2 σ
/-! X6_saw -/
noncomputable def F_X6_saw  (p1 : Int32) (σ : Hp) : Option (Int32 × Hp) :=
  if (F_X5_hasDebt 0 p1 σ) = true then
  if inb p1 10 = true then
  if (F_X0_isThere (10 * 0 + (Int32.toNatClampNeg p1)) σ) = true then
  (F_X5_iceUnder 0 p1 σ).bind fun v2 =>
  if inb p1 10 = true then
  lt (F_X0_keepBlock (10 * 0 + (Int32.toNatClampNeg p1)) v2 σ) fun q4 =>
  some (v2, q4)
  else none
  else
  some (((-103) : Int32), σ)
  else none
  else
  some (((-101) : Int32), σ)
set_option maxHeartbeats 4000000 in
set_option maxRecDepth 100000 in
theorem T_X6_saw {G : Gm} {α : Nat → Nat} (hO : Ok G α cX6_saw 3 RX6 2 43) (hR : Rt G α (some .int)) (p1 : Int32) (σ : Hp) : V G α 3 (kSI) 0 [(0, .ref (α (54))), (1, .int p1)] [] σ (F_X6_saw p1 σ) := by
  rw [F_X6_saw]
  refine V_aload_n hO 0 dX6_saw_0 rfl rfl ?_
  refine V_get hO (v := .ref (α (30))) fl_X6_10 (by decide) (fun _ _ => ce_54) rfl dX6_saw_1 ?_
  refine V_iload_n hO 1 dX6_saw_4 rfl rfl ?_
  refine V_callV hO ml_X6_111 (C_X5_hasDebt α (t := 0) (by decide) p1 σ) (by decide) (fun _ _ => ce_town (t := 0) (by decide)) rfl rfl (rest := []) rfl rfl (Nat.le_of_ble_eq_true rfl) ⟨Nat.le_of_ble_eq_true rfl, Nat.le_of_ble_eq_true rfl⟩ dX6_saw_5 (kc_Z ?_)
  refine V_ifneZ hO 14 dX6_saw_8 (by decide) ?_ ?_
  · refine V_aload_n hO 0 dX6_saw_14 rfl rfl ?_
    refine V_get hO (v := .ref (α (30))) fl_X6_10 (by decide) (fun _ _ => ce_54) rfl dX6_saw_15 ?_
    refine V_get hO (v := .ref (α (36))) fl_X6_100 (by decide) (fun _ _ => ce_town (t := 0) (by decide)) rfl dX6_saw_18 ?_
    refine V_iload_n hO 1 dX6_saw_21 rfl rfl ?_
    refine V_chk rfl fun c1 => ?_
    refine V_aald hO (by decide) (fun _ _ => ce_da (t := 0) (by decide)) (inb_in c1) dX6_saw_22 ?_
    refine V_callV hO ml_X6_142 (C_X0_isThere α (c := (10 * 0 + (Int32.toNatClampNeg p1))) (cd_lt (t := 0) (by decide) (inb_in c1)) σ) (Nat.lt_trans (cd_lt (t := 0) (by decide) (inb_in c1)) (by decide)) (fun _ _ => ce_debt (cd_lt (t := 0) (by decide) (inb_in c1))) rfl rfl (rest := []) rfl rfl (Nat.le_of_ble_eq_true rfl) ⟨Nat.le_of_ble_eq_true rfl, Nat.le_of_ble_eq_true rfl⟩ dX6_saw_23 (kc_Z ?_)
    refine V_ifneZ hO 32 dX6_saw_26 (by decide) ?_ ?_
    · refine V_aload_n hO 0 dX6_saw_32 rfl rfl ?_
      refine V_get hO (v := .ref (α (30))) fl_X6_10 (by decide) (fun _ _ => ce_54) rfl dX6_saw_33 ?_
      refine V_iload_n hO 1 dX6_saw_36 rfl rfl ?_
      refine V_callV hO ml_X6_149 (C_X5_iceUnder α (t := 0) (by decide) p1 σ) (by decide) (fun _ _ => ce_town (t := 0) (by decide)) rfl rfl (rest := []) rfl rfl (Nat.le_of_ble_eq_true rfl) ⟨Nat.le_of_ble_eq_true rfl, Nat.le_of_ble_eq_true rfl⟩ dX6_saw_37 (kc_OI rfl fun v2 => ?_)
      refine V_istore_n hO (ls2 := [(2, .int v2), (0, .ref (α (54))), (1, .int p1)]) dX6_saw_40 rfl (by decide) rfl ?_
      refine V_aload_n hO 1 dX6_saw_41 rfl rfl ?_
      refine V_get hO (v := .ref (α (30))) fl_X6_10 (by decide) (fun _ _ => ce_54) rfl dX6_saw_42 ?_
      refine V_get hO (v := .ref (α (36))) fl_X6_100 (by decide) (fun _ _ => ce_town (t := 0) (by decide)) rfl dX6_saw_45 ?_
      refine V_iload_n hO 2 dX6_saw_48 rfl rfl ?_
      refine V_chk rfl fun c3 => ?_
      refine V_aald hO (by decide) (fun _ _ => ce_da (t := 0) (by decide)) (inb_in c3) dX6_saw_49 ?_
      refine V_iload_n hO 0 dX6_saw_50 rfl rfl ?_
      refine V_callV hO ml_X6_152 (C_X0_keepBlock α (c := (10 * 0 + (Int32.toNatClampNeg p1))) (cd_lt (t := 0) (by decide) (inb_in c1)) v2 σ) (Nat.lt_trans (cd_lt (t := 0) (by decide) (inb_in c1)) (by decide)) (fun _ _ => ce_debt (cd_lt (t := 0) (by decide) (inb_in c1))) rfl rfl (rest := []) rfl rfl (Nat.le_of_ble_eq_true rfl) ⟨Nat.le_of_ble_eq_true rfl, Nat.le_of_ble_eq_true rfl⟩ dX6_saw_51 (kc_TV fun q4 => ?_)
      refine V_iload_n hO 0 dX6_saw_54 rfl rfl ?_
      exact V_iret hO hR rfl dX6_saw_55
    · refine V_bipush hO (-103) dX6_saw_29 (by decide) ?_
      exact V_iret hO hR rfl dX6_saw_31
  · refine V_bipush hO (-101) dX6_saw_11 (by decide) ?_
    exact V_iret hO hR rfl dX6_saw_13
set_option maxHeartbeats 4000000 in
set_option maxRecDepth 100000 in
theorem C_X6_saw (α : Nat → Nat) (p1 : Int32) (σ : Hp) : Ct yX6_saw cX6_saw 3 (some .int) 2 43 α [.ref (α (54)), .int p1] σ (kSI (F_X6_saw p1 σ)) := ct_of_V (own := RX6) rfl (by decide +kernel) (Nat.le_of_ble_eq_true rfl) fun _ hO hR => T_X6_saw hO hR p1 σ
/-! X6_letters -/
noncomputable def F_X6_letters  (p1 : Int64) (σ : Hp) : Option (Int32 × Hp) :=
  (F_X2_lettersIn p1 σ).bind fun v1 =>
  if 0 ≤ v1 then
  if ((σ.1 39 1) + v1) ≤ (24 : Int32) then
  (F_X2_append p1 v1 σ).bind fun q2 =>
  some ((q2.1 39 1), q2)
  else
  some (((-104) : Int32), σ)
  else
  some (((-102) : Int32), σ)
set_option maxHeartbeats 4000000 in
set_option maxRecDepth 100000 in
theorem T_X6_letters {G : Gm} {α : Nat → Nat} (hO : Ok G α cX6_letters 4 RX6 2 46) (hR : Rt G α (some .int)) (p1 : Int64) (σ : Hp) : V G α 4 (kSI) 0 [(0, .ref (α (54))), (1, .long p1)] [] σ (F_X6_letters p1 σ) := by
  rw [F_X6_letters]
  refine V_lload_n hO 1 dX6_letters_0 rfl rfl ?_
  refine V_callS hO ml_X6_156 (C_X2_lettersIn α p1 σ) (rest := []) rfl rfl (Nat.le_of_ble_eq_true rfl) ⟨Nat.le_of_ble_eq_true rfl, Nat.le_of_ble_eq_true rfl⟩ dX6_letters_1 (kc_OI rfl fun v1 => ?_)
  refine V_istore_n hO (ls2 := [(3, .int v1), (0, .ref (α (54))), (1, .long p1)]) dX6_letters_4 rfl (by decide) rfl ?_
  refine V_iload_n hO 0 dX6_letters_5 rfl rfl ?_
  refine V_if_ge hO 12 dX6_letters_6 (by decide) ?_ ?_
  · refine V_aload_n hO 1 dX6_letters_12 rfl rfl ?_
    refine V_get hO (v := .ref (α (39))) fl_X6_25 (by decide) (fun _ _ => ce_54) rfl dX6_letters_13 ?_
    refine V_get hO (v := .int (σ.1 39 1)) fl_X6_160 (by decide) (fun _ _ => ce_39) rfl dX6_letters_16 ?_
    refine V_iload_n hO 0 dX6_letters_19 rfl rfl ?_
    refine V_iadd hO dX6_letters_20 ?_
    refine V_bipush hO 24 dX6_letters_21 (by decide) ?_
    refine V_icmp_le hO 29 dX6_letters_23 (by decide) ?_ ?_
    · refine V_aload_n hO 1 dX6_letters_29 rfl rfl ?_
      refine V_get hO (v := .ref (α (39))) fl_X6_25 (by decide) (fun _ _ => ce_54) rfl dX6_letters_30 ?_
      refine V_lload_n hO 2 dX6_letters_33 rfl rfl ?_
      refine V_iload_n hO 0 dX6_letters_34 rfl rfl ?_
      refine V_callV hO ml_X6_163 (C_X2_append α p1 v1 σ) (by decide) (fun _ _ => ce_39) rfl rfl (rest := []) rfl rfl (Nat.le_of_ble_eq_true rfl) ⟨Nat.le_of_ble_eq_true rfl, Nat.le_of_ble_eq_true rfl⟩ dX6_letters_35 (kc_SV rfl fun q2 => ?_)
      refine V_aload_n hO 1 dX6_letters_38 rfl rfl ?_
      refine V_get hO (v := .ref (α (39))) fl_X6_25 (by decide) (fun _ _ => ce_54) rfl dX6_letters_39 ?_
      refine V_get hO (v := .int (q2.1 39 1)) fl_X6_160 (by decide) (fun _ _ => ce_39) rfl dX6_letters_42 ?_
      exact V_iret hO hR rfl dX6_letters_45
    · refine V_bipush hO (-104) dX6_letters_26 (by decide) ?_
      exact V_iret hO hR rfl dX6_letters_28
  · refine V_bipush hO (-102) dX6_letters_9 (by decide) ?_
    exact V_iret hO hR rfl dX6_letters_11
set_option maxHeartbeats 4000000 in
set_option maxRecDepth 100000 in
theorem C_X6_letters (α : Nat → Nat) (p1 : Int64) (σ : Hp) : Ct yX6_letters cX6_letters 4 (some .int) 2 46 α [.ref (α (54)), .long p1] σ (kSI (F_X6_letters p1 σ)) := ct_of_V (own := RX6) rfl (by decide +kernel) (Nat.le_of_ble_eq_true rfl) fun _ hO hR => T_X6_letters hO hR p1 σ
/-! X6_blank -/
noncomputable def F_X6_blank  (σ : Hp) : Int32 × Hp :=
  lt (σ.1 39 1) fun v1 =>
  lt (up σ 39 1 (0 : Int32)) fun h2 =>
  (v1, h2)
set_option maxHeartbeats 4000000 in
set_option maxRecDepth 100000 in
theorem T_X6_blank {G : Gm} {α : Nat → Nat} (hO : Ok G α cX6_blank 2 RX6 0 0) (hR : Rt G α (some .int)) (σ : Hp) : V G α 2 (kTI) 0 [(0, .ref (α (54)))] [] σ (F_X6_blank σ) := by
  rw [F_X6_blank]
  refine V_aload_n hO 0 dX6_blank_0 rfl rfl ?_
  refine V_get hO (v := .ref (α (39))) fl_X6_25 (by decide) (fun _ _ => ce_54) rfl dX6_blank_1 ?_
  refine V_get hO (v := .int (σ.1 39 1)) fl_X6_160 (by decide) (fun _ _ => ce_39) rfl dX6_blank_4 ?_
  refine V_istore_nN hO (ls2 := fun v1 => [(1, .int v1), (0, .ref (α (54)))]) dX6_blank_7 rfl (by decide) (fun _ => rfl) (fun v1 => ?_)
  refine V_aload_n hO 1 dX6_blank_8 rfl rfl ?_
  refine V_get hO (v := .ref (α (39))) fl_X6_25 (by decide) (fun _ _ => ce_54) rfl dX6_blank_9 ?_
  refine V_iconst hO 0 dX6_blank_12 (by decide) ?_
  refine V_puti hO fp_X6_160 (by decide) (fun _ _ => ce_39) (Nat.le_of_ble_eq_true rfl) (fun _ _ => pe_39_1) dX6_blank_13 (V_name fun h2 => ?_)
  refine V_iload_n hO 0 dX6_blank_16 rfl rfl ?_
  exact V_iret hO hR rfl dX6_blank_17
set_option maxHeartbeats 4000000 in
set_option maxRecDepth 100000 in
theorem C_X6_blank (α : Nat → Nat) (σ : Hp) : Ct yX6_blank cX6_blank 2 (some .int) 0 0 α [.ref (α (54))] σ (kTI (F_X6_blank σ)) := ct_of_V (own := RX6) rfl (by decide +kernel) (Nat.le_of_ble_eq_true rfl) fun _ hO hR => T_X6_blank hO hR σ
/-! X6_fault -/
noncomputable def F_X6_fault  (σ : Hp) : Option Int32 :=
  (F_X2_firstWrong σ).bind fun v1 =>
  some v1
set_option maxHeartbeats 4000000 in
set_option maxRecDepth 100000 in
theorem T_X6_fault {G : Gm} {α : Nat → Nat} (hO : Ok G α cX6_fault 1 RX6 2 44) (hR : Rt G α (some .int)) (σ : Hp) : V G α 1 (kOI σ) 0 [(0, .ref (α (54)))] [] σ (F_X6_fault σ) := by
  rw [F_X6_fault]
  refine V_aload_n hO 0 dX6_fault_0 rfl rfl ?_
  refine V_get hO (v := .ref (α (39))) fl_X6_25 (by decide) (fun _ _ => ce_54) rfl dX6_fault_1 ?_
  refine V_callV hO ml_X6_167 (C_X2_firstWrong α σ) (by decide) (fun _ _ => ce_39) rfl rfl (rest := []) rfl rfl (Nat.le_of_ble_eq_true rfl) ⟨Nat.le_of_ble_eq_true rfl, Nat.le_of_ble_eq_true rfl⟩ dX6_fault_4 (kc_OI rfl fun v1 => ?_)
  exact V_iret hO hR rfl dX6_fault_7
set_option maxHeartbeats 4000000 in
set_option maxRecDepth 100000 in
theorem C_X6_fault (α : Nat → Nat) (σ : Hp) : Ct yX6_fault cX6_fault 1 (some .int) 2 44 α [.ref (α (54))] σ (kOI σ (F_X6_fault σ)) := ct_of_V (own := RX6) rfl (by decide +kernel) (Nat.le_of_ble_eq_true rfl) fun _ hO hR => T_X6_fault hO hR σ
/-! X6_days -/
noncomputable def F_X6_days_78 (k17 : Int32 → Int32 → Hp → (Option (Int32 × Hp))) (w1 : Int32) (w2 : Int32) (h : Hp) : Option (Int32 × Hp) :=
  k17 w1 (w2 + 1) h
noncomputable def F_X6_days_17  : Nat → Int32 → Int32 → Hp → Option (Int32 × Hp)
  | 0, _, _, _ => none
  | n + 1, w1, w2, h =>
    if (h.1 39 1) ≤ w2 then
    lt (up h 39 1 (0 : Int32)) fun h1 =>
    some (w1, h1)
    else
    (F_X2_beginsDay w2 h).bind fun v2 =>
    if v2 = true then
    (F_X2_dayAt w2 h).bind fun v3 =>
    (F_X2_inchesAt w2 h).bind fun v4 =>
    (F_X5_passDay 0 v3 v4 h).bind fun q5 =>
    lt (w1 + q5.1) fun v6 =>
    lt (up q5.2 30 3 ((q5.2.1 30 3) + (1 : Int32))) fun h7 =>
    F_X6_days_78 (F_X6_days_17 n) v6 w2 h7
    else
    F_X6_days_78 (F_X6_days_17 n) w1 w2 h
noncomputable def F_X6_days  (σ : Hp) : Option (Int32 × Hp) :=
  (F_X2_isDays σ).bind fun v8 =>
  if v8 = true then
  F_X6_days_17 fuel (0 : Int32) (0 : Int32) σ
  else
  some (((-103) : Int32), σ)
set_option maxHeartbeats 4000000 in
set_option maxRecDepth 100000 in
theorem T_X6_days_78 {G : Gm} {α : Nat → Nat} (hO : Ok G α cX6_days 3 RX6 4 91) (hR : Rt G α (some .int)) (k17 : Int32 → Int32 → Hp → (Option (Int32 × Hp))) (hk17 : ∀ (w1 : Int32) (w2 : Int32) (h : Hp), V G α 3 (kSI) 17 [(0, .ref (α (54))), (1, .int w1), (2, .int w2)] [] h (k17 w1 w2 h)) : ∀ (w1 : Int32) (w2 : Int32) (h : Hp), V G α 3 (kSI) 78 [(0, .ref (α (54))), (1, .int w1), (2, .int w2)] [] h (F_X6_days_78 k17 w1 w2 h) := by
  intro w1 w2 h
  rw [F_X6_days_78]
  refine V_iinc hO (ls2 := [(2, .int (w2 + 1)), (0, .ref (α (54))), (1, .int w1)]) (z := 1) 2 dX6_days_78 rfl (by decide) (by decide) rfl ?_
  refine V_goto hO 17 dX6_days_81 (by decide) ?_
  exact V_sub [1, 2, 0] rfl (hk17 w1 (w2 + 1) h )
set_option maxHeartbeats 4000000 in
set_option maxRecDepth 100000 in
theorem T_X6_days_17 {G : Gm} {α : Nat → Nat} (hO : Ok G α cX6_days 3 RX6 4 91) (hR : Rt G α (some .int)) : ∀ (fuel : Nat) (w1 : Int32) (w2 : Int32) (h : Hp), V G α 3 (kSI) 17 [(0, .ref (α (54))), (1, .int w1), (2, .int w2)] [] h (F_X6_days_17 fuel w1 w2 h) := by
  intro fuel
  induction fuel with
  | zero => intro w1 w2 h; exact V_none rfl
  | succ n ih =>
    intro w1 w2 h
    rw [F_X6_days_17]
    refine V_iload_n hO 2 dX6_days_17 rfl rfl ?_
    refine V_aload_n hO 0 dX6_days_18 rfl rfl ?_
    refine V_get hO (v := .ref (α (39))) fl_X6_25 (by decide) (fun _ _ => ce_54) rfl dX6_days_19 ?_
    refine V_get hO (v := .int (h.1 39 1)) fl_X6_160 (by decide) (fun _ _ => ce_39) rfl dX6_days_22 ?_
    refine V_icmp_ge hO 84 dX6_days_25 (by decide) ?_ ?_
    · refine V_aload_n hO 0 dX6_days_84 rfl rfl ?_
      refine V_get hO (v := .ref (α (39))) fl_X6_25 (by decide) (fun _ _ => ce_54) rfl dX6_days_85 ?_
      refine V_iconst hO 0 dX6_days_88 (by decide) ?_
      refine V_puti hO fp_X6_160 (by decide) (fun _ _ => ce_39) (Nat.le_of_ble_eq_true rfl) (fun _ _ => pe_39_1) dX6_days_89 (V_name fun h1 => ?_)
      refine V_iload_n hO 1 dX6_days_92 rfl rfl ?_
      exact V_iret hO hR rfl dX6_days_93
    · refine V_aload_n hO 0 dX6_days_28 rfl rfl ?_
      refine V_get hO (v := .ref (α (39))) fl_X6_25 (by decide) (fun _ _ => ce_54) rfl dX6_days_29 ?_
      refine V_iload_n hO 2 dX6_days_32 rfl rfl ?_
      refine V_callV hO ml_X6_174 (C_X2_beginsDay α w2 h) (by decide) (fun _ _ => ce_39) rfl rfl (rest := []) rfl rfl (Nat.le_of_ble_eq_true rfl) ⟨Nat.le_of_ble_eq_true rfl, Nat.le_of_ble_eq_true rfl⟩ dX6_days_33 (kc_OZ rfl fun v2 => ?_)
      refine V_ifeqZ hO 78 dX6_days_36 (by decide) ?_ ?_
      · exact V_sub [0, 1, 2] rfl (T_X6_days_78 hO hR (F_X6_days_17 n) ih w1 w2 h )
      · refine V_iload_n hO 1 dX6_days_39 rfl rfl ?_
        refine V_aload_n hO 0 dX6_days_40 rfl rfl ?_
        refine V_get hO (v := .ref (α (30))) fl_X6_10 (by decide) (fun _ _ => ce_54) rfl dX6_days_41 ?_
        refine V_aload_n hO 0 dX6_days_44 rfl rfl ?_
        refine V_get hO (v := .ref (α (39))) fl_X6_25 (by decide) (fun _ _ => ce_54) rfl dX6_days_45 ?_
        refine V_iload_n hO 2 dX6_days_48 rfl rfl ?_
        refine V_callV hO ml_X6_177 (C_X2_dayAt α w2 h) (by decide) (fun _ _ => ce_39) rfl rfl (rest := [.ref (α (30)), .int w1]) rfl rfl (Nat.le_of_ble_eq_true rfl) ⟨Nat.le_of_ble_eq_true rfl, Nat.le_of_ble_eq_true rfl⟩ dX6_days_49 (kc_OI rfl fun v3 => ?_)
        refine V_aload_n hO 0 dX6_days_52 rfl rfl ?_
        refine V_get hO (v := .ref (α (39))) fl_X6_25 (by decide) (fun _ _ => ce_54) rfl dX6_days_53 ?_
        refine V_iload_n hO 2 dX6_days_56 rfl rfl ?_
        refine V_callV hO ml_X6_180 (C_X2_inchesAt α w2 h) (by decide) (fun _ _ => ce_39) rfl rfl (rest := [.int v3, .ref (α (30)), .int w1]) rfl rfl (Nat.le_of_ble_eq_true rfl) ⟨Nat.le_of_ble_eq_true rfl, Nat.le_of_ble_eq_true rfl⟩ dX6_days_57 (kc_OI rfl fun v4 => ?_)
        refine V_callV hO ml_X6_183 (C_X5_passDay α (t := 0) (by decide) v3 v4 h) (by decide) (fun _ _ => ce_town (t := 0) (by decide)) rfl rfl (rest := [.int w1]) rfl rfl (Nat.le_of_ble_eq_true rfl) ⟨Nat.le_of_ble_eq_true rfl, Nat.le_of_ble_eq_true rfl⟩ dX6_days_60 (kc_SI rfl fun q5 => ?_)
        refine V_iadd hO dX6_days_63 ?_
        refine V_istore_nN hO (ls2 := fun v6 => [(1, .int v6), (0, .ref (α (54))), (2, .int w2)]) dX6_days_64 rfl (by decide) (fun _ => rfl) (fun v6 => ?_)
        refine V_aload_n hO 1 dX6_days_65 rfl rfl ?_
        refine V_get hO (v := .ref (α (30))) fl_X6_10 (by decide) (fun _ _ => ce_54) rfl dX6_days_66 ?_
        refine V_dup hO dX6_days_69 rfl ?_
        refine V_get hO (v := .int (q5.2.1 30 3)) fl_X6_186 (by decide) (fun _ _ => ce_town (t := 0) (by decide)) rfl dX6_days_70 ?_
        refine V_iconst hO 1 dX6_days_73 (by decide) ?_
        refine V_iadd hO dX6_days_74 ?_
        refine V_puti hO fp_X6_186 (by decide) (fun _ _ => ce_town (t := 0) (by decide)) (Nat.le_of_ble_eq_true rfl) (fun _ _ => pe_town3 (t := 0) (by decide)) dX6_days_75 (V_name fun h7 => ?_)
        exact V_sub [1, 0, 2] rfl (T_X6_days_78 hO hR (F_X6_days_17 n) ih v6 w2 h7 )
set_option maxHeartbeats 4000000 in
set_option maxRecDepth 100000 in
theorem T_X6_days {G : Gm} {α : Nat → Nat} (hO : Ok G α cX6_days 3 RX6 4 91) (hR : Rt G α (some .int)) (σ : Hp) : V G α 3 (kSI) 0 [(0, .ref (α (54)))] [] σ (F_X6_days σ) := by
  rw [F_X6_days]
  refine V_aload_n hO 0 dX6_days_0 rfl rfl ?_
  refine V_get hO (v := .ref (α (39))) fl_X6_25 (by decide) (fun _ _ => ce_54) rfl dX6_days_1 ?_
  refine V_callV hO ml_X6_171 (C_X2_isDays α σ) (by decide) (fun _ _ => ce_39) rfl rfl (rest := []) rfl rfl (Nat.le_of_ble_eq_true rfl) ⟨Nat.le_of_ble_eq_true rfl, Nat.le_of_ble_eq_true rfl⟩ dX6_days_4 (kc_OZ rfl fun v8 => ?_)
  refine V_ifneZ hO 13 dX6_days_7 (by decide) ?_ ?_
  · refine V_iconst hO 0 dX6_days_13 (by decide) ?_
    refine V_istore_n hO (ls2 := [(1, .int 0), (0, .ref (α (54)))]) dX6_days_14 rfl (by decide) rfl ?_
    refine V_iconst hO 0 dX6_days_15 (by decide) ?_
    refine V_istore_n hO (ls2 := [(2, .int 0), (1, .int 0), (0, .ref (α (54)))]) dX6_days_16 rfl (by decide) rfl ?_
    exact V_sub [2, 1, 0] rfl (T_X6_days_17 hO hR fuel (0 : Int32) (0 : Int32) σ )
  · refine V_bipush hO (-103) dX6_days_10 (by decide) ?_
    exact V_iret hO hR rfl dX6_days_12
set_option maxHeartbeats 4000000 in
set_option maxRecDepth 100000 in
theorem C_X6_days (α : Nat → Nat) (σ : Hp) : Ct yX6_days cX6_days 3 (some .int) 4 91 α [.ref (α (54))] σ (kSI (F_X6_days σ)) := ct_of_V (own := RX6) rfl (by decide +kernel) (Nat.le_of_ble_eq_true rfl) fun _ hO hR => T_X6_days hO hR σ
/-! X6_needed -/
noncomputable def F_X6_needed_88 (σ : Hp) (k50 : Int32 → Int32 → Int32 → (Option Int32)) (w1 : Int32) (w3 : Int32) (w4 : Int32) : Option Int32 :=
  k50 w1 w3 (w4 + 1)
noncomputable def F_X6_needed_50 (σ : Hp) : Nat → Int32 → Int32 → Int32 → Option Int32
  | 0, _, _, _ => none
  | n + 1, w1, w3, w4 =>
    if (9 : Int32) < w4 then
    some ((-1) : Int32)
    else
    lt (F_X0_depthOf w1 w4 σ) fun v1 =>
    if w3 < v1 then
    F_X6_needed_88 σ (F_X6_needed_50 σ n) w1 w3 w4
    else
    (F_X2_outlasts w1 v1 w3 σ).bind fun v2 =>
    if v2 = true then
    some w4
    else
    F_X6_needed_88 σ (F_X6_needed_50 σ n) w1 w3 w4
noncomputable def F_X6_needed  (p1 : Int32) (p2 : Int32) (σ : Hp) : Option Int32 :=
  if (F_X5_hasSquare 0 p2 σ) = true then
  if (F_X6_isKind p1 σ) = true then
  (F_X2_isDays σ).bind fun v3 =>
  if v3 = true then
  if inb p2 16 = true then
  lt (σ.1 33 (Int32.toNatClampNeg p2)) fun v5 =>
  F_X6_needed_50 σ fuel p1 v5 (1 : Int32)
  else none
  else
  some ((-103) : Int32)
  else
  some ((-102) : Int32)
  else
  some ((-101) : Int32)
set_option maxHeartbeats 4000000 in
set_option maxRecDepth 100000 in
theorem T_X6_needed_88 {G : Gm} {α : Nat → Nat} (hO : Ok G α cX6_needed 6 RX6 3 71) (hR : Rt G α (some .int)) (σ : Hp) (k50 : Int32 → Int32 → Int32 → (Option Int32)) (hk50 : ∀ (w1 : Int32) (w3 : Int32) (w4 : Int32), V G α 6 (kOI σ) 50 [(0, .ref (α (54))), (1, .int w1), (3, .int w3), (4, .int w4)] [] σ (k50 w1 w3 w4)) : ∀ (w1 : Int32) (w3 : Int32) (w4 : Int32), V G α 6 (kOI σ) 88 [(0, .ref (α (54))), (1, .int w1), (3, .int w3), (4, .int w4)] [] σ (F_X6_needed_88 σ k50 w1 w3 w4) := by
  intro w1 w3 w4
  rw [F_X6_needed_88]
  refine V_iinc hO (ls2 := [(4, .int (w4 + 1)), (0, .ref (α (54))), (1, .int w1), (3, .int w3)]) (z := 1) 3 dX6_needed_88 rfl (by decide) (by decide) rfl ?_
  refine V_goto hO 50 dX6_needed_91 (by decide) ?_
  exact V_sub [1, 2, 3, 0] rfl (hk50 w1 w3 (w4 + 1) )
set_option maxHeartbeats 4000000 in
set_option maxRecDepth 100000 in
theorem T_X6_needed_50 {G : Gm} {α : Nat → Nat} (hO : Ok G α cX6_needed 6 RX6 3 71) (hR : Rt G α (some .int)) (σ : Hp) : ∀ (fuel : Nat) (w1 : Int32) (w3 : Int32) (w4 : Int32), V G α 6 (kOI σ) 50 [(0, .ref (α (54))), (1, .int w1), (3, .int w3), (4, .int w4)] [] σ (F_X6_needed_50 σ fuel w1 w3 w4) := by
  intro fuel
  induction fuel with
  | zero => intro w1 w3 w4; exact V_none rfl
  | succ n ih =>
    intro w1 w3 w4
    rw [F_X6_needed_50]
    refine V_iload hO 3 dX6_needed_50 rfl ?_
    refine V_bipush hO 9 dX6_needed_52 (by decide) ?_
    refine V_icmp_gt hO 94 dX6_needed_54 (by decide) ?_ ?_
    · refine V_iconst hO (-1) dX6_needed_94 (by decide) ?_
      exact V_iret hO hR rfl dX6_needed_95
    · refine V_iload_n hO 1 dX6_needed_57 rfl rfl ?_
      refine V_iload hO 3 dX6_needed_58 rfl ?_
      refine V_callS hO ml_X6_91 (C_X0_depthOf α w1 w4 σ) (rest := []) rfl rfl (Nat.le_of_ble_eq_true rfl) ⟨Nat.le_of_ble_eq_true rfl, Nat.le_of_ble_eq_true rfl⟩ dX6_needed_60 (kc_I ?_)
      refine V_istoreN hO (ls2 := fun v1 => [(5, .int v1), (0, .ref (α (54))), (1, .int w1), (3, .int w3), (4, .int w4)]) dX6_needed_63 (by decide) (fun _ => rfl) (fun v1 => ?_)
      refine V_iload hO 0 dX6_needed_65 rfl ?_
      refine V_iload_n hO 3 dX6_needed_67 rfl rfl ?_
      refine V_icmp_gt hO 88 dX6_needed_68 (by decide) ?_ ?_
      · exact V_sub [1, 2, 3, 4] rfl (T_X6_needed_88 hO hR σ (F_X6_needed_50 σ n) ih w1 w3 w4 )
      · refine V_aload_n hO 1 dX6_needed_71 rfl rfl ?_
        refine V_get hO (v := .ref (α (39))) fl_X6_25 (by decide) (fun _ _ => ce_54) rfl dX6_needed_72 ?_
        refine V_iload_n hO 2 dX6_needed_75 rfl rfl ?_
        refine V_iload hO 0 dX6_needed_76 rfl ?_
        refine V_iload_n hO 3 dX6_needed_78 rfl rfl ?_
        refine V_callV hO ml_X6_189 (C_X2_outlasts α w1 v1 w3 σ) (by decide) (fun _ _ => ce_39) rfl rfl (rest := []) rfl rfl (Nat.le_of_ble_eq_true rfl) ⟨Nat.le_of_ble_eq_true rfl, Nat.le_of_ble_eq_true rfl⟩ dX6_needed_79 (kc_OZ rfl fun v2 => ?_)
        refine V_ifeqZ hO 88 dX6_needed_82 (by decide) ?_ ?_
        · exact V_sub [1, 2, 3, 4] rfl (T_X6_needed_88 hO hR σ (F_X6_needed_50 σ n) ih w1 w3 w4 )
        · refine V_iload hO 4 dX6_needed_85 rfl ?_
          exact V_iret hO hR rfl dX6_needed_87
set_option maxHeartbeats 4000000 in
set_option maxRecDepth 100000 in
theorem T_X6_needed {G : Gm} {α : Nat → Nat} (hO : Ok G α cX6_needed 6 RX6 3 71) (hR : Rt G α (some .int)) (p1 : Int32) (p2 : Int32) (σ : Hp) : V G α 6 (kOI σ) 0 [(0, .ref (α (54))), (1, .int p1), (2, .int p2)] [] σ (F_X6_needed p1 p2 σ) := by
  rw [F_X6_needed]
  refine V_aload_n hO 0 dX6_needed_0 rfl rfl ?_
  refine V_get hO (v := .ref (α (30))) fl_X6_10 (by decide) (fun _ _ => ce_54) rfl dX6_needed_1 ?_
  refine V_iload_n hO 2 dX6_needed_4 rfl rfl ?_
  refine V_callV hO ml_X6_66 (C_X5_hasSquare α (t := 0) (by decide) p2 σ) (by decide) (fun _ _ => ce_town (t := 0) (by decide)) rfl rfl (rest := []) rfl rfl (Nat.le_of_ble_eq_true rfl) ⟨Nat.le_of_ble_eq_true rfl, Nat.le_of_ble_eq_true rfl⟩ dX6_needed_5 (kc_Z ?_)
  refine V_ifneZ hO 14 dX6_needed_8 (by decide) ?_ ?_
  · refine V_iload_n hO 1 dX6_needed_14 rfl rfl ?_
    refine V_callS hO ml_X6_88 (C_X6_isKind α p1 σ) (rest := []) rfl rfl (Nat.le_of_ble_eq_true rfl) ⟨Nat.le_of_ble_eq_true rfl, Nat.le_of_ble_eq_true rfl⟩ dX6_needed_15 (kc_Z ?_)
    refine V_ifneZ hO 24 dX6_needed_18 (by decide) ?_ ?_
    · refine V_aload_n hO 0 dX6_needed_24 rfl rfl ?_
      refine V_get hO (v := .ref (α (39))) fl_X6_25 (by decide) (fun _ _ => ce_54) rfl dX6_needed_25 ?_
      refine V_callV hO ml_X6_171 (C_X2_isDays α σ) (by decide) (fun _ _ => ce_39) rfl rfl (rest := []) rfl rfl (Nat.le_of_ble_eq_true rfl) ⟨Nat.le_of_ble_eq_true rfl, Nat.le_of_ble_eq_true rfl⟩ dX6_needed_28 (kc_OZ rfl fun v3 => ?_)
      refine V_ifneZ hO 37 dX6_needed_31 (by decide) ?_ ?_
      · refine V_aload_n hO 0 dX6_needed_37 rfl rfl ?_
        refine V_get hO (v := .ref (α (30))) fl_X6_10 (by decide) (fun _ _ => ce_54) rfl dX6_needed_38 ?_
        refine V_get hO (v := .ref (α (33))) fl_X6_74 (by decide) (fun _ _ => ce_town (t := 0) (by decide)) rfl dX6_needed_41 ?_
        refine V_iload_n hO 2 dX6_needed_44 rfl rfl ?_
        refine V_chk rfl fun c4 => ?_
        refine V_iald hO (by decide) (fun _ _ => ce_ice (t := 0) (by decide)) (inb_in c4) dX6_needed_45 ?_
        refine V_istore_nN hO (ls2 := fun v5 => [(3, .int v5), (0, .ref (α (54))), (1, .int p1), (2, .int p2)]) dX6_needed_46 rfl (by decide) (fun _ => rfl) (fun v5 => ?_)
        refine V_iconst hO 1 dX6_needed_47 (by decide) ?_
        refine V_istore hO (ls2 := [(4, .int 1), (3, .int v5), (0, .ref (α (54))), (1, .int p1), (2, .int p2)]) dX6_needed_48 (by decide) rfl ?_
        exact V_sub [2, 3, 1, 0] rfl (T_X6_needed_50 hO hR σ fuel p1 v5 (1 : Int32) )
      · refine V_bipush hO (-103) dX6_needed_34 (by decide) ?_
        exact V_iret hO hR rfl dX6_needed_36
    · refine V_bipush hO (-102) dX6_needed_21 (by decide) ?_
      exact V_iret hO hR rfl dX6_needed_23
  · refine V_bipush hO (-101) dX6_needed_11 (by decide) ?_
    exact V_iret hO hR rfl dX6_needed_13
set_option maxHeartbeats 4000000 in
set_option maxRecDepth 100000 in
theorem C_X6_needed (α : Nat → Nat) (p1 : Int32) (p2 : Int32) (σ : Hp) : Ct yX6_needed cX6_needed 6 (some .int) 3 71 α [.ref (α (54)), .int p1, .int p2] σ (kOI σ (F_X6_needed p1 p2 σ)) := ct_of_V (own := RX6) rfl (by decide +kernel) (Nat.le_of_ble_eq_true rfl) fun _ hO hR => T_X6_needed hO hR p1 p2 σ
/-! X6_bears -/
noncomputable def F_X6_bears  (p1 : Int32) (σ : Hp) : Option Int32 :=
  if (F_X5_hasSquare 0 p1 σ) = true then
  (F_X2_isDays σ).bind fun v1 =>
  if v1 = true then
  if inb p1 16 = true then
  (F_X2_daysUntilBearing (σ.1 33 (Int32.toNatClampNeg p1)) σ).bind fun v3 =>
  some v3
  else none
  else
  some ((-103) : Int32)
  else
  some ((-101) : Int32)
set_option maxHeartbeats 4000000 in
set_option maxRecDepth 100000 in
theorem T_X6_bears {G : Gm} {α : Nat → Nat} (hO : Ok G α cX6_bears 2 RX6 3 67) (hR : Rt G α (some .int)) (p1 : Int32) (σ : Hp) : V G α 2 (kOI σ) 0 [(0, .ref (α (54))), (1, .int p1)] [] σ (F_X6_bears p1 σ) := by
  rw [F_X6_bears]
  refine V_aload_n hO 0 dX6_bears_0 rfl rfl ?_
  refine V_get hO (v := .ref (α (30))) fl_X6_10 (by decide) (fun _ _ => ce_54) rfl dX6_bears_1 ?_
  refine V_iload_n hO 1 dX6_bears_4 rfl rfl ?_
  refine V_callV hO ml_X6_66 (C_X5_hasSquare α (t := 0) (by decide) p1 σ) (by decide) (fun _ _ => ce_town (t := 0) (by decide)) rfl rfl (rest := []) rfl rfl (Nat.le_of_ble_eq_true rfl) ⟨Nat.le_of_ble_eq_true rfl, Nat.le_of_ble_eq_true rfl⟩ dX6_bears_5 (kc_Z ?_)
  refine V_ifneZ hO 14 dX6_bears_8 (by decide) ?_ ?_
  · refine V_aload_n hO 0 dX6_bears_14 rfl rfl ?_
    refine V_get hO (v := .ref (α (39))) fl_X6_25 (by decide) (fun _ _ => ce_54) rfl dX6_bears_15 ?_
    refine V_callV hO ml_X6_171 (C_X2_isDays α σ) (by decide) (fun _ _ => ce_39) rfl rfl (rest := []) rfl rfl (Nat.le_of_ble_eq_true rfl) ⟨Nat.le_of_ble_eq_true rfl, Nat.le_of_ble_eq_true rfl⟩ dX6_bears_18 (kc_OZ rfl fun v1 => ?_)
    refine V_ifneZ hO 27 dX6_bears_21 (by decide) ?_ ?_
    · refine V_aload_n hO 0 dX6_bears_27 rfl rfl ?_
      refine V_get hO (v := .ref (α (39))) fl_X6_25 (by decide) (fun _ _ => ce_54) rfl dX6_bears_28 ?_
      refine V_aload_n hO 0 dX6_bears_31 rfl rfl ?_
      refine V_get hO (v := .ref (α (30))) fl_X6_10 (by decide) (fun _ _ => ce_54) rfl dX6_bears_32 ?_
      refine V_get hO (v := .ref (α (33))) fl_X6_74 (by decide) (fun _ _ => ce_town (t := 0) (by decide)) rfl dX6_bears_35 ?_
      refine V_iload_n hO 1 dX6_bears_38 rfl rfl ?_
      refine V_chk rfl fun c2 => ?_
      refine V_iald hO (by decide) (fun _ _ => ce_ice (t := 0) (by decide)) (inb_in c2) dX6_bears_39 ?_
      refine V_callV hO ml_X6_192 (C_X2_daysUntilBearing α (σ.1 33 (Int32.toNatClampNeg p1)) σ) (by decide) (fun _ _ => ce_39) rfl rfl (rest := []) rfl rfl (Nat.le_of_ble_eq_true rfl) ⟨Nat.le_of_ble_eq_true rfl, Nat.le_of_ble_eq_true rfl⟩ dX6_bears_40 (kc_OI rfl fun v3 => ?_)
      exact V_iret hO hR rfl dX6_bears_43
    · refine V_bipush hO (-103) dX6_bears_24 (by decide) ?_
      exact V_iret hO hR rfl dX6_bears_26
  · refine V_bipush hO (-101) dX6_bears_11 (by decide) ?_
    exact V_iret hO hR rfl dX6_bears_13
set_option maxHeartbeats 4000000 in
set_option maxRecDepth 100000 in
theorem C_X6_bears (α : Nat → Nat) (p1 : Int32) (σ : Hp) : Ct yX6_bears cX6_bears 2 (some .int) 3 67 α [.ref (α (54)), .int p1] σ (kOI σ (F_X6_bears p1 σ)) := ct_of_V (own := RX6) rfl (by decide +kernel) (Nat.le_of_ble_eq_true rfl) fun _ hO hR => T_X6_bears hO hR p1 σ
/-! X6_owes -/
noncomputable def F_X6_owes_99 (σ : Hp) (k17 : Int32 → Int32 → Bool → Int32 → Int32 → (Option Int32)) (w1 : Int32) (w2 : Int32) (w3 : Bool) (w4 : Int32) (w5 : Int32) : Option Int32 :=
  k17 w1 w2 w3 w4 (w5 + 1)
noncomputable def F_X6_owes_60 (σ : Hp) (k17 : Int32 → Int32 → Bool → Int32 → Int32 → (Option Int32)) (w1 : Int32) (w2 : Int32) (w3 : Bool) (w4 : Int32) (w5 : Int32) (w6 : Nat) (s0 : Bool) : Option Int32 :=
  if s0 = true then
  if (σ.1 w6 2) = w1 then
  if (σ.1 w6 3) = w2 then
  (F_X5_worthOf 0 w5 σ).bind fun v1 =>
  lt (w4 + v1) fun v2 =>
  F_X6_owes_99 σ k17 w1 w2 w3 v2 w5
  else
  F_X6_owes_99 σ k17 w1 w2 w3 w4 w5
  else
  F_X6_owes_99 σ k17 w1 w2 w3 w4 w5
  else
  F_X6_owes_99 σ k17 w1 w2 w3 w4 w5
noncomputable def F_X6_owes_17 (σ : Hp) : Nat → Int32 → Int32 → Bool → Int32 → Int32 → Option Int32
  | 0, _, _, _, _, _ => none
  | n + 1, w1, w2, w3, w4, w5 =>
    if (σ.1 30 4) ≤ w5 then
    some w4
    else
    if inb w5 10 = true then
    if w3 = true then
    if (F_X6_conditionOf (10 * 0 + (Int32.toNatClampNeg w5)) σ) < (2 : Int32) then
    F_X6_owes_60 σ (F_X6_owes_17 σ n) w1 w2 w3 w4 w5 (10 * 0 + (Int32.toNatClampNeg w5)) false
    else
    F_X6_owes_60 σ (F_X6_owes_17 σ n) w1 w2 w3 w4 w5 (10 * 0 + (Int32.toNatClampNeg w5)) true
    else
    F_X6_owes_60 σ (F_X6_owes_17 σ n) w1 w2 w3 w4 w5 (10 * 0 + (Int32.toNatClampNeg w5)) true
    else none
noncomputable def F_X6_owes  (p1 : Int32) (p2 : Int32) (p3 : Bool) (σ : Hp) : Option Int32 :=
  if (F_X6_arePair p1 p2 σ) = true then
  F_X6_owes_17 σ fuel p1 p2 p3 (0 : Int32) (0 : Int32)
  else
  some ((-101) : Int32)
set_option maxHeartbeats 4000000 in
set_option maxRecDepth 100000 in
theorem T_X6_owes_99 {G : Gm} {α : Nat → Nat} (hO : Ok G α cX6_owes 8 RX6 3 64) (hR : Rt G α (some .int)) (σ : Hp) (k17 : Int32 → Int32 → Bool → Int32 → Int32 → (Option Int32)) (hk17 : ∀ (w1 : Int32) (w2 : Int32) (w3 : Bool) (w4 : Int32) (w5 : Int32), V G α 8 (kOI σ) 17 [(0, .ref (α (54))), (1, .int w1), (2, .int w2), (3, .int (b2i w3)), (4, .int w4), (5, .int w5)] [] σ (k17 w1 w2 w3 w4 w5)) : ∀ (w1 : Int32) (w2 : Int32) (w3 : Bool) (w4 : Int32) (w5 : Int32), V G α 8 (kOI σ) 99 [(0, .ref (α (54))), (1, .int w1), (2, .int w2), (3, .int (b2i w3)), (4, .int w4), (5, .int w5)] [] σ (F_X6_owes_99 σ k17 w1 w2 w3 w4 w5) := by
  intro w1 w2 w3 w4 w5
  rw [F_X6_owes_99]
  refine V_iinc hO (ls2 := [(5, .int (w5 + 1)), (0, .ref (α (54))), (1, .int w1), (2, .int w2), (3, .int (b2i w3)), (4, .int w4)]) (z := 1) 5 dX6_owes_99 rfl (by decide) (by decide) rfl ?_
  refine V_goto hO 17 dX6_owes_102 (by decide) ?_
  exact V_sub [1, 2, 3, 4, 5, 0] rfl (hk17 w1 w2 w3 w4 (w5 + 1) )
set_option maxHeartbeats 4000000 in
set_option maxRecDepth 100000 in
theorem T_X6_owes_60 {G : Gm} {α : Nat → Nat} (hO : Ok G α cX6_owes 8 RX6 3 64) (hR : Rt G α (some .int)) (σ : Hp) (k17 : Int32 → Int32 → Bool → Int32 → Int32 → (Option Int32)) (hk17 : ∀ (w1 : Int32) (w2 : Int32) (w3 : Bool) (w4 : Int32) (w5 : Int32), V G α 8 (kOI σ) 17 [(0, .ref (α (54))), (1, .int w1), (2, .int w2), (3, .int (b2i w3)), (4, .int w4), (5, .int w5)] [] σ (k17 w1 w2 w3 w4 w5)) : ∀ (w1 : Int32) (w2 : Int32) (w3 : Bool) (w4 : Int32) (w5 : Int32) (w6 : Nat) (s0 : Bool) (hw6 : w6 < 30), V G α 8 (kOI σ) 60 [(0, .ref (α (54))), (1, .int w1), (2, .int w2), (3, .int (b2i w3)), (4, .int w4), (5, .int w5), (6, .ref (α (w6)))] [.int (b2i s0)] σ (F_X6_owes_60 σ k17 w1 w2 w3 w4 w5 w6 s0) := by
  intro w1 w2 w3 w4 w5 w6 s0 hw6
  rw [F_X6_owes_60]
  refine V_istore hO (ls2 := [(7, .int (b2i s0)), (0, .ref (α (54))), (1, .int w1), (2, .int w2), (3, .int (b2i w3)), (4, .int w4), (5, .int w5), (6, .ref (α (w6)))]) dX6_owes_60 (by decide) rfl ?_
  refine V_iload hO 0 dX6_owes_62 rfl ?_
  refine V_ifeqZ hO 99 dX6_owes_64 (by decide) ?_ ?_
  · exact V_sub [1, 2, 3, 4, 5, 6] rfl (T_X6_owes_99 hO hR σ k17 hk17 w1 w2 w3 w4 w5 )
  · refine V_aload hO 7 dX6_owes_67 rfl ?_
    refine V_get hO (v := .int (σ.1 w6 2)) fl_X6_120 (Nat.lt_trans hw6 (by decide)) (fun _ _ => ce_debt hw6) rfl dX6_owes_69 ?_
    refine V_iload_n hO 2 dX6_owes_72 rfl rfl ?_
    refine V_icmp_ne hO 99 dX6_owes_73 (by decide) ?_ ?_
    · exact V_sub [1, 2, 3, 4, 5, 6] rfl (T_X6_owes_99 hO hR σ k17 hk17 w1 w2 w3 w4 w5 )
    · refine V_aload hO 7 dX6_owes_76 rfl ?_
      refine V_get hO (v := .int (σ.1 w6 3)) fl_X6_123 (Nat.lt_trans hw6 (by decide)) (fun _ _ => ce_debt hw6) rfl dX6_owes_78 ?_
      refine V_iload_n hO 3 dX6_owes_81 rfl rfl ?_
      refine V_icmp_ne hO 99 dX6_owes_82 (by decide) ?_ ?_
      · exact V_sub [1, 2, 3, 4, 5, 6] rfl (T_X6_owes_99 hO hR σ k17 hk17 w1 w2 w3 w4 w5 )
      · refine V_iload hO 5 dX6_owes_85 rfl ?_
        refine V_aload_n hO 1 dX6_owes_87 rfl rfl ?_
        refine V_get hO (v := .ref (α (30))) fl_X6_10 (by decide) (fun _ _ => ce_54) rfl dX6_owes_88 ?_
        refine V_iload hO 6 dX6_owes_91 rfl ?_
        refine V_callV hO ml_X6_132 (C_X5_worthOf α (t := 0) (by decide) w5 σ) (by decide) (fun _ _ => ce_town (t := 0) (by decide)) rfl rfl (rest := [.int w4]) rfl rfl (Nat.le_of_ble_eq_true rfl) ⟨Nat.le_of_ble_eq_true rfl, Nat.le_of_ble_eq_true rfl⟩ dX6_owes_93 (kc_OI rfl fun v1 => ?_)
        refine V_iadd hO dX6_owes_96 ?_
        refine V_istoreN hO (ls2 := fun v2 => [(4, .int v2), (7, .int (b2i s0)), (0, .ref (α (54))), (1, .int w1), (2, .int w2), (3, .int (b2i w3)), (5, .int w5), (6, .ref (α (w6)))]) dX6_owes_97 (by decide) (fun _ => rfl) (fun v2 => ?_)
        exact V_sub [2, 3, 4, 5, 0, 6] rfl (T_X6_owes_99 hO hR σ k17 hk17 w1 w2 w3 v2 w5 )
set_option maxHeartbeats 4000000 in
set_option maxRecDepth 100000 in
theorem T_X6_owes_17 {G : Gm} {α : Nat → Nat} (hO : Ok G α cX6_owes 8 RX6 3 64) (hR : Rt G α (some .int)) (σ : Hp) : ∀ (fuel : Nat) (w1 : Int32) (w2 : Int32) (w3 : Bool) (w4 : Int32) (w5 : Int32), V G α 8 (kOI σ) 17 [(0, .ref (α (54))), (1, .int w1), (2, .int w2), (3, .int (b2i w3)), (4, .int w4), (5, .int w5)] [] σ (F_X6_owes_17 σ fuel w1 w2 w3 w4 w5) := by
  intro fuel
  induction fuel with
  | zero => intro w1 w2 w3 w4 w5; exact V_none rfl
  | succ n ih =>
    intro w1 w2 w3 w4 w5
    rw [F_X6_owes_17]
    refine V_iload hO 5 dX6_owes_17 rfl ?_
    refine V_aload_n hO 0 dX6_owes_19 rfl rfl ?_
    refine V_get hO (v := .ref (α (30))) fl_X6_10 (by decide) (fun _ _ => ce_54) rfl dX6_owes_20 ?_
    refine V_get hO (v := .int (σ.1 30 4)) fl_X6_97 (by decide) (fun _ _ => ce_town (t := 0) (by decide)) rfl dX6_owes_23 ?_
    refine V_icmp_ge hO 105 dX6_owes_26 (by decide) ?_ ?_
    · refine V_iload hO 4 dX6_owes_105 rfl ?_
      exact V_iret hO hR rfl dX6_owes_107
    · refine V_aload_n hO 0 dX6_owes_29 rfl rfl ?_
      refine V_get hO (v := .ref (α (30))) fl_X6_10 (by decide) (fun _ _ => ce_54) rfl dX6_owes_30 ?_
      refine V_get hO (v := .ref (α (36))) fl_X6_100 (by decide) (fun _ _ => ce_town (t := 0) (by decide)) rfl dX6_owes_33 ?_
      refine V_iload hO 5 dX6_owes_36 rfl ?_
      refine V_chk rfl fun c3 => ?_
      refine V_aald hO (by decide) (fun _ _ => ce_da (t := 0) (by decide)) (inb_in c3) dX6_owes_38 ?_
      refine V_astore hO (ls2 := [(6, .ref (α ((10 * 0 + (Int32.toNatClampNeg w5))))), (0, .ref (α (54))), (1, .int w1), (2, .int w2), (3, .int (b2i w3)), (4, .int w4), (5, .int w5)]) dX6_owes_39 (by decide) rfl ?_
      refine V_iload_n hO 4 dX6_owes_41 rfl rfl ?_
      refine V_ifeqZ hO 55 dX6_owes_42 (by decide) ?_ ?_
      · refine V_iconst hO 1 dX6_owes_55 (by decide) ?_
        refine V_goto hO 60 dX6_owes_56 (by decide) ?_
        exact V_sub [1, 2, 3, 4, 5, 6, 0] rfl (T_X6_owes_60 hO hR σ (F_X6_owes_17 σ n) ih w1 w2 w3 w4 w5 (10 * 0 + (Int32.toNatClampNeg w5)) true (cd_lt (t := 0) (by decide) (inb_in c3)))
      · refine V_aload_n hO 1 dX6_owes_45 rfl rfl ?_
        refine V_aload hO 0 dX6_owes_46 rfl ?_
        refine V_callV hO ml_X6_135 (C_X6_conditionOf α (d := (10 * 0 + (Int32.toNatClampNeg w5))) (cd_lt (t := 0) (by decide) (inb_in c3)) σ) (by decide) (fun _ _ => ce_54) rfl rfl (rest := []) rfl rfl (Nat.le_of_ble_eq_true rfl) ⟨Nat.le_of_ble_eq_true rfl, Nat.le_of_ble_eq_true rfl⟩ dX6_owes_48 (kc_I ?_)
        refine V_iconst hO 2 dX6_owes_51 (by decide) ?_
        refine V_icmp_lt hO 59 dX6_owes_52 (by decide) ?_ ?_
        · refine V_iconst hO 0 dX6_owes_59 (by decide) ?_
          exact V_sub [1, 2, 3, 4, 5, 6, 0] rfl (T_X6_owes_60 hO hR σ (F_X6_owes_17 σ n) ih w1 w2 w3 w4 w5 (10 * 0 + (Int32.toNatClampNeg w5)) false (cd_lt (t := 0) (by decide) (inb_in c3)))
        · refine V_iconst hO 1 dX6_owes_55 (by decide) ?_
          refine V_goto hO 60 dX6_owes_56 (by decide) ?_
          exact V_sub [1, 2, 3, 4, 5, 6, 0] rfl (T_X6_owes_60 hO hR σ (F_X6_owes_17 σ n) ih w1 w2 w3 w4 w5 (10 * 0 + (Int32.toNatClampNeg w5)) true (cd_lt (t := 0) (by decide) (inb_in c3)))
set_option maxHeartbeats 4000000 in
set_option maxRecDepth 100000 in
theorem T_X6_owes {G : Gm} {α : Nat → Nat} (hO : Ok G α cX6_owes 8 RX6 3 64) (hR : Rt G α (some .int)) (p1 : Int32) (p2 : Int32) (p3 : Bool) (σ : Hp) : V G α 8 (kOI σ) 0 [(0, .ref (α (54))), (1, .int p1), (2, .int p2), (3, .int (b2i p3))] [] σ (F_X6_owes p1 p2 p3 σ) := by
  rw [F_X6_owes]
  refine V_iload_n hO 1 dX6_owes_0 rfl rfl ?_
  refine V_iload_n hO 2 dX6_owes_1 rfl rfl ?_
  refine V_callS hO ml_X6_84 (C_X6_arePair α p1 p2 σ) (rest := []) rfl rfl (Nat.le_of_ble_eq_true rfl) ⟨Nat.le_of_ble_eq_true rfl, Nat.le_of_ble_eq_true rfl⟩ dX6_owes_2 (kc_Z ?_)
  refine V_ifneZ hO 11 dX6_owes_5 (by decide) ?_ ?_
  · refine V_iconst hO 0 dX6_owes_11 (by decide) ?_
    refine V_istore hO (ls2 := [(4, .int 0), (0, .ref (α (54))), (1, .int p1), (2, .int p2), (3, .int (b2i p3))]) dX6_owes_12 (by decide) rfl ?_
    refine V_iconst hO 0 dX6_owes_14 (by decide) ?_
    refine V_istore hO (ls2 := [(5, .int 0), (4, .int 0), (0, .ref (α (54))), (1, .int p1), (2, .int p2), (3, .int (b2i p3))]) dX6_owes_15 (by decide) rfl ?_
    exact V_sub [2, 3, 4, 5, 1, 0] rfl (T_X6_owes_17 hO hR σ fuel p1 p2 p3 (0 : Int32) (0 : Int32) )
  · refine V_bipush hO (-101) dX6_owes_8 (by decide) ?_
    exact V_iret hO hR rfl dX6_owes_10
set_option maxHeartbeats 4000000 in
set_option maxRecDepth 100000 in
theorem C_X6_owes (α : Nat → Nat) (p1 : Int32) (p2 : Int32) (p3 : Bool) (σ : Hp) : Ct yX6_owes cX6_owes 8 (some .int) 3 64 α [.ref (α (54)), .int p1, .int p2, .int (b2i p3)] σ (kOI σ (F_X6_owes p1 p2 p3 σ)) := ct_of_V (own := RX6) rfl (by decide +kernel) (Nat.le_of_ble_eq_true rfl) fun _ hO hR => T_X6_owes hO hR p1 p2 p3 σ
