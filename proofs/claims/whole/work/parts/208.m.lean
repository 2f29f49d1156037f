/-! X7_blank -/
noncomputable def F_X7_blank  (σ : Hp) : Int32 × Hp :=
  lt (σ.1 55 9) fun v1 =>
  lt (up σ 55 9 (0 : Int32)) fun h2 =>
  (v1, h2)
set_option maxHeartbeats 4000000 in
set_option maxRecDepth 100000 in
theorem T_X7_blank {G : Gm} {α : Nat → Nat} (hO : Ok G α cX7_blank 2 RX7 0 0) (hR : Rt G α (some .int)) (σ : Hp) : V G α 2 (kTI) 0 [(0, .ref (α (55)))] [] σ (F_X7_blank σ) := by
  rw [F_X7_blank]
  refine V_aload_n hO 0 dX7_blank_0 rfl rfl ?_
  refine V_get hO (v := .int (σ.1 55 9)) fl_X7_137 (by decide) (fun _ _ => ce_55) rfl dX7_blank_1 ?_
  refine V_istore_nN hO (ls2 := fun v1 => [(1, .int v1), (0, .ref (α (55)))]) dX7_blank_4 rfl (by decide) (fun _ => rfl) (fun v1 => ?_)
  refine V_aload_n hO 1 dX7_blank_5 rfl rfl ?_
  refine V_iconst hO 0 dX7_blank_6 (by decide) ?_
  refine V_puti hO fp_X7_137 (by decide) (fun _ _ => ce_55) (Nat.le_of_ble_eq_true rfl) (fun _ _ => pe_55_9) dX7_blank_7 (V_name fun h2 => ?_)
  refine V_iload_n hO 0 dX7_blank_10 rfl rfl ?_
  exact V_iret hO hR rfl dX7_blank_11
set_option maxHeartbeats 4000000 in
set_option maxRecDepth 100000 in
theorem C_X7_blank (α : Nat → Nat) (σ : Hp) : Ct yX7_blank cX7_blank 2 (some .int) 0 0 α [.ref (α (55))] σ (kTI (F_X7_blank σ)) := ct_of_V (own := RX7) rfl (by decide +kernel) (Nat.le_of_ble_eq_true rfl) fun _ hO hR => T_X7_blank hO hR σ
/-! X7_dayOf -/
noncomputable def F_X7_dayOf  (p1 : Int32) (σ : Hp) : Int32 :=
  if p1 = (99 : Int32) then
  (0 : Int32)
  else
  if p1 = (116 : Int32) then
  (1 : Int32)
  else
  if p1 = (115 : Int32) then
  (2 : Int32)
  else
  if p1 = (119 : Int32) then
  (3 : Int32)
  else
  ((-1) : Int32)
set_option maxHeartbeats 4000000 in
set_option maxRecDepth 100000 in
theorem T_X7_dayOf {G : Gm} {α : Nat → Nat} (hO : Ok G α cX7_dayOf 1 RX7 0 0) (hR : Rt G α (some .int)) (p1 : Int32) (σ : Hp) : V G α 1 (kI σ) 0 [(0, .int p1)] [] σ (F_X7_dayOf p1 σ) := by
  rw [F_X7_dayOf]
  refine V_iload_n hO 0 dX7_dayOf_0 rfl rfl ?_
  refine V_bipush hO 99 dX7_dayOf_1 (by decide) ?_
  refine V_icmp_ne hO 10 dX7_dayOf_3 (by decide) ?_ ?_
  · refine V_iload_n hO 0 dX7_dayOf_10 rfl rfl ?_
    refine V_bipush hO 116 dX7_dayOf_11 (by decide) ?_
    refine V_icmp_ne hO 20 dX7_dayOf_13 (by decide) ?_ ?_
    · refine V_iload_n hO 0 dX7_dayOf_20 rfl rfl ?_
      refine V_bipush hO 115 dX7_dayOf_21 (by decide) ?_
      refine V_icmp_ne hO 30 dX7_dayOf_23 (by decide) ?_ ?_
      · refine V_iload_n hO 0 dX7_dayOf_30 rfl rfl ?_
        refine V_bipush hO 119 dX7_dayOf_31 (by decide) ?_
        refine V_icmp_ne hO 40 dX7_dayOf_33 (by decide) ?_ ?_
        · refine V_iconst hO (-1) dX7_dayOf_40 (by decide) ?_
          exact V_iret hO hR rfl dX7_dayOf_41
        · refine V_iconst hO 3 dX7_dayOf_36 (by decide) ?_
          refine V_goto hO 41 dX7_dayOf_37 (by decide) ?_
          exact V_iret hO hR rfl dX7_dayOf_41
      · refine V_iconst hO 2 dX7_dayOf_26 (by decide) ?_
        refine V_goto hO 41 dX7_dayOf_27 (by decide) ?_
        exact V_iret hO hR rfl dX7_dayOf_41
    · refine V_iconst hO 1 dX7_dayOf_16 (by decide) ?_
      refine V_goto hO 41 dX7_dayOf_17 (by decide) ?_
      exact V_iret hO hR rfl dX7_dayOf_41
  · refine V_iconst hO 0 dX7_dayOf_6 (by decide) ?_
    refine V_goto hO 41 dX7_dayOf_7 (by decide) ?_
    exact V_iret hO hR rfl dX7_dayOf_41
set_option maxHeartbeats 4000000 in
set_option maxRecDepth 100000 in
theorem C_X7_dayOf (α : Nat → Nat) (p1 : Int32) (σ : Hp) : Ct yX7_dayOf cX7_dayOf 1 (some .int) 0 0 α [.int p1] σ (kI σ (F_X7_dayOf p1 σ)) := ct_of_V (own := RX7) rfl (by decide +kernel) (Nat.le_of_ble_eq_true rfl) fun _ hO hR => T_X7_dayOf hO hR p1 σ
/-! X7_go -/
noncomputable def F_X7_go_131  (w2 : Bool) (s0 : Bool) (s1 : Int32) (h : Hp) : Option (Bool × Hp) :=
  lt (up h 55 10 (s1 + (b2i s0))) fun h1 =>
  some (w2, h1)
noncomputable def F_X7_go_111  (w2 : Bool) (s0 : Bool) (h : Hp) : Option (Bool × Hp) :=
  lt (up h 55 11 (b2i s0)) fun h2 =>
  if (h2.1 55 11) = 0 then
  F_X7_go_131 w2 true (h2.1 55 10) h2
  else
  F_X7_go_131 w2 false (h2.1 55 10) h2
noncomputable def F_X7_go_69  (w1 : Int32) (s0 : Bool) (h : Hp) : Option (Bool × Hp) :=
  if s0 = true then
  if inb (h.1 55 10) 12 = true then
  lt (up h 60 (Int32.toNatClampNeg (h.1 55 10)) (F_X7_dayOf w1 h)) fun h4 =>
  if inb (h4.1 55 10) 12 = true then
  lt (up h4 61 (Int32.toNatClampNeg (h4.1 55 10)) (0 : Int32)) fun h6 =>
  if (2 : Int32) ≤ (F_X7_dayOf w1 h6) then
  F_X7_go_111 s0 false h6
  else
  F_X7_go_111 s0 true h6
  else none
  else none
  else
  some (s0, h)
noncomputable def F_X7_go  (p1 : Int32) (σ : Hp) : Option (Bool × Hp) :=
  if (σ.1 55 11) = 0 then
  if (F_X7_dayOf p1 σ) = ((-1) : Int32) then
  F_X7_go_69 p1 false σ
  else
  if (12 : Int32) ≤ (σ.1 55 10) then
  F_X7_go_69 p1 false σ
  else
  F_X7_go_69 p1 true σ
  else
  if inb (σ.1 55 10) 12 = true then
  lt (up σ 61 (Int32.toNatClampNeg (σ.1 55 10)) (p1 - (48 : Int32))) fun h8 =>
  lt (up h8 55 10 ((h8.1 55 10) + (1 : Int32))) fun h9 =>
  lt (up h9 55 11 (0 : Int32)) fun h10 =>
  some ((F_X7_in (Int32.toInt64 p1) (49 : Int64) (57 : Int64) h10), h10)
  else none
set_option maxHeartbeats 4000000 in
set_option maxRecDepth 100000 in
theorem T_X7_go_131 {G : Gm} {α : Nat → Nat} (hO : Ok G α cX7_go 3 RX7 1 25) (hR : Rt G α (some .boolean)) : ∀ (w2 : Bool) (s0 : Bool) (s1 : Int32) (h : Hp), V G α 3 (kSZ) 131 [(2, .int (b2i w2))] [.int (b2i s0), .int s1, .ref (α (55))] h (F_X7_go_131 w2 s0 s1 h) := by
  intro w2 s0 s1 h
  rw [F_X7_go_131]
  refine V_iadd hO dX7_go_131 ?_
  refine V_puti hO fp_X7_144 (by decide) (fun _ _ => ce_55) (Nat.le_of_ble_eq_true rfl) (fun _ _ => pe_55_10) dX7_go_132 (V_name fun h1 => ?_)
  refine V_iload_n hO 0 dX7_go_135 rfl rfl ?_
  exact V_zret hO hR (b2i_01 _) rfl dX7_go_136
set_option maxHeartbeats 4000000 in
set_option maxRecDepth 100000 in
theorem T_X7_go_111 {G : Gm} {α : Nat → Nat} (hO : Ok G α cX7_go 3 RX7 1 25) (hR : Rt G α (some .boolean)) : ∀ (w2 : Bool) (s0 : Bool) (h : Hp), V G α 3 (kSZ) 111 [(0, .ref (α (55))), (2, .int (b2i w2))] [.int (b2i s0), .ref (α (55))] h (F_X7_go_111 w2 s0 h) := by
  intro w2 s0 h
  rw [F_X7_go_111]
  refine V_putz hO fp_X7_140 (by decide) (fun _ _ => ce_55) (Nat.le_of_ble_eq_true rfl) (b2i_01 _) (fun _ _ => pe_55_11) dX7_go_111 (V_name fun h2 => ?_)
  refine V_aload_n hO 0 dX7_go_114 rfl rfl ?_
  refine V_dup hO dX7_go_115 rfl ?_
  refine V_get hO (v := .int (h2.1 55 10)) fl_X7_144 (by decide) (fun _ _ => ce_55) rfl dX7_go_116 ?_
  refine V_aload_n hO 0 dX7_go_119 rfl rfl ?_
  refine V_get hO (v := .int (h2.1 55 11)) fl_X7_140 (by decide) (fun _ _ => ce_55) rfl dX7_go_120 ?_
  refine V_if_eq hO 130 dX7_go_123 (by decide) ?_ ?_
  · refine V_iconst hO 1 dX7_go_130 (by decide) ?_
    exact V_sub [1] rfl (T_X7_go_131 hO hR w2 true (h2.1 55 10) h2 )
  · refine V_iconst hO 0 dX7_go_126 (by decide) ?_
    refine V_goto hO 131 dX7_go_127 (by decide) ?_
    exact V_sub [1] rfl (T_X7_go_131 hO hR w2 false (h2.1 55 10) h2 )
set_option maxHeartbeats 4000000 in
set_option maxRecDepth 100000 in
theorem T_X7_go_69 {G : Gm} {α : Nat → Nat} (hO : Ok G α cX7_go 3 RX7 1 25) (hR : Rt G α (some .boolean)) : ∀ (w1 : Int32) (s0 : Bool) (h : Hp), V G α 3 (kSZ) 69 [(0, .ref (α (55))), (1, .int w1)] [.int (b2i s0)] h (F_X7_go_69 w1 s0 h) := by
  intro w1 s0 h
  rw [F_X7_go_69]
  refine V_istore_n hO (ls2 := [(2, .int (b2i s0)), (0, .ref (α (55))), (1, .int w1)]) dX7_go_69 rfl (by decide) rfl ?_
  refine V_iload_n hO 0 dX7_go_70 rfl rfl ?_
  refine V_ifeqZ hO 135 dX7_go_71 (by decide) ?_ ?_
  · refine V_iload_n hO 0 dX7_go_135 rfl rfl ?_
    exact V_zret hO hR (b2i_01 _) rfl dX7_go_136
  · refine V_aload_n hO 1 dX7_go_74 rfl rfl ?_
    refine V_get hO (v := .ref (α (60))) fl_X7_22 (by decide) (fun _ _ => ce_55) rfl dX7_go_75 ?_
    refine V_aload_n hO 1 dX7_go_78 rfl rfl ?_
    refine V_get hO (v := .int (h.1 55 10)) fl_X7_144 (by decide) (fun _ _ => ce_55) rfl dX7_go_79 ?_
    refine V_iload_n hO 2 dX7_go_82 rfl rfl ?_
    refine V_callS hO ml_X7_151 (C_X7_dayOf α w1 h) (rest := [.int (h.1 55 10), .ref (α (60))]) rfl rfl (Nat.le_of_ble_eq_true rfl) ⟨Nat.le_of_ble_eq_true rfl, Nat.le_of_ble_eq_true rfl⟩ dX7_go_83 (kc_I ?_)
    refine V_chk rfl fun c3 => ?_
    refine V_iast hO (by decide) (fun _ _ _ => ce_60) (inb_in c3) dX7_go_86 (V_name fun h4 => ?_)
    refine V_aload_n hO 1 dX7_go_87 rfl rfl ?_
    refine V_get hO (v := .ref (α (61))) fl_X7_25 (by decide) (fun _ _ => ce_55) rfl dX7_go_88 ?_
    refine V_aload_n hO 1 dX7_go_91 rfl rfl ?_
    refine V_get hO (v := .int (h4.1 55 10)) fl_X7_144 (by decide) (fun _ _ => ce_55) rfl dX7_go_92 ?_
    refine V_iconst hO 0 dX7_go_95 (by decide) ?_
    refine V_chk rfl fun c5 => ?_
    refine V_iast hO (by decide) (fun _ _ _ => ce_61) (inb_in c5) dX7_go_96 (V_name fun h6 => ?_)
    refine V_aload_n hO 1 dX7_go_97 rfl rfl ?_
    refine V_iload_n hO 2 dX7_go_98 rfl rfl ?_
    refine V_callS hO ml_X7_151 (C_X7_dayOf α w1 h6) (rest := [.ref (α (55))]) rfl rfl (Nat.le_of_ble_eq_true rfl) ⟨Nat.le_of_ble_eq_true rfl, Nat.le_of_ble_eq_true rfl⟩ dX7_go_99 (kc_I ?_)
    refine V_iconst hO 2 dX7_go_102 (by decide) ?_
    refine V_icmp_ge hO 110 dX7_go_103 (by decide) ?_ ?_
    · refine V_iconst hO 0 dX7_go_110 (by decide) ?_
      exact V_sub [1, 0] rfl (T_X7_go_111 hO hR s0 false h6 )
    · refine V_iconst hO 1 dX7_go_106 (by decide) ?_
      refine V_goto hO 111 dX7_go_107 (by decide) ?_
      exact V_sub [1, 0] rfl (T_X7_go_111 hO hR s0 true h6 )
set_option maxHeartbeats 4000000 in
set_option maxRecDepth 100000 in
theorem T_X7_go {G : Gm} {α : Nat → Nat} (hO : Ok G α cX7_go 3 RX7 1 25) (hR : Rt G α (some .boolean)) (p1 : Int32) (σ : Hp) : V G α 3 (kSZ) 0 [(0, .ref (α (55))), (1, .int p1)] [] σ (F_X7_go p1 σ) := by
  rw [F_X7_go]
  refine V_aload_n hO 0 dX7_go_0 rfl rfl ?_
  refine V_get hO (v := .int (σ.1 55 11)) fl_X7_140 (by decide) (fun _ _ => ce_55) rfl dX7_go_1 ?_
  refine V_if_eq hO 47 dX7_go_4 (by decide) ?_ ?_
  · refine V_iload_n hO 1 dX7_go_47 rfl rfl ?_
    refine V_callS hO ml_X7_151 (C_X7_dayOf α p1 σ) (rest := []) rfl rfl (Nat.le_of_ble_eq_true rfl) ⟨Nat.le_of_ble_eq_true rfl, Nat.le_of_ble_eq_true rfl⟩ dX7_go_48 (kc_I ?_)
    refine V_iconst hO (-1) dX7_go_51 (by decide) ?_
    refine V_icmp_eq hO 68 dX7_go_52 (by decide) ?_ ?_
    · refine V_iconst hO 0 dX7_go_68 (by decide) ?_
      exact V_sub [0, 1] rfl (T_X7_go_69 hO hR p1 false σ )
    · refine V_aload_n hO 0 dX7_go_55 rfl rfl ?_
      refine V_get hO (v := .int (σ.1 55 10)) fl_X7_144 (by decide) (fun _ _ => ce_55) rfl dX7_go_56 ?_
      refine V_bipush hO 12 dX7_go_59 (by decide) ?_
      refine V_icmp_ge hO 68 dX7_go_61 (by decide) ?_ ?_
      · refine V_iconst hO 0 dX7_go_68 (by decide) ?_
        exact V_sub [0, 1] rfl (T_X7_go_69 hO hR p1 false σ )
      · refine V_iconst hO 1 dX7_go_64 (by decide) ?_
        refine V_goto hO 69 dX7_go_65 (by decide) ?_
        exact V_sub [0, 1] rfl (T_X7_go_69 hO hR p1 true σ )
  · refine V_aload_n hO 0 dX7_go_7 rfl rfl ?_
    refine V_get hO (v := .ref (α (61))) fl_X7_25 (by decide) (fun _ _ => ce_55) rfl dX7_go_8 ?_
    refine V_aload_n hO 0 dX7_go_11 rfl rfl ?_
    refine V_get hO (v := .int (σ.1 55 10)) fl_X7_144 (by decide) (fun _ _ => ce_55) rfl dX7_go_12 ?_
    refine V_iload_n hO 1 dX7_go_15 rfl rfl ?_
    refine V_bipush hO 48 dX7_go_16 (by decide) ?_
    refine V_isub hO dX7_go_18 ?_
    refine V_chk rfl fun c7 => ?_
    refine V_iast hO (by decide) (fun _ _ _ => ce_61) (inb_in c7) dX7_go_19 (V_name fun h8 => ?_)
    refine V_aload_n hO 0 dX7_go_20 rfl rfl ?_
    refine V_dup hO dX7_go_21 rfl ?_
    refine V_get hO (v := .int (h8.1 55 10)) fl_X7_144 (by decide) (fun _ _ => ce_55) rfl dX7_go_22 ?_
    refine V_iconst hO 1 dX7_go_25 (by decide) ?_
    refine V_iadd hO dX7_go_26 ?_
    refine V_puti hO fp_X7_144 (by decide) (fun _ _ => ce_55) (Nat.le_of_ble_eq_true rfl) (fun _ _ => pe_55_10) dX7_go_27 (V_name fun h9 => ?_)
    refine V_aload_n hO 0 dX7_go_30 rfl rfl ?_
    refine V_iconst hO 0 dX7_go_31 (by decide) ?_
    refine V_putz hO fp_X7_140 (by decide) (fun _ _ => ce_55) (Nat.le_of_ble_eq_true rfl) (by decide) (fun _ _ => pe_55_11) dX7_go_32 (V_name fun h10 => ?_)
    refine V_iload_n hO 1 dX7_go_35 rfl rfl ?_
    refine V_i2l hO dX7_go_36 ?_
    refine V_ldc2 hO (v := 49) dX7_go_37 cn_X7_147 ?_
    refine V_ldc2 hO (v := 57) dX7_go_40 cn_X7_149 ?_
    refine V_callS hO ml_X7_75 (C_X7_in α (Int32.toInt64 p1) (49 : Int64) (57 : Int64) h10) (rest := []) rfl rfl (Nat.le_of_ble_eq_true rfl) ⟨Nat.le_of_ble_eq_true rfl, Nat.le_of_ble_eq_true rfl⟩ dX7_go_43 (kc_Z ?_)
    exact V_zret hO hR (b2i_01 _) rfl dX7_go_46
set_option maxHeartbeats 4000000 in
set_option maxRecDepth 100000 in
theorem C_X7_go (α : Nat → Nat) (p1 : Int32) (σ : Hp) : Ct yX7_go cX7_go 3 (some .boolean) 1 25 α [.ref (α (55)), .int p1] σ (kSZ (F_X7_go p1 σ)) := ct_of_V (own := RX7) rfl (by decide +kernel) (Nat.le_of_ble_eq_true rfl) fun _ hO hR => T_X7_go hO hR p1 σ
/-! X7_faultOf -/
noncomputable def F_X7_faultOf_12  : Nat → Int32 → Hp → Option (Int32 × Hp)
  | 0, _, _ => none
  | n + 1, w1, h =>
    if (h.1 55 9) ≤ w1 then
    some (w1, h)
    else
    if inb w1 24 = true then
    (F_X7_go (h.1 59 (Int32.toNatClampNeg w1)) h).bind fun q2 =>
    if q2.1 = true then
    F_X7_faultOf_12 n (w1 + 1) q2.2
    else
    some (w1, q2.2)
    else none
noncomputable def F_X7_faultOf  (σ : Hp) : Option (Int32 × Hp) :=
  lt (up σ 55 10 (0 : Int32)) fun h3 =>
  lt (up h3 55 11 (0 : Int32)) fun h4 =>
  F_X7_faultOf_12 fuel (0 : Int32) h4
set_option maxHeartbeats 4000000 in
set_option maxRecDepth 100000 in
theorem T_X7_faultOf_12 {G : Gm} {α : Nat → Nat} (hO : Ok G α cX7_faultOf 2 RX7 2 47) (hR : Rt G α (some .int)) : ∀ (fuel : Nat) (w1 : Int32) (h : Hp), V G α 2 (kSI) 12 [(0, .ref (α (55))), (1, .int w1)] [] h (F_X7_faultOf_12 fuel w1 h) := by
  intro fuel
  induction fuel with
  | zero => intro w1 h; exact V_none rfl
  | succ n ih =>
    intro w1 h
    rw [F_X7_faultOf_12]
    refine V_iload_n hO 1 dX7_faultOf_12 rfl rfl ?_
    refine V_aload_n hO 0 dX7_faultOf_13 rfl rfl ?_
    refine V_get hO (v := .int (h.1 55 9)) fl_X7_137 (by decide) (fun _ _ => ce_55) rfl dX7_faultOf_14 ?_
    refine V_icmp_ge hO 39 dX7_faultOf_17 (by decide) ?_ ?_
    · refine V_iload_n hO 1 dX7_faultOf_39 rfl rfl ?_
      exact V_iret hO hR rfl dX7_faultOf_40
    · refine V_aload_n hO 0 dX7_faultOf_20 rfl rfl ?_
      refine V_aload_n hO 0 dX7_faultOf_21 rfl rfl ?_
      refine V_get hO (v := .ref (α (59))) fl_X7_19 (by decide) (fun _ _ => ce_55) rfl dX7_faultOf_22 ?_
      refine V_iload_n hO 1 dX7_faultOf_25 rfl rfl ?_
      refine V_chk rfl fun c1 => ?_
      refine V_iald hO (by decide) (fun _ _ => ce_59) (inb_in c1) dX7_faultOf_26 ?_
      refine V_callV hO ml_X7_154 (C_X7_go α (h.1 59 (Int32.toNatClampNeg w1)) h) (by decide) (fun _ _ => ce_55) rfl rfl (rest := []) rfl rfl (Nat.le_of_ble_eq_true rfl) ⟨Nat.le_of_ble_eq_true rfl, Nat.le_of_ble_eq_true rfl⟩ dX7_faultOf_27 (kc_SZ rfl fun q2 => ?_)
      refine V_ifeqZ hO 39 dX7_faultOf_30 (by decide) ?_ ?_
      · refine V_iload_n hO 1 dX7_faultOf_39 rfl rfl ?_
        exact V_iret hO hR rfl dX7_faultOf_40
      · refine V_iinc hO (ls2 := [(1, .int (w1 + 1)), (0, .ref (α (55)))]) (z := 1) 1 dX7_faultOf_33 rfl (by decide) (by decide) rfl ?_
        refine V_goto hO 12 dX7_faultOf_36 (by decide) ?_
        exact V_sub [1, 0] rfl (ih (w1 + 1) q2.2 )
set_option maxHeartbeats 4000000 in
set_option maxRecDepth 100000 in
theorem T_X7_faultOf {G : Gm} {α : Nat → Nat} (hO : Ok G α cX7_faultOf 2 RX7 2 47) (hR : Rt G α (some .int)) (σ : Hp) : V G α 2 (kSI) 0 [(0, .ref (α (55)))] [] σ (F_X7_faultOf σ) := by
  rw [F_X7_faultOf]
  refine V_aload_n hO 0 dX7_faultOf_0 rfl rfl ?_
  refine V_iconst hO 0 dX7_faultOf_1 (by decide) ?_
  refine V_puti hO fp_X7_144 (by decide) (fun _ _ => ce_55) (Nat.le_of_ble_eq_true rfl) (fun _ _ => pe_55_10) dX7_faultOf_2 (V_name fun h3 => ?_)
  refine V_aload_n hO 0 dX7_faultOf_5 rfl rfl ?_
  refine V_iconst hO 0 dX7_faultOf_6 (by decide) ?_
  refine V_putz hO fp_X7_140 (by decide) (fun _ _ => ce_55) (Nat.le_of_ble_eq_true rfl) (by decide) (fun _ _ => pe_55_11) dX7_faultOf_7 (V_name fun h4 => ?_)
  refine V_iconst hO 0 dX7_faultOf_10 (by decide) ?_
  refine V_istore_n hO (ls2 := [(1, .int 0), (0, .ref (α (55)))]) dX7_faultOf_11 rfl (by decide) rfl ?_
  exact V_sub [1, 0] rfl (T_X7_faultOf_12 hO hR fuel (0 : Int32) h4 )
set_option maxHeartbeats 4000000 in
set_option maxRecDepth 100000 in
theorem C_X7_faultOf (α : Nat → Nat) (σ : Hp) : Ct yX7_faultOf cX7_faultOf 2 (some .int) 2 47 α [.ref (α (55))] σ (kSI (F_X7_faultOf σ)) := ct_of_V (own := RX7) rfl (by decide +kernel) (Nat.le_of_ble_eq_true rfl) fun _ hO hR => T_X7_faultOf hO hR σ
/-! X7_fault -/
noncomputable def F_X7_fault  (σ : Hp) : Option (Int32 × Hp) :=
  (F_X7_faultOf σ).bind fun q1 =>
  some (q1.1, q1.2)
set_option maxHeartbeats 4000000 in
set_option maxRecDepth 100000 in
theorem T_X7_fault {G : Gm} {α : Nat → Nat} (hO : Ok G α cX7_fault 1 RX7 3 68) (hR : Rt G α (some .int)) (σ : Hp) : V G α 1 (kSI) 0 [(0, .ref (α (55)))] [] σ (F_X7_fault σ) := by
  rw [F_X7_fault]
  refine V_aload_n hO 0 dX7_fault_0 rfl rfl ?_
  refine V_callV hO ml_X7_157 (C_X7_faultOf α σ) (by decide) (fun _ _ => ce_55) rfl rfl (rest := []) rfl rfl (Nat.le_of_ble_eq_true rfl) ⟨Nat.le_of_ble_eq_true rfl, Nat.le_of_ble_eq_true rfl⟩ dX7_fault_1 (kc_SI rfl fun q1 => ?_)
  exact V_iret hO hR rfl dX7_fault_4
set_option maxHeartbeats 4000000 in
set_option maxRecDepth 100000 in
theorem C_X7_fault (α : Nat → Nat) (σ : Hp) : Ct yX7_fault cX7_fault 1 (some .int) 3 68 α [.ref (α (55))] σ (kSI (F_X7_fault σ)) := ct_of_V (own := RX7) rfl (by decide +kernel) (Nat.le_of_ble_eq_true rfl) fun _ hO hR => T_X7_fault hO hR σ
/-! X7_areDays -/
noncomputable def F_X7_areDays  (σ : Hp) : Option (Bool × Hp) :=
  (F_X7_faultOf σ).bind fun q1 =>
  if q1.1 = (q1.2.1 55 9) then
  if (q1.2.1 55 11) = 0 then
  if (q1.2.1 55 10) ≤ 0 then
  some (false, q1.2)
  else
  some (true, q1.2)
  else
  some (false, q1.2)
  else
  some (false, q1.2)
set_option maxHeartbeats 4000000 in
set_option maxRecDepth 100000 in
theorem T_X7_areDays {G : Gm} {α : Nat → Nat} (hO : Ok G α cX7_areDays 1 RX7 3 68) (hR : Rt G α (some .boolean)) (σ : Hp) : V G α 1 (kSZ) 0 [(0, .ref (α (55)))] [] σ (F_X7_areDays σ) := by
  rw [F_X7_areDays]
  refine V_aload_n hO 0 dX7_areDays_0 rfl rfl ?_
  refine V_callV hO ml_X7_157 (C_X7_faultOf α σ) (by decide) (fun _ _ => ce_55) rfl rfl (rest := []) rfl rfl (Nat.le_of_ble_eq_true rfl) ⟨Nat.le_of_ble_eq_true rfl, Nat.le_of_ble_eq_true rfl⟩ dX7_areDays_1 (kc_SI rfl fun q1 => ?_)
  refine V_aload_n hO 0 dX7_areDays_4 rfl rfl ?_
  refine V_get hO (v := .int (q1.2.1 55 9)) fl_X7_137 (by decide) (fun _ _ => ce_55) rfl dX7_areDays_5 ?_
  refine V_icmp_ne hO 29 dX7_areDays_8 (by decide) ?_ ?_
  · refine V_iconst hO 0 dX7_areDays_29 (by decide) ?_
    exact V_zret hO hR (by decide) rfl dX7_areDays_30
  · refine V_aload_n hO 0 dX7_areDays_11 rfl rfl ?_
    refine V_get hO (v := .int (q1.2.1 55 11)) fl_X7_140 (by decide) (fun _ _ => ce_55) rfl dX7_areDays_12 ?_
    refine V_if_ne hO 29 dX7_areDays_15 (by decide) ?_ ?_
    · refine V_iconst hO 0 dX7_areDays_29 (by decide) ?_
      exact V_zret hO hR (by decide) rfl dX7_areDays_30
    · refine V_aload_n hO 0 dX7_areDays_18 rfl rfl ?_
      refine V_get hO (v := .int (q1.2.1 55 10)) fl_X7_144 (by decide) (fun _ _ => ce_55) rfl dX7_areDays_19 ?_
      refine V_if_le hO 29 dX7_areDays_22 (by decide) ?_ ?_
      · refine V_iconst hO 0 dX7_areDays_29 (by decide) ?_
        exact V_zret hO hR (by decide) rfl dX7_areDays_30
      · refine V_iconst hO 1 dX7_areDays_25 (by decide) ?_
        refine V_goto hO 30 dX7_areDays_26 (by decide) ?_
        exact V_zret hO hR (by decide) rfl dX7_areDays_30
set_option maxHeartbeats 4000000 in
set_option maxRecDepth 100000 in
theorem C_X7_areDays (α : Nat → Nat) (σ : Hp) : Ct yX7_areDays cX7_areDays 1 (some .boolean) 3 68 α [.ref (α (55))] σ (kSZ (F_X7_areDays σ)) := ct_of_V (own := RX7) rfl (by decide +kernel) (Nat.le_of_ble_eq_true rfl) fun _ hO hR => T_X7_areDays hO hR σ
/-! X7_less -/
noncomputable def F_X7_less  (p1 : Int32) (p2 : Int32) (σ : Hp) : Int32 :=
  if p1 ≤ p2 then
  (0 : Int32)
  else
  (p1 - p2)
set_option maxHeartbeats 4000000 in
set_option maxRecDepth 100000 in
theorem T_X7_less {G : Gm} {α : Nat → Nat} (hO : Ok G α cX7_less 2 RX7 0 0) (hR : Rt G α (some .int)) (p1 : Int32) (p2 : Int32) (σ : Hp) : V G α 2 (kI σ) 0 [(0, .int p1), (1, .int p2)] [] σ (F_X7_less p1 p2 σ) := by
  rw [F_X7_less]
  refine V_iload_n hO 0 dX7_less_0 rfl rfl ?_
  refine V_iload_n hO 1 dX7_less_1 rfl rfl ?_
  refine V_icmp_le hO 11 dX7_less_2 (by decide) ?_ ?_
  · refine V_iconst hO 0 dX7_less_11 (by decide) ?_
    exact V_iret hO hR rfl dX7_less_12
  · refine V_iload_n hO 0 dX7_less_5 rfl rfl ?_
    refine V_iload_n hO 1 dX7_less_6 rfl rfl ?_
    refine V_isub hO dX7_less_7 ?_
    refine V_goto hO 12 dX7_less_8 (by decide) ?_
    exact V_iret hO hR rfl dX7_less_12
set_option maxHeartbeats 4000000 in
set_option maxRecDepth 100000 in
theorem C_X7_less (α : Nat → Nat) (p1 : Int32) (p2 : Int32) (σ : Hp) : Ct yX7_less cX7_less 2 (some .int) 0 0 α [.int p1, .int p2] σ (kI σ (F_X7_less p1 p2 σ)) := ct_of_V (own := RX7) rfl (by decide +kernel) (Nat.le_of_ble_eq_true rfl) fun _ hO hR => T_X7_less hO hR p1 p2 σ
/-! X7_thawOf -/
noncomputable def F_X7_thawOf  (p1 : Int32) (p2 : Int32) (σ : Hp) : Int32 :=
  if p1 = (4 : Int32) then
  ((p2 + (1 : Int32)) / (2 : Int32))
  else
  p2
set_option maxHeartbeats 4000000 in
set_option maxRecDepth 100000 in
theorem T_X7_thawOf {G : Gm} {α : Nat → Nat} (hO : Ok G α cX7_thawOf 2 RX7 0 0) (hR : Rt G α (some .int)) (p1 : Int32) (p2 : Int32) (σ : Hp) : V G α 2 (kI σ) 0 [(0, .int p1), (1, .int p2)] [] σ (F_X7_thawOf p1 p2 σ) := by
  rw [F_X7_thawOf]
  refine V_iload_n hO 0 dX7_thawOf_0 rfl rfl ?_
  refine V_iconst hO 4 dX7_thawOf_1 (by decide) ?_
  refine V_icmp_ne hO 13 dX7_thawOf_2 (by decide) ?_ ?_
  · refine V_iload_n hO 1 dX7_thawOf_13 rfl rfl ?_
    exact V_iret hO hR rfl dX7_thawOf_14
  · refine V_iload_n hO 1 dX7_thawOf_5 rfl rfl ?_
    refine V_iconst hO 1 dX7_thawOf_6 (by decide) ?_
    refine V_iadd hO dX7_thawOf_7 ?_
    refine V_iconst hO 2 dX7_thawOf_8 (by decide) ?_
    refine V_idiv hO dX7_thawOf_9 (by decide) ?_
    refine V_goto hO 14 dX7_thawOf_10 (by decide) ?_
    exact V_iret hO hR rfl dX7_thawOf_14
set_option maxHeartbeats 4000000 in
set_option maxRecDepth 100000 in
theorem C_X7_thawOf (α : Nat → Nat) (p1 : Int32) (p2 : Int32) (σ : Hp) : Ct yX7_thawOf cX7_thawOf 2 (some .int) 0 0 α [.int p1, .int p2] σ (kI σ (F_X7_thawOf p1 p2 σ)) := ct_of_V (own := RX7) rfl (by decide +kernel) (Nat.le_of_ble_eq_true rfl) fun _ hO hR => T_X7_thawOf hO hR p1 p2 σ
/-! X7_thaw -/
noncomputable def F_X7_thaw_136 (k39 : Int32 → Int32 → Hp → (Option Hp)) (w1 : Int32) (w2 : Int32) (h : Hp) : Option Hp :=
  k39 w1 (w2 + 1) h
noncomputable def F_X7_thaw_131 (k39 : Int32 → Int32 → Hp → (Option Hp)) (w1 : Int32) (w2 : Int32) (h : Hp) : Option Hp :=
  (F_X7_lose w2 h).bind fun q1 =>
  F_X7_thaw_136 k39 w1 w2 q1
noncomputable def F_X7_thaw_39  : Nat → Int32 → Int32 → Hp → Option Hp
  | 0, _, _, _ => none
  | n + 1, w1, w2, h =>
    if (h.1 55 6) ≤ w2 then
    some h
    else
    (F_X7_isThere w2 h).bind fun v2 =>
    if v2 = true then
    if inb (((8 : Int32) * w2) + (5 : Int32)) 80 = true then
    if inb ((8 : Int32) * w2) 80 = true then
    lt (F_X7_less (h.1 58 (Int32.toNatClampNeg (((8 : Int32) * w2) + (5 : Int32)))) (F_X7_thawOf (h.1 58 (Int32.toNatClampNeg ((8 : Int32) * w2))) w1 h) h) fun v5 =>
    if inb (((8 : Int32) * w2) + (5 : Int32)) 80 = true then
    lt (up h 58 (Int32.toNatClampNeg (((8 : Int32) * w2) + (5 : Int32))) v5) fun h7 =>
    if v5 = 0 then
    F_X7_thaw_131 (F_X7_thaw_39 n) w1 w2 h7
    else
    if inb (((8 : Int32) * w2) + (1 : Int32)) 80 = true then
    if inb (h7.1 58 (Int32.toNatClampNeg (((8 : Int32) * w2) + (1 : Int32)))) 16 = true then
    if (h7.1 56 (Int32.toNatClampNeg (h7.1 58 (Int32.toNatClampNeg (((8 : Int32) * w2) + (1 : Int32)))))) = 0 then
    F_X7_thaw_131 (F_X7_thaw_39 n) w1 w2 h7
    else
    if inb ((8 : Int32) * w2) 80 = true then
    if (h7.1 58 (Int32.toNatClampNeg ((8 : Int32) * w2))) = (3 : Int32) then
    F_X7_thaw_131 (F_X7_thaw_39 n) w1 w2 h7
    else
    F_X7_thaw_136 (F_X7_thaw_39 n) w1 w2 h7
    else none
    else none
    else none
    else none
    else none
    else none
    else
    F_X7_thaw_136 (F_X7_thaw_39 n) w1 w2 h
noncomputable def F_X7_thaw_2  : Nat → Int32 → Int32 → Hp → Option Hp
  | 0, _, _, _ => none
  | n + 1, w1, w2, h =>
    if (16 : Int32) ≤ w2 then
    F_X7_thaw_39 fuel w1 (0 : Int32) h
    else
    if inb w2 16 = true then
    lt (up h 57 (Int32.toNatClampNeg w2) (0 : Int32)) fun h12 =>
    if inb w2 16 = true then
    if inb w2 16 = true then
    lt (up h12 56 (Int32.toNatClampNeg w2) (F_X7_less (h12.1 56 (Int32.toNatClampNeg w2)) w1 h12)) fun h15 =>
    F_X7_thaw_2 n w1 (w2 + 1) h15
    else none
    else none
    else none
noncomputable def F_X7_thaw  (p1 : Int32) (σ : Hp) : Option Hp :=
  F_X7_thaw_2 fuel p1 (0 : Int32) σ
set_option maxHeartbeats 4000000 in
set_option maxRecDepth 100000 in
theorem T_X7_thaw_136 {G : Gm} {α : Nat → Nat} (hO : Ok G α cX7_thaw 4 RX7 1 21) (hR : Rt G α none) (k39 : Int32 → Int32 → Hp → (Option Hp)) (hk39 : ∀ (w1 : Int32) (w2 : Int32) (h : Hp), V G α 4 (kSV) 39 [(0, .ref (α (55))), (1, .int w1), (2, .int w2)] [] h (k39 w1 w2 h)) : ∀ (w1 : Int32) (w2 : Int32) (h : Hp), V G α 4 (kSV) 136 [(0, .ref (α (55))), (1, .int w1), (2, .int w2)] [] h (F_X7_thaw_136 k39 w1 w2 h) := by
  intro w1 w2 h
  rw [F_X7_thaw_136]
  refine V_iinc hO (ls2 := [(2, .int (w2 + 1)), (0, .ref (α (55))), (1, .int w1)]) (z := 1) 2 dX7_thaw_136 rfl (by decide) (by decide) rfl ?_
  refine V_goto hO 39 dX7_thaw_139 (by decide) ?_
  exact V_sub [1, 2, 0] rfl (hk39 w1 (w2 + 1) h )
set_option maxHeartbeats 4000000 in
set_option maxRecDepth 100000 in
theorem T_X7_thaw_131 {G : Gm} {α : Nat → Nat} (hO : Ok G α cX7_thaw 4 RX7 1 21) (hR : Rt G α none) (k39 : Int32 → Int32 → Hp → (Option Hp)) (hk39 : ∀ (w1 : Int32) (w2 : Int32) (h : Hp), V G α 4 (kSV) 39 [(0, .ref (α (55))), (1, .int w1), (2, .int w2)] [] h (k39 w1 w2 h)) : ∀ (w1 : Int32) (w2 : Int32) (h : Hp), V G α 4 (kSV) 131 [(0, .ref (α (55))), (1, .int w1), (2, .int w2)] [] h (F_X7_thaw_131 k39 w1 w2 h) := by
  intro w1 w2 h
  rw [F_X7_thaw_131]
  refine V_aload_n hO 0 dX7_thaw_131 rfl rfl ?_
  refine V_iload_n hO 2 dX7_thaw_132 rfl rfl ?_
  refine V_callV hO ml_X7_114 (C_X7_lose α w2 h) (by decide) (fun _ _ => ce_55) rfl rfl (rest := []) rfl rfl (Nat.le_of_ble_eq_true rfl) ⟨Nat.le_of_ble_eq_true rfl, Nat.le_of_ble_eq_true rfl⟩ dX7_thaw_133 (kc_SV rfl fun q1 => ?_)
  exact V_sub [0, 1, 2] rfl (T_X7_thaw_136 hO hR k39 hk39 w1 w2 q1 )
set_option maxHeartbeats 4000000 in
set_option maxRecDepth 100000 in
theorem T_X7_thaw_39 {G : Gm} {α : Nat → Nat} (hO : Ok G α cX7_thaw 4 RX7 1 21) (hR : Rt G α none) : ∀ (fuel : Nat) (w1 : Int32) (w2 : Int32) (h : Hp), V G α 4 (kSV) 39 [(0, .ref (α (55))), (1, .int w1), (2, .int w2)] [] h (F_X7_thaw_39 fuel w1 w2 h) := by
  intro fuel
  induction fuel with
  | zero => intro w1 w2 h; exact V_none rfl
  | succ n ih =>
    intro w1 w2 h
    rw [F_X7_thaw_39]
    refine V_iload_n hO 2 dX7_thaw_39 rfl rfl ?_
    refine V_aload_n hO 0 dX7_thaw_40 rfl rfl ?_
    refine V_get hO (v := .int (h.1 55 6)) fl_X7_79 (by decide) (fun _ _ => ce_55) rfl dX7_thaw_41 ?_
    refine V_icmp_ge hO 142 dX7_thaw_44 (by decide) ?_ ?_
    · exact V_vret hO hR rfl dX7_thaw_142
    · refine V_aload_n hO 0 dX7_thaw_47 rfl rfl ?_
      refine V_iload_n hO 2 dX7_thaw_48 rfl rfl ?_
      refine V_callV hO ml_X7_94 (C_X7_isThere α w2 h) (by decide) (fun _ _ => ce_55) rfl rfl (rest := []) rfl rfl (Nat.le_of_ble_eq_true rfl) ⟨Nat.le_of_ble_eq_true rfl, Nat.le_of_ble_eq_true rfl⟩ dX7_thaw_49 (kc_OZ rfl fun v2 => ?_)
      refine V_ifeqZ hO 136 dX7_thaw_52 (by decide) ?_ ?_
      · exact V_sub [0, 1, 2] rfl (T_X7_thaw_136 hO hR (F_X7_thaw_39 n) ih w1 w2 h )
      · refine V_aload_n hO 0 dX7_thaw_55 rfl rfl ?_
        refine V_get hO (v := .ref (α (58))) fl_X7_16 (by decide) (fun _ _ => ce_55) rfl dX7_thaw_56 ?_
        refine V_bipush hO 8 dX7_thaw_59 (by decide) ?_
        refine V_iload_n hO 2 dX7_thaw_61 rfl rfl ?_
        refine V_imul hO dX7_thaw_62 ?_
        refine V_iconst hO 5 dX7_thaw_63 (by decide) ?_
        refine V_iadd hO dX7_thaw_64 ?_
        refine V_chk rfl fun c3 => ?_
        refine V_iald hO (by decide) (fun _ _ => ce_58) (inb_in c3) dX7_thaw_65 ?_
        refine V_aload_n hO 0 dX7_thaw_66 rfl rfl ?_
        refine V_get hO (v := .ref (α (58))) fl_X7_16 (by decide) (fun _ _ => ce_55) rfl dX7_thaw_67 ?_
        refine V_bipush hO 8 dX7_thaw_70 (by decide) ?_
        refine V_iload_n hO 2 dX7_thaw_72 rfl rfl ?_
        refine V_imul hO dX7_thaw_73 ?_
        refine V_chk rfl fun c4 => ?_
        refine V_iald hO (by decide) (fun _ _ => ce_58) (inb_in c4) dX7_thaw_74 ?_
        refine V_iload_n hO 1 dX7_thaw_75 rfl rfl ?_
        refine V_callS hO ml_X7_163 (C_X7_thawOf α (h.1 58 (Int32.toNatClampNeg ((8 : Int32) * w2))) w1 h) (rest := [.int (h.1 58 (Int32.toNatClampNeg (((8 : Int32) * w2) + (5 : Int32))))]) rfl rfl (Nat.le_of_ble_eq_true rfl) ⟨Nat.le_of_ble_eq_true rfl, Nat.le_of_ble_eq_true rfl⟩ dX7_thaw_76 (kc_I ?_)
        refine V_callS hO ml_X7_160 (C_X7_less α (h.1 58 (Int32.toNatClampNeg (((8 : Int32) * w2) + (5 : Int32)))) (F_X7_thawOf (h.1 58 (Int32.toNatClampNeg ((8 : Int32) * w2))) w1 h) h) (rest := []) rfl rfl (Nat.le_of_ble_eq_true rfl) ⟨Nat.le_of_ble_eq_true rfl, Nat.le_of_ble_eq_true rfl⟩ dX7_thaw_79 (kc_I ?_)
        refine V_istore_nN hO (ls2 := fun v5 => [(3, .int v5), (0, .ref (α (55))), (1, .int w1), (2, .int w2)]) dX7_thaw_82 rfl (by decide) (fun _ => rfl) (fun v5 => ?_)
        refine V_aload_n hO 1 dX7_thaw_83 rfl rfl ?_
        refine V_get hO (v := .ref (α (58))) fl_X7_16 (by decide) (fun _ _ => ce_55) rfl dX7_thaw_84 ?_
        refine V_bipush hO 8 dX7_thaw_87 (by decide) ?_
        refine V_iload_n hO 3 dX7_thaw_89 rfl rfl ?_
        refine V_imul hO dX7_thaw_90 ?_
        refine V_iconst hO 5 dX7_thaw_91 (by decide) ?_
        refine V_iadd hO dX7_thaw_92 ?_
        refine V_iload_n hO 0 dX7_thaw_93 rfl rfl ?_
        refine V_chk rfl fun c6 => ?_
        refine V_iast hO (by decide) (fun _ _ _ => ce_58) (inb_in c6) dX7_thaw_94 (V_name fun h7 => ?_)
        refine V_iload_n hO 0 dX7_thaw_95 rfl rfl ?_
        refine V_if_eq hO 131 dX7_thaw_96 (by decide) ?_ ?_
        · exact V_sub [1, 2, 3] rfl (T_X7_thaw_131 hO hR (F_X7_thaw_39 n) ih w1 w2 h7 )
        · refine V_aload_n hO 1 dX7_thaw_99 rfl rfl ?_
          refine V_get hO (v := .ref (α (56))) fl_X7_7 (by decide) (fun _ _ => ce_55) rfl dX7_thaw_100 ?_
          refine V_aload_n hO 1 dX7_thaw_103 rfl rfl ?_
          refine V_get hO (v := .ref (α (58))) fl_X7_16 (by decide) (fun _ _ => ce_55) rfl dX7_thaw_104 ?_
          refine V_bipush hO 8 dX7_thaw_107 (by decide) ?_
          refine V_iload_n hO 3 dX7_thaw_109 rfl rfl ?_
          refine V_imul hO dX7_thaw_110 ?_
          refine V_iconst hO 1 dX7_thaw_111 (by decide) ?_
          refine V_iadd hO dX7_thaw_112 ?_
          refine V_chk rfl fun c8 => ?_
          refine V_iald hO (by decide) (fun _ _ => ce_58) (inb_in c8) dX7_thaw_113 ?_
          refine V_chk rfl fun c9 => ?_
          refine V_iald hO (by decide) (fun _ _ => ce_56) (inb_in c9) dX7_thaw_114 ?_
          refine V_if_eq hO 131 dX7_thaw_115 (by decide) ?_ ?_
          · exact V_sub [1, 2, 3] rfl (T_X7_thaw_131 hO hR (F_X7_thaw_39 n) ih w1 w2 h7 )
          · refine V_aload_n hO 1 dX7_thaw_118 rfl rfl ?_
            refine V_get hO (v := .ref (α (58))) fl_X7_16 (by decide) (fun _ _ => ce_55) rfl dX7_thaw_119 ?_
            refine V_bipush hO 8 dX7_thaw_122 (by decide) ?_
            refine V_iload_n hO 3 dX7_thaw_124 rfl rfl ?_
            refine V_imul hO dX7_thaw_125 ?_
            refine V_chk rfl fun c10 => ?_
            refine V_iald hO (by decide) (fun _ _ => ce_58) (inb_in c10) dX7_thaw_126 ?_
            refine V_iconst hO 3 dX7_thaw_127 (by decide) ?_
            refine V_icmp_ne hO 136 dX7_thaw_128 (by decide) ?_ ?_
            · exact V_sub [1, 2, 3] rfl (T_X7_thaw_136 hO hR (F_X7_thaw_39 n) ih w1 w2 h7 )
            · exact V_sub [1, 2, 3] rfl (T_X7_thaw_131 hO hR (F_X7_thaw_39 n) ih w1 w2 h7 )
set_option maxHeartbeats 4000000 in
set_option maxRecDepth 100000 in
theorem T_X7_thaw_2 {G : Gm} {α : Nat → Nat} (hO : Ok G α cX7_thaw 4 RX7 1 21) (hR : Rt G α none) : ∀ (fuel : Nat) (w1 : Int32) (w2 : Int32) (h : Hp), V G α 4 (kSV) 2 [(0, .ref (α (55))), (1, .int w1), (2, .int w2)] [] h (F_X7_thaw_2 fuel w1 w2 h) := by
  intro fuel
  induction fuel with
  | zero => intro w1 w2 h; exact V_none rfl
  | succ n ih =>
    intro w1 w2 h
    rw [F_X7_thaw_2]
    refine V_iload_n hO 2 dX7_thaw_2 rfl rfl ?_
    refine V_bipush hO 16 dX7_thaw_3 (by decide) ?_
    refine V_icmp_ge hO 37 dX7_thaw_5 (by decide) ?_ ?_
    · refine V_iconst hO 0 dX7_thaw_37 (by decide) ?_
      refine V_istore_n hO (ls2 := [(2, .int 0), (0, .ref (α (55))), (1, .int w1)]) dX7_thaw_38 rfl (by decide) rfl ?_
      exact V_sub [1, 2, 0] rfl (T_X7_thaw_39 hO hR fuel w1 (0 : Int32) h )
    · refine V_aload_n hO 0 dX7_thaw_8 rfl rfl ?_
      refine V_get hO (v := .ref (α (57))) fl_X7_13 (by decide) (fun _ _ => ce_55) rfl dX7_thaw_9 ?_
      refine V_iload_n hO 2 dX7_thaw_12 rfl rfl ?_
      refine V_iconst hO 0 dX7_thaw_13 (by decide) ?_
      refine V_chk rfl fun c11 => ?_
      refine V_iast hO (by decide) (fun _ _ _ => ce_57) (inb_in c11) dX7_thaw_14 (V_name fun h12 => ?_)
      refine V_aload_n hO 0 dX7_thaw_15 rfl rfl ?_
      refine V_get hO (v := .ref (α (56))) fl_X7_7 (by decide) (fun _ _ => ce_55) rfl dX7_thaw_16 ?_
      refine V_iload_n hO 2 dX7_thaw_19 rfl rfl ?_
      refine V_aload_n hO 0 dX7_thaw_20 rfl rfl ?_
      refine V_get hO (v := .ref (α (56))) fl_X7_7 (by decide) (fun _ _ => ce_55) rfl dX7_thaw_21 ?_
      refine V_iload_n hO 2 dX7_thaw_24 rfl rfl ?_
      refine V_chk rfl fun c13 => ?_
      refine V_iald hO (by decide) (fun _ _ => ce_56) (inb_in c13) dX7_thaw_25 ?_
      refine V_iload_n hO 1 dX7_thaw_26 rfl rfl ?_
      refine V_callS hO ml_X7_160 (C_X7_less α (h12.1 56 (Int32.toNatClampNeg w2)) w1 h12) (rest := [.int w2, .ref (α (56))]) rfl rfl (Nat.le_of_ble_eq_true rfl) ⟨Nat.le_of_ble_eq_true rfl, Nat.le_of_ble_eq_true rfl⟩ dX7_thaw_27 (kc_I ?_)
      refine V_chk rfl fun c14 => ?_
      refine V_iast hO (by decide) (fun _ _ _ => ce_56) (inb_in c14) dX7_thaw_30 (V_name fun h15 => ?_)
      refine V_iinc hO (ls2 := [(2, .int (w2 + 1)), (0, .ref (α (55))), (1, .int w1)]) (z := 1) 2 dX7_thaw_31 rfl (by decide) (by decide) rfl ?_
      refine V_goto hO 2 dX7_thaw_34 (by decide) ?_
      exact V_sub [1, 2, 0] rfl (ih w1 (w2 + 1) h15 )
set_option maxHeartbeats 4000000 in
set_option maxRecDepth 100000 in
theorem T_X7_thaw {G : Gm} {α : Nat → Nat} (hO : Ok G α cX7_thaw 4 RX7 1 21) (hR : Rt G α none) (p1 : Int32) (σ : Hp) : V G α 4 (kSV) 0 [(0, .ref (α (55))), (1, .int p1)] [] σ (F_X7_thaw p1 σ) := by
  rw [F_X7_thaw]
  refine V_iconst hO 0 dX7_thaw_0 (by decide) ?_
  refine V_istore_n hO (ls2 := [(2, .int 0), (0, .ref (α (55))), (1, .int p1)]) dX7_thaw_1 rfl (by decide) rfl ?_
  exact V_sub [1, 2, 0] rfl (T_X7_thaw_2 hO hR fuel p1 (0 : Int32) σ )
set_option maxHeartbeats 4000000 in
set_option maxRecDepth 100000 in
theorem C_X7_thaw (α : Nat → Nat) (p1 : Int32) (σ : Hp) : Ct yX7_thaw cX7_thaw 4 none 1 21 α [.ref (α (55)), .int p1] σ (kSV (F_X7_thaw p1 σ)) := ct_of_V (own := RX7) rfl (by decide +kernel) (Nat.le_of_ble_eq_true rfl) fun _ hO hR => T_X7_thaw hO hR p1 σ
/-! X7_day -/
noncomputable def F_X7_day_110 (k12 : Int32 → Int32 → Int32 → Hp → (Option Hp)) (w1 : Int32) (w2 : Int32) (w3 : Int32) (s0 : Int32) (s1 : Int32) (h : Hp) : Option Hp :=
  if inb s1 16 = true then
  lt (up h 57 (Int32.toNatClampNeg s1) s0) fun h2 =>
  k12 w1 w2 (w3 + 1) h2
  else none
noncomputable def F_X7_day_104 (k12 : Int32 → Int32 → Int32 → Hp → (Option Hp)) (w1 : Int32) (w2 : Int32) (w3 : Int32) (s0 : Int32) (h : Hp) : Option Hp :=
  if inb w3 16 = true then
  F_X7_day_110 k12 w1 w2 w3 (h.1 57 (Int32.toNatClampNeg w3)) s0 h
  else none
noncomputable def F_X7_day_62 (k12 : Int32 → Int32 → Int32 → Hp → (Option Hp)) (w1 : Int32) (w2 : Int32) (w3 : Int32) (s0 : Int32) (s1 : Int32) (h : Hp) : Option Hp :=
  if inb s1 16 = true then
  lt (up h 56 (Int32.toNatClampNeg s1) s0) fun h5 =>
  if w1 = (3 : Int32) then
  F_X7_day_110 k12 w1 w2 w3 (0 : Int32) w3 h5
  else
  if w1 = (2 : Int32) then
  if inb w3 16 = true then
  if (9 : Int32) ≤ (h5.1 57 (Int32.toNatClampNeg w3)) then
  F_X7_day_104 k12 w1 w2 w3 w3 h5
  else
  if inb w3 16 = true then
  F_X7_day_110 k12 w1 w2 w3 ((h5.1 57 (Int32.toNatClampNeg w3)) + (1 : Int32)) w3 h5
  else none
  else none
  else
  F_X7_day_104 k12 w1 w2 w3 w3 h5
  else none
noncomputable def F_X7_day_12  : Nat → Int32 → Int32 → Int32 → Hp → Option Hp
  | 0, _, _, _, _ => none
  | n + 1, w1, w2, w3, h =>
    if (16 : Int32) ≤ w3 then
    some h
    else
    if w1 = 0 then
    if inb w3 16 = true then
    if ((h.1 56 (Int32.toNatClampNeg w3)) + w2) ≤ (99 : Int32) then
    if inb w3 16 = true then
    F_X7_day_62 (F_X7_day_12 n) w1 w2 w3 ((h.1 56 (Int32.toNatClampNeg w3)) + w2) w3 h
    else none
    else
    F_X7_day_62 (F_X7_day_12 n) w1 w2 w3 (99 : Int32) w3 h
    else none
    else
    if inb w3 16 = true then
    F_X7_day_62 (F_X7_day_12 n) w1 w2 w3 (h.1 56 (Int32.toNatClampNeg w3)) w3 h
    else none
noncomputable def F_X7_day  (p1 : Int32) (p2 : Int32) (σ : Hp) : Option Hp :=
  if p1 = (1 : Int32) then
  (F_X7_thaw p2 σ).bind fun q11 =>
  F_X7_day_12 fuel p1 p2 (0 : Int32) q11
  else
  F_X7_day_12 fuel p1 p2 (0 : Int32) σ
set_option maxHeartbeats 4000000 in
set_option maxRecDepth 100000 in
theorem T_X7_day_110 {G : Gm} {α : Nat → Nat} (hO : Ok G α cX7_day 4 RX7 2 44) (hR : Rt G α none) (k12 : Int32 → Int32 → Int32 → Hp → (Option Hp)) (hk12 : ∀ (w1 : Int32) (w2 : Int32) (w3 : Int32) (h : Hp), V G α 4 (kSV) 12 [(0, .ref (α (55))), (1, .int w1), (2, .int w2), (3, .int w3)] [] h (k12 w1 w2 w3 h)) : ∀ (w1 : Int32) (w2 : Int32) (w3 : Int32) (s0 : Int32) (s1 : Int32) (h : Hp), V G α 4 (kSV) 110 [(0, .ref (α (55))), (1, .int w1), (2, .int w2), (3, .int w3)] [.int s0, .int s1, .ref (α (57))] h (F_X7_day_110 k12 w1 w2 w3 s0 s1 h) := by
  intro w1 w2 w3 s0 s1 h
  rw [F_X7_day_110]
  refine V_chk rfl fun c1 => ?_
  refine V_iast hO (by decide) (fun _ _ _ => ce_57) (inb_in c1) dX7_day_110 (V_name fun h2 => ?_)
  refine V_iinc hO (ls2 := [(3, .int (w3 + 1)), (0, .ref (α (55))), (1, .int w1), (2, .int w2)]) (z := 1) 3 dX7_day_111 rfl (by decide) (by decide) rfl ?_
  refine V_goto hO 12 dX7_day_114 (by decide) ?_
  exact V_sub [1, 2, 3, 0] rfl (hk12 w1 w2 (w3 + 1) h2 )
set_option maxHeartbeats 4000000 in
set_option maxRecDepth 100000 in
theorem T_X7_day_104 {G : Gm} {α : Nat → Nat} (hO : Ok G α cX7_day 4 RX7 2 44) (hR : Rt G α none) (k12 : Int32 → Int32 → Int32 → Hp → (Option Hp)) (hk12 : ∀ (w1 : Int32) (w2 : Int32) (w3 : Int32) (h : Hp), V G α 4 (kSV) 12 [(0, .ref (α (55))), (1, .int w1), (2, .int w2), (3, .int w3)] [] h (k12 w1 w2 w3 h)) : ∀ (w1 : Int32) (w2 : Int32) (w3 : Int32) (s0 : Int32) (h : Hp), V G α 4 (kSV) 104 [(0, .ref (α (55))), (1, .int w1), (2, .int w2), (3, .int w3)] [.int s0, .ref (α (57))] h (F_X7_day_104 k12 w1 w2 w3 s0 h) := by
  intro w1 w2 w3 s0 h
  rw [F_X7_day_104]
  refine V_aload_n hO 0 dX7_day_104 rfl rfl ?_
  refine V_get hO (v := .ref (α (57))) fl_X7_13 (by decide) (fun _ _ => ce_55) rfl dX7_day_105 ?_
  refine V_iload_n hO 3 dX7_day_108 rfl rfl ?_
  refine V_chk rfl fun c3 => ?_
  refine V_iald hO (by decide) (fun _ _ => ce_57) (inb_in c3) dX7_day_109 ?_
  exact V_sub [0, 1, 2, 3] rfl (T_X7_day_110 hO hR k12 hk12 w1 w2 w3 (h.1 57 (Int32.toNatClampNeg w3)) s0 h )
set_option maxHeartbeats 4000000 in
set_option maxRecDepth 100000 in
theorem T_X7_day_62 {G : Gm} {α : Nat → Nat} (hO : Ok G α cX7_day 4 RX7 2 44) (hR : Rt G α none) (k12 : Int32 → Int32 → Int32 → Hp → (Option Hp)) (hk12 : ∀ (w1 : Int32) (w2 : Int32) (w3 : Int32) (h : Hp), V G α 4 (kSV) 12 [(0, .ref (α (55))), (1, .int w1), (2, .int w2), (3, .int w3)] [] h (k12 w1 w2 w3 h)) : ∀ (w1 : Int32) (w2 : Int32) (w3 : Int32) (s0 : Int32) (s1 : Int32) (h : Hp), V G α 4 (kSV) 62 [(0, .ref (α (55))), (1, .int w1), (2, .int w2), (3, .int w3)] [.int s0, .int s1, .ref (α (56))] h (F_X7_day_62 k12 w1 w2 w3 s0 s1 h) := by
  intro w1 w2 w3 s0 s1 h
  rw [F_X7_day_62]
  refine V_chk rfl fun c4 => ?_
  refine V_iast hO (by decide) (fun _ _ _ => ce_56) (inb_in c4) dX7_day_62 (V_name fun h5 => ?_)
  refine V_aload_n hO 0 dX7_day_63 rfl rfl ?_
  refine V_get hO (v := .ref (α (57))) fl_X7_13 (by decide) (fun _ _ => ce_55) rfl dX7_day_64 ?_
  refine V_iload_n hO 3 dX7_day_67 rfl rfl ?_
  refine V_iload_n hO 1 dX7_day_68 rfl rfl ?_
  refine V_iconst hO 3 dX7_day_69 (by decide) ?_
  refine V_icmp_ne hO 77 dX7_day_70 (by decide) ?_ ?_
  · refine V_iload_n hO 1 dX7_day_77 rfl rfl ?_
    refine V_iconst hO 2 dX7_day_78 (by decide) ?_
    refine V_icmp_ne hO 104 dX7_day_79 (by decide) ?_ ?_
    · exact V_sub [0, 1, 2, 3] rfl (T_X7_day_104 hO hR k12 hk12 w1 w2 w3 w3 h5 )
    · refine V_aload_n hO 0 dX7_day_82 rfl rfl ?_
      refine V_get hO (v := .ref (α (57))) fl_X7_13 (by decide) (fun _ _ => ce_55) rfl dX7_day_83 ?_
      refine V_iload_n hO 3 dX7_day_86 rfl rfl ?_
      refine V_chk rfl fun c6 => ?_
      refine V_iald hO (by decide) (fun _ _ => ce_57) (inb_in c6) dX7_day_87 ?_
      refine V_bipush hO 9 dX7_day_88 (by decide) ?_
      refine V_icmp_ge hO 104 dX7_day_90 (by decide) ?_ ?_
      · exact V_sub [0, 1, 2, 3] rfl (T_X7_day_104 hO hR k12 hk12 w1 w2 w3 w3 h5 )
      · refine V_aload_n hO 0 dX7_day_93 rfl rfl ?_
        refine V_get hO (v := .ref (α (57))) fl_X7_13 (by decide) (fun _ _ => ce_55) rfl dX7_day_94 ?_
        refine V_iload_n hO 3 dX7_day_97 rfl rfl ?_
        refine V_chk rfl fun c7 => ?_
        refine V_iald hO (by decide) (fun _ _ => ce_57) (inb_in c7) dX7_day_98 ?_
        refine V_iconst hO 1 dX7_day_99 (by decide) ?_
        refine V_iadd hO dX7_day_100 ?_
        refine V_goto hO 110 dX7_day_101 (by decide) ?_
        exact V_sub [0, 1, 2, 3] rfl (T_X7_day_110 hO hR k12 hk12 w1 w2 w3 ((h5.1 57 (Int32.toNatClampNeg w3)) + (1 : Int32)) w3 h5 )
  · refine V_iconst hO 0 dX7_day_73 (by decide) ?_
    refine V_goto hO 110 dX7_day_74 (by decide) ?_
    exact V_sub [0, 1, 2, 3] rfl (T_X7_day_110 hO hR k12 hk12 w1 w2 w3 (0 : Int32) w3 h5 )
set_option maxHeartbeats 4000000 in
set_option maxRecDepth 100000 in
theorem T_X7_day_12 {G : Gm} {α : Nat → Nat} (hO : Ok G α cX7_day 4 RX7 2 44) (hR : Rt G α none) : ∀ (fuel : Nat) (w1 : Int32) (w2 : Int32) (w3 : Int32) (h : Hp), V G α 4 (kSV) 12 [(0, .ref (α (55))), (1, .int w1), (2, .int w2), (3, .int w3)] [] h (F_X7_day_12 fuel w1 w2 w3 h) := by
  intro fuel
  induction fuel with
  | zero => intro w1 w2 w3 h; exact V_none rfl
  | succ n ih =>
    intro w1 w2 w3 h
    rw [F_X7_day_12]
    refine V_iload_n hO 3 dX7_day_12 rfl rfl ?_
    refine V_bipush hO 16 dX7_day_13 (by decide) ?_
    refine V_icmp_ge hO 117 dX7_day_15 (by decide) ?_ ?_
    · exact V_vret hO hR rfl dX7_day_117
    · refine V_aload_n hO 0 dX7_day_18 rfl rfl ?_
      refine V_get hO (v := .ref (α (56))) fl_X7_7 (by decide) (fun _ _ => ce_55) rfl dX7_day_19 ?_
      refine V_iload_n hO 3 dX7_day_22 rfl rfl ?_
      refine V_iload_n hO 1 dX7_day_23 rfl rfl ?_
      refine V_if_ne hO 56 dX7_day_24 (by decide) ?_ ?_
      · refine V_aload_n hO 0 dX7_day_56 rfl rfl ?_
        refine V_get hO (v := .ref (α (56))) fl_X7_7 (by decide) (fun _ _ => ce_55) rfl dX7_day_57 ?_
        refine V_iload_n hO 3 dX7_day_60 rfl rfl ?_
        refine V_chk rfl fun c8 => ?_
        refine V_iald hO (by decide) (fun _ _ => ce_56) (inb_in c8) dX7_day_61 ?_
        exact V_sub [0, 1, 2, 3] rfl (T_X7_day_62 hO hR (F_X7_day_12 n) ih w1 w2 w3 (h.1 56 (Int32.toNatClampNeg w3)) w3 h )
      · refine V_aload_n hO 0 dX7_day_27 rfl rfl ?_
        refine V_get hO (v := .ref (α (56))) fl_X7_7 (by decide) (fun _ _ => ce_55) rfl dX7_day_28 ?_
        refine V_iload_n hO 3 dX7_day_31 rfl rfl ?_
        refine V_chk rfl fun c9 => ?_
        refine V_iald hO (by decide) (fun _ _ => ce_56) (inb_in c9) dX7_day_32 ?_
        refine V_iload_n hO 2 dX7_day_33 rfl rfl ?_
        refine V_iadd hO dX7_day_34 ?_
        refine V_bipush hO 99 dX7_day_35 (by decide) ?_
        refine V_icmp_le hO 45 dX7_day_37 (by decide) ?_ ?_
        · refine V_aload_n hO 0 dX7_day_45 rfl rfl ?_
          refine V_get hO (v := .ref (α (56))) fl_X7_7 (by decide) (fun _ _ => ce_55) rfl dX7_day_46 ?_
          refine V_iload_n hO 3 dX7_day_49 rfl rfl ?_
          refine V_chk rfl fun c10 => ?_
          refine V_iald hO (by decide) (fun _ _ => ce_56) (inb_in c10) dX7_day_50 ?_
          refine V_iload_n hO 2 dX7_day_51 rfl rfl ?_
          refine V_iadd hO dX7_day_52 ?_
          refine V_goto hO 62 dX7_day_53 (by decide) ?_
          exact V_sub [0, 1, 2, 3] rfl (T_X7_day_62 hO hR (F_X7_day_12 n) ih w1 w2 w3 ((h.1 56 (Int32.toNatClampNeg w3)) + w2) w3 h )
        · refine V_bipush hO 99 dX7_day_40 (by decide) ?_
          refine V_goto hO 62 dX7_day_42 (by decide) ?_
          exact V_sub [0, 1, 2, 3] rfl (T_X7_day_62 hO hR (F_X7_day_12 n) ih w1 w2 w3 (99 : Int32) w3 h )
set_option maxHeartbeats 4000000 in
set_option maxRecDepth 100000 in
theorem T_X7_day {G : Gm} {α : Nat → Nat} (hO : Ok G α cX7_day 4 RX7 2 44) (hR : Rt G α none) (p1 : Int32) (p2 : Int32) (σ : Hp) : V G α 4 (kSV) 0 [(0, .ref (α (55))), (1, .int p1), (2, .int p2)] [] σ (F_X7_day p1 p2 σ) := by
  rw [F_X7_day]
  refine V_iload_n hO 1 dX7_day_0 rfl rfl ?_
  refine V_iconst hO 1 dX7_day_1 (by decide) ?_
  refine V_icmp_ne hO 10 dX7_day_2 (by decide) ?_ ?_
  · refine V_iconst hO 0 dX7_day_10 (by decide) ?_
    refine V_istore_n hO (ls2 := [(3, .int 0), (0, .ref (α (55))), (1, .int p1), (2, .int p2)]) dX7_day_11 rfl (by decide) rfl ?_
    exact V_sub [1, 2, 3, 0] rfl (T_X7_day_12 hO hR fuel p1 p2 (0 : Int32) σ )
  · refine V_aload_n hO 0 dX7_day_5 rfl rfl ?_
    refine V_iload_n hO 2 dX7_day_6 rfl rfl ?_
    refine V_callV hO ml_X7_166 (C_X7_thaw α p2 σ) (by decide) (fun _ _ => ce_55) rfl rfl (rest := []) rfl rfl (Nat.le_of_ble_eq_true rfl) ⟨Nat.le_of_ble_eq_true rfl, Nat.le_of_ble_eq_true rfl⟩ dX7_day_7 (kc_SV rfl fun q11 => ?_)
    refine V_iconst hO 0 dX7_day_10 (by decide) ?_
    refine V_istore_n hO (ls2 := [(3, .int 0), (0, .ref (α (55))), (1, .int p1), (2, .int p2)]) dX7_day_11 rfl (by decide) rfl ?_
    exact V_sub [1, 2, 3, 0] rfl (T_X7_day_12 hO hR fuel p1 p2 (0 : Int32) q11 )
set_option maxHeartbeats 4000000 in
set_option maxRecDepth 100000 in
theorem C_X7_day (α : Nat → Nat) (p1 : Int32) (p2 : Int32) (σ : Hp) : Ct yX7_day cX7_day 4 none 2 44 α [.ref (α (55)), .int p1, .int p2] σ (kSV (F_X7_day p1 p2 σ)) := ct_of_V (own := RX7) rfl (by decide +kernel) (Nat.le_of_ble_eq_true rfl) fun _ hO hR => T_X7_day hO hR p1 p2 σ
/-! X7_thereMany -/
noncomputable def F_X7_thereMany_33 (σ : Hp) (k4 : Int32 → Int32 → (Option Int32)) (w2 : Int32) (s0 : Bool) (s1 : Int32) : Option Int32 :=
  lt (s1 + (b2i s0)) fun v1 =>
  k4 v1 (w2 + 1)
noncomputable def F_X7_thereMany_4 (σ : Hp) : Nat → Int32 → Int32 → Option Int32
  | 0, _, _ => none
  | n + 1, w1, w2 =>
    if (σ.1 55 6) ≤ w2 then
    some w1
    else
    if inb (((8 : Int32) * w2) + (6 : Int32)) 80 = true then
    if (σ.1 58 (Int32.toNatClampNeg (((8 : Int32) * w2) + (6 : Int32)))) ≤ 0 then
    F_X7_thereMany_33 σ (F_X7_thereMany_4 σ n) w2 false w1
    else
    F_X7_thereMany_33 σ (F_X7_thereMany_4 σ n) w2 true w1
    else none
noncomputable def F_X7_thereMany  (σ : Hp) : Option Int32 :=
  F_X7_thereMany_4 σ fuel (0 : Int32) (0 : Int32)
set_option maxHeartbeats 4000000 in
set_option maxRecDepth 100000 in
theorem T_X7_thereMany_33 {G : Gm} {α : Nat → Nat} (hO : Ok G α cX7_thereMany 3 RX7 0 0) (hR : Rt G α (some .int)) (σ : Hp) (k4 : Int32 → Int32 → (Option Int32)) (hk4 : ∀ (w1 : Int32) (w2 : Int32), V G α 3 (kOI σ) 4 [(0, .ref (α (55))), (1, .int w1), (2, .int w2)] [] σ (k4 w1 w2)) : ∀ (w2 : Int32) (s0 : Bool) (s1 : Int32), V G α 3 (kOI σ) 33 [(0, .ref (α (55))), (2, .int w2)] [.int (b2i s0), .int s1] σ (F_X7_thereMany_33 σ k4 w2 s0 s1) := by
  intro w2 s0 s1
  rw [F_X7_thereMany_33]
  refine V_iadd hO dX7_thereMany_33 ?_
  refine V_istore_nN hO (ls2 := fun v1 => [(1, .int v1), (0, .ref (α (55))), (2, .int w2)]) dX7_thereMany_34 rfl (by decide) (fun _ => rfl) (fun v1 => ?_)
  refine V_iinc hO (ls2 := [(2, .int (w2 + 1)), (1, .int v1), (0, .ref (α (55)))]) (z := 1) 2 dX7_thereMany_35 rfl (by decide) (by decide) rfl ?_
  refine V_goto hO 4 dX7_thereMany_38 (by decide) ?_
  exact V_sub [2, 1, 0] rfl (hk4 v1 (w2 + 1) )
set_option maxHeartbeats 4000000 in
set_option maxRecDepth 100000 in
theorem T_X7_thereMany_4 {G : Gm} {α : Nat → Nat} (hO : Ok G α cX7_thereMany 3 RX7 0 0) (hR : Rt G α (some .int)) (σ : Hp) : ∀ (fuel : Nat) (w1 : Int32) (w2 : Int32), V G α 3 (kOI σ) 4 [(0, .ref (α (55))), (1, .int w1), (2, .int w2)] [] σ (F_X7_thereMany_4 σ fuel w1 w2) := by
  intro fuel
  induction fuel with
  | zero => intro w1 w2; exact V_none rfl
  | succ n ih =>
    intro w1 w2
    rw [F_X7_thereMany_4]
    refine V_iload_n hO 2 dX7_thereMany_4 rfl rfl ?_
    refine V_aload_n hO 0 dX7_thereMany_5 rfl rfl ?_
    refine V_get hO (v := .int (σ.1 55 6)) fl_X7_79 (by decide) (fun _ _ => ce_55) rfl dX7_thereMany_6 ?_
    refine V_icmp_ge hO 41 dX7_thereMany_9 (by decide) ?_ ?_
    · refine V_iload_n hO 1 dX7_thereMany_41 rfl rfl ?_
      exact V_iret hO hR rfl dX7_thereMany_42
    · refine V_iload_n hO 1 dX7_thereMany_12 rfl rfl ?_
      refine V_aload_n hO 0 dX7_thereMany_13 rfl rfl ?_
      refine V_get hO (v := .ref (α (58))) fl_X7_16 (by decide) (fun _ _ => ce_55) rfl dX7_thereMany_14 ?_
      refine V_bipush hO 8 dX7_thereMany_17 (by decide) ?_
      refine V_iload_n hO 2 dX7_thereMany_19 rfl rfl ?_
      refine V_imul hO dX7_thereMany_20 ?_
      refine V_bipush hO 6 dX7_thereMany_21 (by decide) ?_
      refine V_iadd hO dX7_thereMany_23 ?_
      refine V_chk rfl fun c2 => ?_
      refine V_iald hO (by decide) (fun _ _ => ce_58) (inb_in c2) dX7_thereMany_24 ?_
      refine V_if_le hO 32 dX7_thereMany_25 (by decide) ?_ ?_
      · refine V_iconst hO 0 dX7_thereMany_32 (by decide) ?_
        exact V_sub [0, 2] rfl (T_X7_thereMany_33 hO hR σ (F_X7_thereMany_4 σ n) ih w2 false w1 )
      · refine V_iconst hO 1 dX7_thereMany_28 (by decide) ?_
        refine V_goto hO 33 dX7_thereMany_29 (by decide) ?_
        exact V_sub [0, 2] rfl (T_X7_thereMany_33 hO hR σ (F_X7_thereMany_4 σ n) ih w2 true w1 )
set_option maxHeartbeats 4000000 in
set_option maxRecDepth 100000 in
theorem T_X7_thereMany {G : Gm} {α : Nat → Nat} (hO : Ok G α cX7_thereMany 3 RX7 0 0) (hR : Rt G α (some .int)) (σ : Hp) : V G α 3 (kOI σ) 0 [(0, .ref (α (55)))] [] σ (F_X7_thereMany σ) := by
  rw [F_X7_thereMany]
  refine V_iconst hO 0 dX7_thereMany_0 (by decide) ?_
  refine V_istore_n hO (ls2 := [(1, .int 0), (0, .ref (α (55)))]) dX7_thereMany_1 rfl (by decide) rfl ?_
  refine V_iconst hO 0 dX7_thereMany_2 (by decide) ?_
  refine V_istore_n hO (ls2 := [(2, .int 0), (1, .int 0), (0, .ref (α (55)))]) dX7_thereMany_3 rfl (by decide) rfl ?_
  exact V_sub [2, 1, 0] rfl (T_X7_thereMany_4 hO hR σ fuel (0 : Int32) (0 : Int32) )
set_option maxHeartbeats 4000000 in
set_option maxRecDepth 100000 in
theorem C_X7_thereMany (α : Nat → Nat) (σ : Hp) : Ct yX7_thereMany cX7_thereMany 3 (some .int) 0 0 α [.ref (α (55))] σ (kOI σ (F_X7_thereMany σ)) := ct_of_V (own := RX7) rfl (by decide +kernel) (Nat.le_of_ble_eq_true rfl) fun _ hO hR => T_X7_thereMany hO hR σ
/-! X7_days -/
noncomputable def F_X7_days_17  : Nat → Int32 → Int32 → Hp → Option (Int32 × Hp)
  | 0, _, _, _ => none
  | n + 1, w1, w2, h =>
    if (h.1 55 10) ≤ w2 then
    lt (up h 55 5 ((h.1 55 5) + (h.1 55 10))) fun h1 =>
    lt (up h1 55 9 (0 : Int32)) fun h2 =>
    (F_X7_thereMany h2).bind fun v3 =>
    some ((w1 - v3), h2)
    else
    if inb w2 12 = true then
    if inb w2 12 = true then
    (F_X7_day (h.1 60 (Int32.toNatClampNeg w2)) (h.1 61 (Int32.toNatClampNeg w2)) h).bind fun q6 =>
    F_X7_days_17 n w1 (w2 + 1) q6
    else none
    else none
noncomputable def F_X7_days  (σ : Hp) : Option (Int32 × Hp) :=
  (F_X7_areDays σ).bind fun q7 =>
  if q7.1 = true then
  (F_X7_thereMany q7.2).bind fun v8 =>
  F_X7_days_17 fuel v8 (0 : Int32) q7.2
  else
  some (((-103) : Int32), q7.2)
set_option maxHeartbeats 4000000 in
set_option maxRecDepth 100000 in
theorem T_X7_days_17 {G : Gm} {α : Nat → Nat} (hO : Ok G α cX7_days 3 RX7 4 88) (hR : Rt G α (some .int)) : ∀ (fuel : Nat) (w1 : Int32) (w2 : Int32) (h : Hp), V G α 3 (kSI) 17 [(0, .ref (α (55))), (1, .int w1), (2, .int w2)] [] h (F_X7_days_17 fuel w1 w2 h) := by
  intro fuel
  induction fuel with
  | zero => intro w1 w2 h; exact V_none rfl
  | succ n ih =>
    intro w1 w2 h
    rw [F_X7_days_17]
    refine V_iload_n hO 2 dX7_days_17 rfl rfl ?_
    refine V_aload_n hO 0 dX7_days_18 rfl rfl ?_
    refine V_get hO (v := .int (h.1 55 10)) fl_X7_144 (by decide) (fun _ _ => ce_55) rfl dX7_days_19 ?_
    refine V_icmp_ge hO 47 dX7_days_22 (by decide) ?_ ?_
    · refine V_aload_n hO 0 dX7_days_47 rfl rfl ?_
      refine V_dup hO dX7_days_48 rfl ?_
      refine V_get hO (v := .int (h.1 55 5)) fl_X7_88 (by decide) (fun _ _ => ce_55) rfl dX7_days_49 ?_
      refine V_aload_n hO 0 dX7_days_52 rfl rfl ?_
      refine V_get hO (v := .int (h.1 55 10)) fl_X7_144 (by decide) (fun _ _ => ce_55) rfl dX7_days_53 ?_
      refine V_iadd hO dX7_days_56 ?_
      refine V_puti hO fp_X7_88 (by decide) (fun _ _ => ce_55) (Nat.le_of_ble_eq_true rfl) (fun _ _ => pe_55_5) dX7_days_57 (V_name fun h1 => ?_)
      refine V_aload_n hO 0 dX7_days_60 rfl rfl ?_
      refine V_iconst hO 0 dX7_days_61 (by decide) ?_
      refine V_puti hO fp_X7_137 (by decide) (fun _ _ => ce_55) (Nat.le_of_ble_eq_true rfl) (fun _ _ => pe_55_9) dX7_days_62 (V_name fun h2 => ?_)
      refine V_iload_n hO 1 dX7_days_65 rfl rfl ?_
      refine V_aload_n hO 0 dX7_days_66 rfl rfl ?_
      refine V_callV hO ml_X7_173 (C_X7_thereMany α h2) (by decide) (fun _ _ => ce_55) rfl rfl (rest := [.int w1]) rfl rfl (Nat.le_of_ble_eq_true rfl) ⟨Nat.le_of_ble_eq_true rfl, Nat.le_of_ble_eq_true rfl⟩ dX7_days_67 (kc_OI rfl fun v3 => ?_)
      refine V_isub hO dX7_days_70 ?_
      exact V_iret hO hR rfl dX7_days_71
    · refine V_aload_n hO 0 dX7_days_25 rfl rfl ?_
      refine V_aload_n hO 0 dX7_days_26 rfl rfl ?_
      refine V_get hO (v := .ref (α (60))) fl_X7_22 (by decide) (fun _ _ => ce_55) rfl dX7_days_27 ?_
      refine V_iload_n hO 2 dX7_days_30 rfl rfl ?_
      refine V_chk rfl fun c4 => ?_
      refine V_iald hO (by decide) (fun _ _ => ce_60) (inb_in c4) dX7_days_31 ?_
      refine V_aload_n hO 0 dX7_days_32 rfl rfl ?_
      refine V_get hO (v := .ref (α (61))) fl_X7_25 (by decide) (fun _ _ => ce_55) rfl dX7_days_33 ?_
      refine V_iload_n hO 2 dX7_days_36 rfl rfl ?_
      refine V_chk rfl fun c5 => ?_
      refine V_iald hO (by decide) (fun _ _ => ce_61) (inb_in c5) dX7_days_37 ?_
      refine V_callV hO ml_X7_176 (C_X7_day α (h.1 60 (Int32.toNatClampNeg w2)) (h.1 61 (Int32.toNatClampNeg w2)) h) (by decide) (fun _ _ => ce_55) rfl rfl (rest := []) rfl rfl (Nat.le_of_ble_eq_true rfl) ⟨Nat.le_of_ble_eq_true rfl, Nat.le_of_ble_eq_true rfl⟩ dX7_days_38 (kc_SV rfl fun q6 => ?_)
      refine V_iinc hO (ls2 := [(2, .int (w2 + 1)), (0, .ref (α (55))), (1, .int w1)]) (z := 1) 2 dX7_days_41 rfl (by decide) (by decide) rfl ?_
      refine V_goto hO 17 dX7_days_44 (by decide) ?_
      exact V_sub [1, 2, 0] rfl (ih w1 (w2 + 1) q6 )
set_option maxHeartbeats 4000000 in
set_option maxRecDepth 100000 in
theorem T_X7_days {G : Gm} {α : Nat → Nat} (hO : Ok G α cX7_days 3 RX7 4 88) (hR : Rt G α (some .int)) (σ : Hp) : V G α 3 (kSI) 0 [(0, .ref (α (55)))] [] σ (F_X7_days σ) := by
  rw [F_X7_days]
  refine V_aload_n hO 0 dX7_days_0 rfl rfl ?_
  refine V_callV hO ml_X7_169 (C_X7_areDays α σ) (by decide) (fun _ _ => ce_55) rfl rfl (rest := []) rfl rfl (Nat.le_of_ble_eq_true rfl) ⟨Nat.le_of_ble_eq_true rfl, Nat.le_of_ble_eq_true rfl⟩ dX7_days_1 (kc_SZ rfl fun q7 => ?_)
  refine V_ifneZ hO 10 dX7_days_4 (by decide) ?_ ?_
  · refine V_aload_n hO 0 dX7_days_10 rfl rfl ?_
    refine V_callV hO ml_X7_173 (C_X7_thereMany α q7.2) (by decide) (fun _ _ => ce_55) rfl rfl (rest := []) rfl rfl (Nat.le_of_ble_eq_true rfl) ⟨Nat.le_of_ble_eq_true rfl, Nat.le_of_ble_eq_true rfl⟩ dX7_days_11 (kc_OI rfl fun v8 => ?_)
    refine V_istore_n hO (ls2 := [(1, .int v8), (0, .ref (α (55)))]) dX7_days_14 rfl (by decide) rfl ?_
    refine V_iconst hO 0 dX7_days_15 (by decide) ?_
    refine V_istore_n hO (ls2 := [(2, .int 0), (1, .int v8), (0, .ref (α (55)))]) dX7_days_16 rfl (by decide) rfl ?_
    exact V_sub [2, 1, 0] rfl (T_X7_days_17 hO hR fuel v8 (0 : Int32) q7.2 )
  · refine V_bipush hO (-103) dX7_days_7 (by decide) ?_
    exact V_iret hO hR rfl dX7_days_9
set_option maxHeartbeats 4000000 in
set_option maxRecDepth 100000 in
theorem C_X7_days (α : Nat → Nat) (σ : Hp) : Ct yX7_days cX7_days 3 (some .int) 4 88 α [.ref (α (55))] σ (kSI (F_X7_days σ)) := ct_of_V (own := RX7) rfl (by decide +kernel) (Nat.le_of_ble_eq_true rfl) fun _ hO hR => T_X7_days hO hR σ
/-! X7_stays -/
noncomputable def F_X7_stays_136 (σ : Hp) (k23 : Int32 → Int32 → Int32 → Bool → Int32 → (Option Bool)) (w1 : Int32) (w4 : Int32) (w5 : Int32) (w6 : Bool) (w7 : Int32) : Option Bool :=
  k23 w1 w4 w5 w6 (w7 + 1)
noncomputable def F_X7_stays_99 (σ : Hp) (k23 : Int32 → Int32 → Int32 → Bool → Int32 → (Option Bool)) (w1 : Int32) (w4 : Int32) (w5 : Int32) (w7 : Int32) (s0 : Bool) : Option Bool :=
  F_X7_stays_136 σ k23 w1 w4 w5 s0 w7
noncomputable def F_X7_stays_134 (σ : Hp) (k23 : Int32 → Int32 → Int32 → Bool → Int32 → (Option Bool)) (w1 : Int32) (w4 : Int32) (w6 : Bool) (w7 : Int32) (s0 : Int32) : Option Bool :=
  F_X7_stays_136 σ k23 w1 w4 s0 w6 w7
noncomputable def F_X7_stays_23 (σ : Hp) : Nat → Int32 → Int32 → Int32 → Bool → Int32 → Option Bool
  | 0, _, _, _, _, _ => none
  | n + 1, w1, w4, w5, w6, w7 =>
    if (σ.1 55 10) ≤ w7 then
    some w6
    else
    if w6 = true then
    if inb w7 12 = true then
    lt (σ.1 61 (Int32.toNatClampNeg w7)) fun v2 =>
    if inb w7 12 = true then
    if (σ.1 60 (Int32.toNatClampNeg w7)) = (1 : Int32) then
    lt (F_X7_less w5 v2 σ) fun v5 =>
    lt (F_X7_less w4 (F_X7_thawOf w1 v2 σ) σ) fun v6 =>
    if v5 ≤ 0 then
    F_X7_stays_99 σ (F_X7_stays_23 σ n) w1 v6 v5 w7 false
    else
    if v6 ≤ 0 then
    F_X7_stays_99 σ (F_X7_stays_23 σ n) w1 v6 v5 w7 false
    else
    if w1 = (3 : Int32) then
    F_X7_stays_99 σ (F_X7_stays_23 σ n) w1 v6 v5 w7 false
    else
    F_X7_stays_99 σ (F_X7_stays_23 σ n) w1 v6 v5 w7 true
    else
    if inb w7 12 = true then
    if (σ.1 60 (Int32.toNatClampNeg w7)) = 0 then
    if (w5 + v2) ≤ (99 : Int32) then
    F_X7_stays_134 σ (F_X7_stays_23 σ n) w1 w4 w6 w7 (w5 + v2)
    else
    F_X7_stays_134 σ (F_X7_stays_23 σ n) w1 w4 w6 w7 (99 : Int32)
    else
    F_X7_stays_136 σ (F_X7_stays_23 σ n) w1 w4 w5 w6 w7
    else none
    else none
    else none
    else
    some w6
noncomputable def F_X7_stays_18 (σ : Hp) (w1 : Int32) (w4 : Int32) (w5 : Int32) (s0 : Bool) : Option Bool :=
  F_X7_stays_23 σ fuel w1 w4 w5 s0 (0 : Int32)
noncomputable def F_X7_stays  (p1 : Int32) (p2 : Int32) (p3 : Int32) (σ : Hp) : Option Bool :=
  if p3 < p2 then
  F_X7_stays_18 σ p1 p2 p3 false
  else
  F_X7_stays_18 σ p1 p2 p3 true
set_option maxHeartbeats 4000000 in
set_option maxRecDepth 100000 in
theorem T_X7_stays_136 {G : Gm} {α : Nat → Nat} (hO : Ok G α cX7_stays 9 RX7 1 21) (hR : Rt G α (some .boolean)) (σ : Hp) (k23 : Int32 → Int32 → Int32 → Bool → Int32 → (Option Bool)) (hk23 : ∀ (w1 : Int32) (w4 : Int32) (w5 : Int32) (w6 : Bool) (w7 : Int32), V G α 9 (kOZ σ) 23 [(0, .ref (α (55))), (1, .int w1), (4, .int w4), (5, .int w5), (6, .int (b2i w6)), (7, .int w7)] [] σ (k23 w1 w4 w5 w6 w7)) : ∀ (w1 : Int32) (w4 : Int32) (w5 : Int32) (w6 : Bool) (w7 : Int32), V G α 9 (kOZ σ) 136 [(0, .ref (α (55))), (1, .int w1), (4, .int w4), (5, .int w5), (6, .int (b2i w6)), (7, .int w7)] [] σ (F_X7_stays_136 σ k23 w1 w4 w5 w6 w7) := by
  intro w1 w4 w5 w6 w7
  rw [F_X7_stays_136]
  refine V_iinc hO (ls2 := [(7, .int (w7 + 1)), (0, .ref (α (55))), (1, .int w1), (4, .int w4), (5, .int w5), (6, .int (b2i w6))]) (z := 1) 5 dX7_stays_136 rfl (by decide) (by decide) rfl ?_
  refine V_goto hO 23 dX7_stays_139 (by decide) ?_
  exact V_sub [1, 2, 3, 4, 5, 0] rfl (hk23 w1 w4 w5 w6 (w7 + 1) )
set_option maxHeartbeats 4000000 in
set_option maxRecDepth 100000 in
theorem T_X7_stays_99 {G : Gm} {α : Nat → Nat} (hO : Ok G α cX7_stays 9 RX7 1 21) (hR : Rt G α (some .boolean)) (σ : Hp) (k23 : Int32 → Int32 → Int32 → Bool → Int32 → (Option Bool)) (hk23 : ∀ (w1 : Int32) (w4 : Int32) (w5 : Int32) (w6 : Bool) (w7 : Int32), V G α 9 (kOZ σ) 23 [(0, .ref (α (55))), (1, .int w1), (4, .int w4), (5, .int w5), (6, .int (b2i w6)), (7, .int w7)] [] σ (k23 w1 w4 w5 w6 w7)) : ∀ (w1 : Int32) (w4 : Int32) (w5 : Int32) (w7 : Int32) (s0 : Bool), V G α 9 (kOZ σ) 99 [(0, .ref (α (55))), (1, .int w1), (4, .int w4), (5, .int w5), (7, .int w7)] [.int (b2i s0)] σ (F_X7_stays_99 σ k23 w1 w4 w5 w7 s0) := by
  intro w1 w4 w5 w7 s0
  rw [F_X7_stays_99]
  refine V_istore hO (ls2 := [(6, .int (b2i s0)), (0, .ref (α (55))), (1, .int w1), (4, .int w4), (5, .int w5), (7, .int w7)]) dX7_stays_99 (by decide) rfl ?_
  refine V_goto hO 136 dX7_stays_101 (by decide) ?_
  exact V_sub [1, 2, 3, 4, 0, 5] rfl (T_X7_stays_136 hO hR σ k23 hk23 w1 w4 w5 s0 w7 )
set_option maxHeartbeats 4000000 in
set_option maxRecDepth 100000 in
theorem T_X7_stays_134 {G : Gm} {α : Nat → Nat} (hO : Ok G α cX7_stays 9 RX7 1 21) (hR : Rt G α (some .boolean)) (σ : Hp) (k23 : Int32 → Int32 → Int32 → Bool → Int32 → (Option Bool)) (hk23 : ∀ (w1 : Int32) (w4 : Int32) (w5 : Int32) (w6 : Bool) (w7 : Int32), V G α 9 (kOZ σ) 23 [(0, .ref (α (55))), (1, .int w1), (4, .int w4), (5, .int w5), (6, .int (b2i w6)), (7, .int w7)] [] σ (k23 w1 w4 w5 w6 w7)) : ∀ (w1 : Int32) (w4 : Int32) (w6 : Bool) (w7 : Int32) (s0 : Int32), V G α 9 (kOZ σ) 134 [(0, .ref (α (55))), (1, .int w1), (4, .int w4), (6, .int (b2i w6)), (7, .int w7)] [.int s0] σ (F_X7_stays_134 σ k23 w1 w4 w6 w7 s0) := by
  intro w1 w4 w6 w7 s0
  rw [F_X7_stays_134]
  refine V_istore hO (ls2 := [(5, .int s0), (0, .ref (α (55))), (1, .int w1), (4, .int w4), (6, .int (b2i w6)), (7, .int w7)]) dX7_stays_134 (by decide) rfl ?_
  exact V_sub [1, 2, 3, 0, 4, 5] rfl (T_X7_stays_136 hO hR σ k23 hk23 w1 w4 s0 w6 w7 )
set_option maxHeartbeats 4000000 in
set_option maxRecDepth 100000 in
theorem T_X7_stays_23 {G : Gm} {α : Nat → Nat} (hO : Ok G α cX7_stays 9 RX7 1 21) (hR : Rt G α (some .boolean)) (σ : Hp) : ∀ (fuel : Nat) (w1 : Int32) (w4 : Int32) (w5 : Int32) (w6 : Bool) (w7 : Int32), V G α 9 (kOZ σ) 23 [(0, .ref (α (55))), (1, .int w1), (4, .int w4), (5, .int w5), (6, .int (b2i w6)), (7, .int w7)] [] σ (F_X7_stays_23 σ fuel w1 w4 w5 w6 w7) := by
  intro fuel
  induction fuel with
  | zero => intro w1 w4 w5 w6 w7; exact V_none rfl
  | succ n ih =>
    intro w1 w4 w5 w6 w7
    rw [F_X7_stays_23]
    refine V_iload hO 5 dX7_stays_23 rfl ?_
    refine V_aload_n hO 0 dX7_stays_25 rfl rfl ?_
    refine V_get hO (v := .int (σ.1 55 10)) fl_X7_144 (by decide) (fun _ _ => ce_55) rfl dX7_stays_26 ?_
    refine V_icmp_ge hO 142 dX7_stays_29 (by decide) ?_ ?_
    · refine V_iload hO 4 dX7_stays_142 rfl ?_
      exact V_zret hO hR (b2i_01 _) rfl dX7_stays_144
    · refine V_iload hO 4 dX7_stays_32 rfl ?_
      refine V_ifeqZ hO 142 dX7_stays_34 (by decide) ?_ ?_
      · refine V_iload hO 4 dX7_stays_142 rfl ?_
        exact V_zret hO hR (b2i_01 _) rfl dX7_stays_144
      · refine V_aload_n hO 0 dX7_stays_37 rfl rfl ?_
        refine V_get hO (v := .ref (α (61))) fl_X7_25 (by decide) (fun _ _ => ce_55) rfl dX7_stays_38 ?_
        refine V_iload hO 5 dX7_stays_41 rfl ?_
        refine V_chk rfl fun c1 => ?_
        refine V_iald hO (by decide) (fun _ _ => ce_61) (inb_in c1) dX7_stays_43 ?_
        refine V_istoreN hO (ls2 := fun v2 => [(8, .int v2), (0, .ref (α (55))), (1, .int w1), (4, .int w4), (5, .int w5), (6, .int (b2i w6)), (7, .int w7)]) dX7_stays_44 (by decide) (fun _ => rfl) (fun v2 => ?_)
        refine V_aload_n hO 1 dX7_stays_46 rfl rfl ?_
        refine V_get hO (v := .ref (α (60))) fl_X7_22 (by decide) (fun _ _ => ce_55) rfl dX7_stays_47 ?_
        refine V_iload hO 6 dX7_stays_50 rfl ?_
        refine V_chk rfl fun c3 => ?_
        refine V_iald hO (by decide) (fun _ _ => ce_60) (inb_in c3) dX7_stays_52 ?_
        refine V_iconst hO 1 dX7_stays_53 (by decide) ?_
        refine V_icmp_ne hO 104 dX7_stays_54 (by decide) ?_ ?_
        · refine V_aload_n hO 1 dX7_stays_104 rfl rfl ?_
          refine V_get hO (v := .ref (α (60))) fl_X7_22 (by decide) (fun _ _ => ce_55) rfl dX7_stays_105 ?_
          refine V_iload hO 6 dX7_stays_108 rfl ?_
          refine V_chk rfl fun c4 => ?_
          refine V_iald hO (by decide) (fun _ _ => ce_60) (inb_in c4) dX7_stays_110 ?_
          refine V_if_ne hO 136 dX7_stays_111 (by decide) ?_ ?_
          · exact V_sub [1, 2, 3, 4, 5, 6] rfl (T_X7_stays_136 hO hR σ (F_X7_stays_23 σ n) ih w1 w4 w5 w6 w7 )
          · refine V_iload hO 4 dX7_stays_114 rfl ?_
            refine V_iload hO 0 dX7_stays_116 rfl ?_
            refine V_iadd hO dX7_stays_118 ?_
            refine V_bipush hO 99 dX7_stays_119 (by decide) ?_
            refine V_icmp_le hO 129 dX7_stays_121 (by decide) ?_ ?_
            · refine V_iload hO 4 dX7_stays_129 rfl ?_
              refine V_iload hO 0 dX7_stays_131 rfl ?_
              refine V_iadd hO dX7_stays_133 ?_
              exact V_sub [1, 2, 3, 5, 6] rfl (T_X7_stays_134 hO hR σ (F_X7_stays_23 σ n) ih w1 w4 w6 w7 (w5 + v2) )
            · refine V_bipush hO 99 dX7_stays_124 (by decide) ?_
              refine V_goto hO 134 dX7_stays_126 (by decide) ?_
              exact V_sub [1, 2, 3, 5, 6] rfl (T_X7_stays_134 hO hR σ (F_X7_stays_23 σ n) ih w1 w4 w6 w7 (99 : Int32) )
        · refine V_iload hO 4 dX7_stays_57 rfl ?_
          refine V_iload hO 0 dX7_stays_59 rfl ?_
          refine V_callS hO ml_X7_160 (C_X7_less α w5 v2 σ) (rest := []) rfl rfl (Nat.le_of_ble_eq_true rfl) ⟨Nat.le_of_ble_eq_true rfl, Nat.le_of_ble_eq_true rfl⟩ dX7_stays_61 (kc_I ?_)
          refine V_istoreN hO (ls2 := fun v5 => [(5, .int v5), (8, .int v2), (0, .ref (α (55))), (1, .int w1), (4, .int w4), (6, .int (b2i w6)), (7, .int w7)]) dX7_stays_64 (by decide) (fun _ => rfl) (fun v5 => ?_)
          refine V_iload hO 4 dX7_stays_66 rfl ?_
          refine V_iload_n hO 3 dX7_stays_68 rfl rfl ?_
          refine V_iload hO 1 dX7_stays_69 rfl ?_
          refine V_callS hO ml_X7_163 (C_X7_thawOf α w1 v2 σ) (rest := [.int w4]) rfl rfl (Nat.le_of_ble_eq_true rfl) ⟨Nat.le_of_ble_eq_true rfl, Nat.le_of_ble_eq_true rfl⟩ dX7_stays_71 (kc_I ?_)
          refine V_callS hO ml_X7_160 (C_X7_less α w4 (F_X7_thawOf w1 v2 σ) σ) (rest := []) rfl rfl (Nat.le_of_ble_eq_true rfl) ⟨Nat.le_of_ble_eq_true rfl, Nat.le_of_ble_eq_true rfl⟩ dX7_stays_74 (kc_I ?_)
          refine V_istoreN hO (ls2 := fun v6 => [(4, .int v6), (5, .int v5), (8, .int v2), (0, .ref (α (55))), (1, .int w1), (6, .int (b2i w6)), (7, .int w7)]) dX7_stays_77 (by decide) (fun _ => rfl) (fun v6 => ?_)
          refine V_iload hO 1 dX7_stays_79 rfl ?_
          refine V_if_le hO 98 dX7_stays_81 (by decide) ?_ ?_
          · refine V_iconst hO 0 dX7_stays_98 (by decide) ?_
            exact V_sub [3, 4, 0, 1, 6] rfl (T_X7_stays_99 hO hR σ (F_X7_stays_23 σ n) ih w1 v6 v5 w7 false )
          · refine V_iload hO 0 dX7_stays_84 rfl ?_
            refine V_if_le hO 98 dX7_stays_86 (by decide) ?_ ?_
            · refine V_iconst hO 0 dX7_stays_98 (by decide) ?_
              exact V_sub [3, 4, 0, 1, 6] rfl (T_X7_stays_99 hO hR σ (F_X7_stays_23 σ n) ih w1 v6 v5 w7 false )
            · refine V_iload_n hO 4 dX7_stays_89 rfl rfl ?_
              refine V_iconst hO 3 dX7_stays_90 (by decide) ?_
              refine V_icmp_eq hO 98 dX7_stays_91 (by decide) ?_ ?_
              · refine V_iconst hO 0 dX7_stays_98 (by decide) ?_
                exact V_sub [3, 4, 0, 1, 6] rfl (T_X7_stays_99 hO hR σ (F_X7_stays_23 σ n) ih w1 v6 v5 w7 false )
              · refine V_iconst hO 1 dX7_stays_94 (by decide) ?_
                refine V_goto hO 99 dX7_stays_95 (by decide) ?_
                exact V_sub [3, 4, 0, 1, 6] rfl (T_X7_stays_99 hO hR σ (F_X7_stays_23 σ n) ih w1 v6 v5 w7 true )
set_option maxHeartbeats 4000000 in
set_option maxRecDepth 100000 in
theorem T_X7_stays_18 {G : Gm} {α : Nat → Nat} (hO : Ok G α cX7_stays 9 RX7 1 21) (hR : Rt G α (some .boolean)) (σ : Hp) : ∀ (w1 : Int32) (w4 : Int32) (w5 : Int32) (s0 : Bool), V G α 9 (kOZ σ) 18 [(0, .ref (α (55))), (1, .int w1), (4, .int w4), (5, .int w5)] [.int (b2i s0)] σ (F_X7_stays_18 σ w1 w4 w5 s0) := by
  intro w1 w4 w5 s0
  rw [F_X7_stays_18]
  refine V_istore hO (ls2 := [(6, .int (b2i s0)), (0, .ref (α (55))), (1, .int w1), (4, .int w4), (5, .int w5)]) dX7_stays_18 (by decide) rfl ?_
  refine V_iconst hO 0 dX7_stays_20 (by decide) ?_
  refine V_istore hO (ls2 := [(7, .int 0), (6, .int (b2i s0)), (0, .ref (α (55))), (1, .int w1), (4, .int w4), (5, .int w5)]) dX7_stays_21 (by decide) rfl ?_
  exact V_sub [2, 3, 4, 5, 1, 0] rfl (T_X7_stays_23 hO hR σ fuel w1 w4 w5 s0 (0 : Int32) )
set_option maxHeartbeats 4000000 in
set_option maxRecDepth 100000 in
theorem T_X7_stays {G : Gm} {α : Nat → Nat} (hO : Ok G α cX7_stays 9 RX7 1 21) (hR : Rt G α (some .boolean)) (p1 : Int32) (p2 : Int32) (p3 : Int32) (σ : Hp) : V G α 9 (kOZ σ) 0 [(0, .ref (α (55))), (1, .int p1), (2, .int p2), (3, .int p3)] [] σ (F_X7_stays p1 p2 p3 σ) := by
  rw [F_X7_stays]
  refine V_iload_n hO 2 dX7_stays_0 rfl rfl ?_
  refine V_istore hO (ls2 := [(4, .int p2), (0, .ref (α (55))), (1, .int p1), (2, .int p2), (3, .int p3)]) dX7_stays_1 (by decide) rfl ?_
  refine V_iload_n hO 4 dX7_stays_3 rfl rfl ?_
  refine V_istore hO (ls2 := [(5, .int p3), (4, .int p2), (0, .ref (α (55))), (1, .int p1), (2, .int p2), (3, .int p3)]) dX7_stays_4 (by decide) rfl ?_
  refine V_iload hO 1 dX7_stays_6 rfl ?_
  refine V_iload hO 0 dX7_stays_8 rfl ?_
  refine V_icmp_gt hO 17 dX7_stays_10 (by decide) ?_ ?_
  · refine V_iconst hO 0 dX7_stays_17 (by decide) ?_
    exact V_sub [2, 3, 1, 0] rfl (T_X7_stays_18 hO hR σ p1 p2 p3 false )
  · refine V_iconst hO 1 dX7_stays_13 (by decide) ?_
    refine V_goto hO 18 dX7_stays_14 (by decide) ?_
    exact V_sub [2, 3, 1, 0] rfl (T_X7_stays_18 hO hR σ p1 p2 p3 true )
set_option maxHeartbeats 4000000 in
set_option maxRecDepth 100000 in
theorem C_X7_stays (α : Nat → Nat) (p1 : Int32) (p2 : Int32) (p3 : Int32) (σ : Hp) : Ct yX7_stays cX7_stays 9 (some .boolean) 1 21 α [.ref (α (55)), .int p1, .int p2, .int p3] σ (kOZ σ (F_X7_stays p1 p2 p3 σ)) := ct_of_V (own := RX7) rfl (by decide +kernel) (Nat.le_of_ble_eq_true rfl) fun _ hO hR => T_X7_stays hO hR p1 p2 p3 σ
