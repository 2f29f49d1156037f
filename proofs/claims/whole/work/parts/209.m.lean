/-! X7_needed -/
noncomputable def F_X7_needed_58 (k38 : Int32 → Int32 → Int32 → Hp → (Option (Int32 × Hp))) (w1 : Int32) (w2 : Int32) (w3 : Int32) (s0 : Int32) (s1 : Int32) (h : Hp) : Option (Int32 × Hp) :=
  if inb w2 16 = true then
  (F_X7_stays s1 s0 (h.1 56 (Int32.toNatClampNeg w2)) h).bind fun v2 =>
  if v2 = true then
  some (w3, h)
  else
  k38 w1 w2 (w3 + 1) h
  else none
noncomputable def F_X7_needed_38  : Nat → Int32 → Int32 → Int32 → Hp → Option (Int32 × Hp)
  | 0, _, _, _, _ => none
  | n + 1, w1, w2, w3, h =>
    if (10 : Int32) ≤ w3 then
    some (((-1) : Int32), h)
    else
    if w1 = (1 : Int32) then
    F_X7_needed_58 (F_X7_needed_38 n) w1 w2 w3 ((2 : Int32) * w3) w1 h
    else
    F_X7_needed_58 (F_X7_needed_38 n) w1 w2 w3 w3 w1 h
noncomputable def F_X7_needed  (p1 : Int32) (p2 : Int32) (σ : Hp) : Option (Int32 × Hp) :=
  if (F_X7_isSquare p2 σ) = true then
  if (F_X7_in (Int32.toInt64 p1) (0 : Int64) (4 : Int64) σ) = true then
  (F_X7_areDays σ).bind fun q3 =>
  if q3.1 = true then
  F_X7_needed_38 fuel p1 p2 (1 : Int32) q3.2
  else
  some (((-103) : Int32), q3.2)
  else
  some (((-102) : Int32), σ)
  else
  some (((-101) : Int32), σ)
set_option maxHeartbeats 4000000 in
set_option maxRecDepth 100000 in
theorem T_X7_needed_58 {G : Gm} {α : Nat → Nat} (hO : Ok G α cX7_needed 4 RX7 4 88) (hR : Rt G α (some .int)) (k38 : Int32 → Int32 → Int32 → Hp → (Option (Int32 × Hp))) (hk38 : ∀ (w1 : Int32) (w2 : Int32) (w3 : Int32) (h : Hp), V G α 4 (kSI) 38 [(0, .ref (α (55))), (1, .int w1), (2, .int w2), (3, .int w3)] [] h (k38 w1 w2 w3 h)) : ∀ (w1 : Int32) (w2 : Int32) (w3 : Int32) (s0 : Int32) (s1 : Int32) (h : Hp), V G α 4 (kSI) 58 [(0, .ref (α (55))), (1, .int w1), (2, .int w2), (3, .int w3)] [.int s0, .int s1, .ref (α (55))] h (F_X7_needed_58 k38 w1 w2 w3 s0 s1 h) := by
  intro w1 w2 w3 s0 s1 h
  rw [F_X7_needed_58]
  refine V_aload_n hO 0 dX7_needed_58 rfl rfl ?_
  refine V_get hO (v := .ref (α (56))) fl_X7_7 (by decide) (fun _ _ => ce_55) rfl dX7_needed_59 ?_
  refine V_iload_n hO 2 dX7_needed_62 rfl rfl ?_
  refine V_chk rfl fun c1 => ?_
  refine V_iald hO (by decide) (fun _ _ => ce_56) (inb_in c1) dX7_needed_63 ?_
  refine V_callV hO ml_X7_180 (C_X7_stays α s1 s0 (h.1 56 (Int32.toNatClampNeg w2)) h) (by decide) (fun _ _ => ce_55) rfl rfl (rest := []) rfl rfl (Nat.le_of_ble_eq_true rfl) ⟨Nat.le_of_ble_eq_true rfl, Nat.le_of_ble_eq_true rfl⟩ dX7_needed_64 (kc_OZ rfl fun v2 => ?_)
  refine V_ifeqZ hO 72 dX7_needed_67 (by decide) ?_ ?_
  · refine V_iinc hO (ls2 := [(3, .int (w3 + 1)), (0, .ref (α (55))), (1, .int w1), (2, .int w2)]) (z := 1) 3 dX7_needed_72 rfl (by decide) (by decide) rfl ?_
    refine V_goto hO 38 dX7_needed_75 (by decide) ?_
    exact V_sub [1, 2, 3, 0] rfl (hk38 w1 w2 (w3 + 1) h )
  · refine V_iload_n hO 3 dX7_needed_70 rfl rfl ?_
    exact V_iret hO hR rfl dX7_needed_71
set_option maxHeartbeats 4000000 in
set_option maxRecDepth 100000 in
theorem T_X7_needed_38 {G : Gm} {α : Nat → Nat} (hO : Ok G α cX7_needed 4 RX7 4 88) (hR : Rt G α (some .int)) : ∀ (fuel : Nat) (w1 : Int32) (w2 : Int32) (w3 : Int32) (h : Hp), V G α 4 (kSI) 38 [(0, .ref (α (55))), (1, .int w1), (2, .int w2), (3, .int w3)] [] h (F_X7_needed_38 fuel w1 w2 w3 h) := by
  intro fuel
  induction fuel with
  | zero => intro w1 w2 w3 h; exact V_none rfl
  | succ n ih =>
    intro w1 w2 w3 h
    rw [F_X7_needed_38]
    refine V_iload_n hO 3 dX7_needed_38 rfl rfl ?_
    refine V_bipush hO 10 dX7_needed_39 (by decide) ?_
    refine V_icmp_ge hO 78 dX7_needed_41 (by decide) ?_ ?_
    · refine V_iconst hO (-1) dX7_needed_78 (by decide) ?_
      exact V_iret hO hR rfl dX7_needed_79
    · refine V_aload_n hO 0 dX7_needed_44 rfl rfl ?_
      refine V_iload_n hO 1 dX7_needed_45 rfl rfl ?_
      refine V_iload_n hO 1 dX7_needed_46 rfl rfl ?_
      refine V_iconst hO 1 dX7_needed_47 (by decide) ?_
      refine V_icmp_ne hO 57 dX7_needed_48 (by decide) ?_ ?_
      · refine V_iload_n hO 3 dX7_needed_57 rfl rfl ?_
        exact V_sub [0, 1, 2, 3] rfl (T_X7_needed_58 hO hR (F_X7_needed_38 n) ih w1 w2 w3 w3 w1 h )
      · refine V_iconst hO 2 dX7_needed_51 (by decide) ?_
        refine V_iload_n hO 3 dX7_needed_52 rfl rfl ?_
        refine V_imul hO dX7_needed_53 ?_
        refine V_goto hO 58 dX7_needed_54 (by decide) ?_
        exact V_sub [0, 1, 2, 3] rfl (T_X7_needed_58 hO hR (F_X7_needed_38 n) ih w1 w2 w3 ((2 : Int32) * w3) w1 h )
set_option maxHeartbeats 4000000 in
set_option maxRecDepth 100000 in
theorem T_X7_needed {G : Gm} {α : Nat → Nat} (hO : Ok G α cX7_needed 4 RX7 4 88) (hR : Rt G α (some .int)) (p1 : Int32) (p2 : Int32) (σ : Hp) : V G α 4 (kSI) 0 [(0, .ref (α (55))), (1, .int p1), (2, .int p2)] [] σ (F_X7_needed p1 p2 σ) := by
  rw [F_X7_needed]
  refine V_aload_n hO 0 dX7_needed_0 rfl rfl ?_
  refine V_iload_n hO 2 dX7_needed_1 rfl rfl ?_
  refine V_callV hO ml_X7_98 (C_X7_isSquare α p2 σ) (by decide) (fun _ _ => ce_55) rfl rfl (rest := []) rfl rfl (Nat.le_of_ble_eq_true rfl) ⟨Nat.le_of_ble_eq_true rfl, Nat.le_of_ble_eq_true rfl⟩ dX7_needed_2 (kc_Z ?_)
  refine V_ifneZ hO 11 dX7_needed_5 (by decide) ?_ ?_
  · refine V_iload_n hO 1 dX7_needed_11 rfl rfl ?_
    refine V_i2l hO dX7_needed_12 ?_
    refine V_lconst hO 0 dX7_needed_13 (by decide) ?_
    refine V_ldc2 hO (v := 4) dX7_needed_14 cn_X7_86 ?_
    refine V_callS hO ml_X7_75 (C_X7_in α (Int32.toInt64 p1) (0 : Int64) (4 : Int64) σ) (rest := []) rfl rfl (Nat.le_of_ble_eq_true rfl) ⟨Nat.le_of_ble_eq_true rfl, Nat.le_of_ble_eq_true rfl⟩ dX7_needed_17 (kc_Z ?_)
    refine V_ifneZ hO 26 dX7_needed_20 (by decide) ?_ ?_
    · refine V_aload_n hO 0 dX7_needed_26 rfl rfl ?_
      refine V_callV hO ml_X7_169 (C_X7_areDays α σ) (by decide) (fun _ _ => ce_55) rfl rfl (rest := []) rfl rfl (Nat.le_of_ble_eq_true rfl) ⟨Nat.le_of_ble_eq_true rfl, Nat.le_of_ble_eq_true rfl⟩ dX7_needed_27 (kc_SZ rfl fun q3 => ?_)
      refine V_ifneZ hO 36 dX7_needed_30 (by decide) ?_ ?_
      · refine V_iconst hO 1 dX7_needed_36 (by decide) ?_
        refine V_istore_n hO (ls2 := [(3, .int 1), (0, .ref (α (55))), (1, .int p1), (2, .int p2)]) dX7_needed_37 rfl (by decide) rfl ?_
        exact V_sub [1, 2, 3, 0] rfl (T_X7_needed_38 hO hR fuel p1 p2 (1 : Int32) q3.2 )
      · refine V_bipush hO (-103) dX7_needed_33 (by decide) ?_
        exact V_iret hO hR rfl dX7_needed_35
    · refine V_bipush hO (-102) dX7_needed_23 (by decide) ?_
      exact V_iret hO hR rfl dX7_needed_25
  · refine V_bipush hO (-101) dX7_needed_8 (by decide) ?_
    exact V_iret hO hR rfl dX7_needed_10
set_option maxHeartbeats 4000000 in
set_option maxRecDepth 100000 in
theorem C_X7_needed (α : Nat → Nat) (p1 : Int32) (p2 : Int32) (σ : Hp) : Ct yX7_needed cX7_needed 4 (some .int) 4 88 α [.ref (α (55)), .int p1, .int p2] σ (kSI (F_X7_needed p1 p2 σ)) := ct_of_V (own := RX7) rfl (by decide +kernel) (Nat.le_of_ble_eq_true rfl) fun _ hO hR => T_X7_needed hO hR p1 p2 σ
/-! X7_bears -/
noncomputable def F_X7_bears_94  (w2 : Int32) (w3 : Int32) (h : Hp) : Option (Int32 × Hp) :=
  if (4 : Int32) ≤ w2 then
  some (w3, h)
  else
  some (((-1) : Int32), h)
noncomputable def F_X7_bears_87 (k30 : Int32 → Int32 → Hp → (Option (Int32 × Hp))) (w3 : Int32) (s0 : Int32) (h : Hp) : Option (Int32 × Hp) :=
  k30 s0 (w3 + 1) h
noncomputable def F_X7_bears_30  : Nat → Int32 → Int32 → Hp → Option (Int32 × Hp)
  | 0, _, _, _ => none
  | n + 1, w2, w3, h =>
    if (4 : Int32) ≤ w2 then
    F_X7_bears_94 w2 w3 h
    else
    if (h.1 55 10) ≤ w3 then
    F_X7_bears_94 w2 w3 h
    else
    if inb w3 12 = true then
    if (h.1 60 (Int32.toNatClampNeg w3)) = 0 then
    if inb w3 12 = true then
    F_X7_bears_87 (F_X7_bears_30 n) w3 (w2 + (h.1 61 (Int32.toNatClampNeg w3))) h
    else none
    else
    if inb w3 12 = true then
    if (h.1 60 (Int32.toNatClampNeg w3)) = (1 : Int32) then
    if inb w3 12 = true then
    F_X7_bears_87 (F_X7_bears_30 n) w3 (F_X7_less w2 (h.1 61 (Int32.toNatClampNeg w3)) h) h
    else none
    else
    F_X7_bears_87 (F_X7_bears_30 n) w3 w2 h
    else none
    else none
noncomputable def F_X7_bears  (p1 : Int32) (σ : Hp) : Option (Int32 × Hp) :=
  if (F_X7_isSquare p1 σ) = true then
  (F_X7_areDays σ).bind fun q5 =>
  if q5.1 = true then
  if inb p1 16 = true then
  lt (q5.2.1 56 (Int32.toNatClampNeg p1)) fun v7 =>
  F_X7_bears_30 fuel v7 (0 : Int32) q5.2
  else none
  else
  some (((-103) : Int32), q5.2)
  else
  some (((-101) : Int32), σ)
set_option maxHeartbeats 4000000 in
set_option maxRecDepth 100000 in
theorem T_X7_bears_94 {G : Gm} {α : Nat → Nat} (hO : Ok G α cX7_bears 4 RX7 4 88) (hR : Rt G α (some .int)) : ∀ (w2 : Int32) (w3 : Int32) (h : Hp), V G α 4 (kSI) 94 [(2, .int w2), (3, .int w3)] [] h (F_X7_bears_94 w2 w3 h) := by
  intro w2 w3 h
  rw [F_X7_bears_94]
  refine V_iload_n hO 0 dX7_bears_94 rfl rfl ?_
  refine V_iconst hO 4 dX7_bears_95 (by decide) ?_
  refine V_icmp_ge hO 103 dX7_bears_96 (by decide) ?_ ?_
  · refine V_iload_n hO 1 dX7_bears_103 rfl rfl ?_
    exact V_iret hO hR rfl dX7_bears_104
  · refine V_iconst hO (-1) dX7_bears_99 (by decide) ?_
    refine V_goto hO 104 dX7_bears_100 (by decide) ?_
    exact V_iret hO hR rfl dX7_bears_104
set_option maxHeartbeats 4000000 in
set_option maxRecDepth 100000 in
theorem T_X7_bears_87 {G : Gm} {α : Nat → Nat} (hO : Ok G α cX7_bears 4 RX7 4 88) (hR : Rt G α (some .int)) (k30 : Int32 → Int32 → Hp → (Option (Int32 × Hp))) (hk30 : ∀ (w2 : Int32) (w3 : Int32) (h : Hp), V G α 4 (kSI) 30 [(0, .ref (α (55))), (2, .int w2), (3, .int w3)] [] h (k30 w2 w3 h)) : ∀ (w3 : Int32) (s0 : Int32) (h : Hp), V G α 4 (kSI) 87 [(0, .ref (α (55))), (3, .int w3)] [.int s0] h (F_X7_bears_87 k30 w3 s0 h) := by
  intro w3 s0 h
  rw [F_X7_bears_87]
  refine V_istore_n hO (ls2 := [(2, .int s0), (0, .ref (α (55))), (3, .int w3)]) dX7_bears_87 rfl (by decide) rfl ?_
  refine V_iinc hO (ls2 := [(3, .int (w3 + 1)), (2, .int s0), (0, .ref (α (55)))]) (z := 1) 2 dX7_bears_88 rfl (by decide) (by decide) rfl ?_
  refine V_goto hO 30 dX7_bears_91 (by decide) ?_
  exact V_sub [2, 1, 0] rfl (hk30 s0 (w3 + 1) h )
set_option maxHeartbeats 4000000 in
set_option maxRecDepth 100000 in
theorem T_X7_bears_30 {G : Gm} {α : Nat → Nat} (hO : Ok G α cX7_bears 4 RX7 4 88) (hR : Rt G α (some .int)) : ∀ (fuel : Nat) (w2 : Int32) (w3 : Int32) (h : Hp), V G α 4 (kSI) 30 [(0, .ref (α (55))), (2, .int w2), (3, .int w3)] [] h (F_X7_bears_30 fuel w2 w3 h) := by
  intro fuel
  induction fuel with
  | zero => intro w2 w3 h; exact V_none rfl
  | succ n ih =>
    intro w2 w3 h
    rw [F_X7_bears_30]
    refine V_iload_n hO 1 dX7_bears_30 rfl rfl ?_
    refine V_iconst hO 4 dX7_bears_31 (by decide) ?_
    refine V_icmp_ge hO 94 dX7_bears_32 (by decide) ?_ ?_
    · exact V_sub [1, 2] rfl (T_X7_bears_94 hO hR w2 w3 h )
    · refine V_iload_n hO 2 dX7_bears_35 rfl rfl ?_
      refine V_aload_n hO 0 dX7_bears_36 rfl rfl ?_
      refine V_get hO (v := .int (h.1 55 10)) fl_X7_144 (by decide) (fun _ _ => ce_55) rfl dX7_bears_37 ?_
      refine V_icmp_ge hO 94 dX7_bears_40 (by decide) ?_ ?_
      · exact V_sub [1, 2] rfl (T_X7_bears_94 hO hR w2 w3 h )
      · refine V_aload_n hO 0 dX7_bears_43 rfl rfl ?_
        refine V_get hO (v := .ref (α (60))) fl_X7_22 (by decide) (fun _ _ => ce_55) rfl dX7_bears_44 ?_
        refine V_iload_n hO 2 dX7_bears_47 rfl rfl ?_
        refine V_chk rfl fun c1 => ?_
        refine V_iald hO (by decide) (fun _ _ => ce_60) (inb_in c1) dX7_bears_48 ?_
        refine V_if_ne hO 63 dX7_bears_49 (by decide) ?_ ?_
        · refine V_aload_n hO 0 dX7_bears_63 rfl rfl ?_
          refine V_get hO (v := .ref (α (60))) fl_X7_22 (by decide) (fun _ _ => ce_55) rfl dX7_bears_64 ?_
          refine V_iload_n hO 2 dX7_bears_67 rfl rfl ?_
          refine V_chk rfl fun c2 => ?_
          refine V_iald hO (by decide) (fun _ _ => ce_60) (inb_in c2) dX7_bears_68 ?_
          refine V_iconst hO 1 dX7_bears_69 (by decide) ?_
          refine V_icmp_ne hO 86 dX7_bears_70 (by decide) ?_ ?_
          · refine V_iload_n hO 1 dX7_bears_86 rfl rfl ?_
            exact V_sub [0, 2] rfl (T_X7_bears_87 hO hR (F_X7_bears_30 n) ih w3 w2 h )
          · refine V_iload_n hO 1 dX7_bears_73 rfl rfl ?_
            refine V_aload_n hO 0 dX7_bears_74 rfl rfl ?_
            refine V_get hO (v := .ref (α (61))) fl_X7_25 (by decide) (fun _ _ => ce_55) rfl dX7_bears_75 ?_
            refine V_iload_n hO 2 dX7_bears_78 rfl rfl ?_
            refine V_chk rfl fun c3 => ?_
            refine V_iald hO (by decide) (fun _ _ => ce_61) (inb_in c3) dX7_bears_79 ?_
            refine V_callS hO ml_X7_160 (C_X7_less α w2 (h.1 61 (Int32.toNatClampNeg w3)) h) (rest := []) rfl rfl (Nat.le_of_ble_eq_true rfl) ⟨Nat.le_of_ble_eq_true rfl, Nat.le_of_ble_eq_true rfl⟩ dX7_bears_80 (kc_I ?_)
            refine V_goto hO 87 dX7_bears_83 (by decide) ?_
            exact V_sub [0, 2] rfl (T_X7_bears_87 hO hR (F_X7_bears_30 n) ih w3 (F_X7_less w2 (h.1 61 (Int32.toNatClampNeg w3)) h) h )
        · refine V_iload_n hO 1 dX7_bears_52 rfl rfl ?_
          refine V_aload_n hO 0 dX7_bears_53 rfl rfl ?_
          refine V_get hO (v := .ref (α (61))) fl_X7_25 (by decide) (fun _ _ => ce_55) rfl dX7_bears_54 ?_
          refine V_iload_n hO 2 dX7_bears_57 rfl rfl ?_
          refine V_chk rfl fun c4 => ?_
          refine V_iald hO (by decide) (fun _ _ => ce_61) (inb_in c4) dX7_bears_58 ?_
          refine V_iadd hO dX7_bears_59 ?_
          refine V_goto hO 87 dX7_bears_60 (by decide) ?_
          exact V_sub [0, 2] rfl (T_X7_bears_87 hO hR (F_X7_bears_30 n) ih w3 (w2 + (h.1 61 (Int32.toNatClampNeg w3))) h )
set_option maxHeartbeats 4000000 in
set_option maxRecDepth 100000 in
theorem T_X7_bears {G : Gm} {α : Nat → Nat} (hO : Ok G α cX7_bears 4 RX7 4 88) (hR : Rt G α (some .int)) (p1 : Int32) (σ : Hp) : V G α 4 (kSI) 0 [(0, .ref (α (55))), (1, .int p1)] [] σ (F_X7_bears p1 σ) := by
  rw [F_X7_bears]
  refine V_aload_n hO 0 dX7_bears_0 rfl rfl ?_
  refine V_iload_n hO 1 dX7_bears_1 rfl rfl ?_
  refine V_callV hO ml_X7_98 (C_X7_isSquare α p1 σ) (by decide) (fun _ _ => ce_55) rfl rfl (rest := []) rfl rfl (Nat.le_of_ble_eq_true rfl) ⟨Nat.le_of_ble_eq_true rfl, Nat.le_of_ble_eq_true rfl⟩ dX7_bears_2 (kc_Z ?_)
  refine V_ifneZ hO 11 dX7_bears_5 (by decide) ?_ ?_
  · refine V_aload_n hO 0 dX7_bears_11 rfl rfl ?_
    refine V_callV hO ml_X7_169 (C_X7_areDays α σ) (by decide) (fun _ _ => ce_55) rfl rfl (rest := []) rfl rfl (Nat.le_of_ble_eq_true rfl) ⟨Nat.le_of_ble_eq_true rfl, Nat.le_of_ble_eq_true rfl⟩ dX7_bears_12 (kc_SZ rfl fun q5 => ?_)
    refine V_ifneZ hO 21 dX7_bears_15 (by decide) ?_ ?_
    · refine V_aload_n hO 0 dX7_bears_21 rfl rfl ?_
      refine V_get hO (v := .ref (α (56))) fl_X7_7 (by decide) (fun _ _ => ce_55) rfl dX7_bears_22 ?_
      refine V_iload_n hO 1 dX7_bears_25 rfl rfl ?_
      refine V_chk rfl fun c6 => ?_
      refine V_iald hO (by decide) (fun _ _ => ce_56) (inb_in c6) dX7_bears_26 ?_
      refine V_istore_nN hO (ls2 := fun v7 => [(2, .int v7), (0, .ref (α (55))), (1, .int p1)]) dX7_bears_27 rfl (by decide) (fun _ => rfl) (fun v7 => ?_)
      refine V_iconst hO 0 dX7_bears_28 (by decide) ?_
      refine V_istore_n hO (ls2 := [(3, .int 0), (2, .int v7), (0, .ref (α (55))), (1, .int p1)]) dX7_bears_29 rfl (by decide) rfl ?_
      exact V_sub [2, 1, 0] rfl (T_X7_bears_30 hO hR fuel v7 (0 : Int32) q5.2 )
    · refine V_bipush hO (-103) dX7_bears_18 (by decide) ?_
      exact V_iret hO hR rfl dX7_bears_20
  · refine V_bipush hO (-101) dX7_bears_8 (by decide) ?_
    exact V_iret hO hR rfl dX7_bears_10
set_option maxHeartbeats 4000000 in
set_option maxRecDepth 100000 in
theorem C_X7_bears (α : Nat → Nat) (p1 : Int32) (σ : Hp) : Ct yX7_bears cX7_bears 4 (some .int) 4 88 α [.ref (α (55)), .int p1] σ (kSI (F_X7_bears p1 σ)) := ct_of_V (own := RX7) rfl (by decide +kernel) (Nat.le_of_ble_eq_true rfl) fun _ hO hR => T_X7_bears hO hR p1 σ
/-! X7_owesOf -/
noncomputable def F_X7_owesOf_85 (σ : Hp) (k6 : Int32 → Int32 → Bool → Int32 → Int32 → (Option Int32)) (w1 : Int32) (w2 : Int32) (w3 : Bool) (w5 : Int32) (s0 : Int32) (s1 : Int32) : Option Int32 :=
  lt (s1 + s0) fun v1 =>
  k6 w1 w2 w3 v1 (w5 + 1)
noncomputable def F_X7_owesOf_66 (σ : Hp) (k6 : Int32 → Int32 → Bool → Int32 → Int32 → (Option Int32)) (w1 : Int32) (w2 : Int32) (w3 : Bool) (w4 : Int32) (w5 : Int32) (s0 : Bool) : Option Int32 :=
  if s0 = true then
  (F_X7_worthOf w5 σ).bind fun v2 =>
  F_X7_owesOf_85 σ k6 w1 w2 w3 w5 v2 w4
  else
  F_X7_owesOf_85 σ k6 w1 w2 w3 w5 (0 : Int32) w4
noncomputable def F_X7_owesOf_6 (σ : Hp) : Nat → Int32 → Int32 → Bool → Int32 → Int32 → Option Int32
  | 0, _, _, _, _, _ => none
  | n + 1, w1, w2, w3, w4, w5 =>
    if (σ.1 55 6) ≤ w5 then
    some w4
    else
    if inb (((8 : Int32) * w5) + (2 : Int32)) 80 = true then
    if (σ.1 58 (Int32.toNatClampNeg (((8 : Int32) * w5) + (2 : Int32)))) = w1 then
    if inb (((8 : Int32) * w5) + (3 : Int32)) 80 = true then
    if (σ.1 58 (Int32.toNatClampNeg (((8 : Int32) * w5) + (3 : Int32)))) = w2 then
    if w3 = true then
    (F_X7_lookOf w5 σ).bind fun v5 =>
    if v5 ≤ (1 : Int32) then
    F_X7_owesOf_66 σ (F_X7_owesOf_6 σ n) w1 w2 w3 w4 w5 false
    else
    F_X7_owesOf_66 σ (F_X7_owesOf_6 σ n) w1 w2 w3 w4 w5 true
    else
    F_X7_owesOf_66 σ (F_X7_owesOf_6 σ n) w1 w2 w3 w4 w5 true
    else
    F_X7_owesOf_66 σ (F_X7_owesOf_6 σ n) w1 w2 w3 w4 w5 false
    else none
    else
    F_X7_owesOf_66 σ (F_X7_owesOf_6 σ n) w1 w2 w3 w4 w5 false
    else none
noncomputable def F_X7_owesOf  (p1 : Int32) (p2 : Int32) (p3 : Bool) (σ : Hp) : Option Int32 :=
  F_X7_owesOf_6 σ fuel p1 p2 p3 (0 : Int32) (0 : Int32)
set_option maxHeartbeats 4000000 in
set_option maxRecDepth 100000 in
theorem T_X7_owesOf_85 {G : Gm} {α : Nat → Nat} (hO : Ok G α cX7_owesOf 7 RX7 1 25) (hR : Rt G α (some .int)) (σ : Hp) (k6 : Int32 → Int32 → Bool → Int32 → Int32 → (Option Int32)) (hk6 : ∀ (w1 : Int32) (w2 : Int32) (w3 : Bool) (w4 : Int32) (w5 : Int32), V G α 7 (kOI σ) 6 [(0, .ref (α (55))), (1, .int w1), (2, .int w2), (3, .int (b2i w3)), (4, .int w4), (5, .int w5)] [] σ (k6 w1 w2 w3 w4 w5)) : ∀ (w1 : Int32) (w2 : Int32) (w3 : Bool) (w5 : Int32) (s0 : Int32) (s1 : Int32), V G α 7 (kOI σ) 85 [(0, .ref (α (55))), (1, .int w1), (2, .int w2), (3, .int (b2i w3)), (5, .int w5)] [.int s0, .int s1] σ (F_X7_owesOf_85 σ k6 w1 w2 w3 w5 s0 s1) := by
  intro w1 w2 w3 w5 s0 s1
  rw [F_X7_owesOf_85]
  refine V_iadd hO dX7_owesOf_85 ?_
  refine V_istoreN hO (ls2 := fun v1 => [(4, .int v1), (0, .ref (α (55))), (1, .int w1), (2, .int w2), (3, .int (b2i w3)), (5, .int w5)]) dX7_owesOf_86 (by decide) (fun _ => rfl) (fun v1 => ?_)
  refine V_iinc hO (ls2 := [(5, .int (w5 + 1)), (4, .int v1), (0, .ref (α (55))), (1, .int w1), (2, .int w2), (3, .int (b2i w3))]) (z := 1) 5 dX7_owesOf_88 rfl (by decide) (by decide) rfl ?_
  refine V_goto hO 6 dX7_owesOf_91 (by decide) ?_
  exact V_sub [2, 3, 4, 5, 1, 0] rfl (hk6 w1 w2 w3 v1 (w5 + 1) )
set_option maxHeartbeats 4000000 in
set_option maxRecDepth 100000 in
theorem T_X7_owesOf_66 {G : Gm} {α : Nat → Nat} (hO : Ok G α cX7_owesOf 7 RX7 1 25) (hR : Rt G α (some .int)) (σ : Hp) (k6 : Int32 → Int32 → Bool → Int32 → Int32 → (Option Int32)) (hk6 : ∀ (w1 : Int32) (w2 : Int32) (w3 : Bool) (w4 : Int32) (w5 : Int32), V G α 7 (kOI σ) 6 [(0, .ref (α (55))), (1, .int w1), (2, .int w2), (3, .int (b2i w3)), (4, .int w4), (5, .int w5)] [] σ (k6 w1 w2 w3 w4 w5)) : ∀ (w1 : Int32) (w2 : Int32) (w3 : Bool) (w4 : Int32) (w5 : Int32) (s0 : Bool), V G α 7 (kOI σ) 66 [(0, .ref (α (55))), (1, .int w1), (2, .int w2), (3, .int (b2i w3)), (4, .int w4), (5, .int w5)] [.int (b2i s0)] σ (F_X7_owesOf_66 σ k6 w1 w2 w3 w4 w5 s0) := by
  intro w1 w2 w3 w4 w5 s0
  rw [F_X7_owesOf_66]
  refine V_istore hO (ls2 := [(6, .int (b2i s0)), (0, .ref (α (55))), (1, .int w1), (2, .int w2), (3, .int (b2i w3)), (4, .int w4), (5, .int w5)]) dX7_owesOf_66 (by decide) rfl ?_
  refine V_iload hO 5 dX7_owesOf_68 rfl ?_
  refine V_iload hO 0 dX7_owesOf_70 rfl ?_
  refine V_ifeqZ hO 84 dX7_owesOf_72 (by decide) ?_ ?_
  · refine V_iconst hO 0 dX7_owesOf_84 (by decide) ?_
    exact V_sub [1, 2, 3, 4, 6] rfl (T_X7_owesOf_85 hO hR σ k6 hk6 w1 w2 w3 w5 (0 : Int32) w4 )
  · refine V_aload_n hO 1 dX7_owesOf_75 rfl rfl ?_
    refine V_iload hO 6 dX7_owesOf_76 rfl ?_
    refine V_callV hO ml_X7_123 (C_X7_worthOf α w5 σ) (by decide) (fun _ _ => ce_55) rfl rfl (rest := [.int w4]) rfl rfl (Nat.le_of_ble_eq_true rfl) ⟨Nat.le_of_ble_eq_true rfl, Nat.le_of_ble_eq_true rfl⟩ dX7_owesOf_78 (kc_OI rfl fun v2 => ?_)
    refine V_goto hO 85 dX7_owesOf_81 (by decide) ?_
    exact V_sub [1, 2, 3, 4, 6] rfl (T_X7_owesOf_85 hO hR σ k6 hk6 w1 w2 w3 w5 v2 w4 )
set_option maxHeartbeats 4000000 in
set_option maxRecDepth 100000 in
theorem T_X7_owesOf_6 {G : Gm} {α : Nat → Nat} (hO : Ok G α cX7_owesOf 7 RX7 1 25) (hR : Rt G α (some .int)) (σ : Hp) : ∀ (fuel : Nat) (w1 : Int32) (w2 : Int32) (w3 : Bool) (w4 : Int32) (w5 : Int32), V G α 7 (kOI σ) 6 [(0, .ref (α (55))), (1, .int w1), (2, .int w2), (3, .int (b2i w3)), (4, .int w4), (5, .int w5)] [] σ (F_X7_owesOf_6 σ fuel w1 w2 w3 w4 w5) := by
  intro fuel
  induction fuel with
  | zero => intro w1 w2 w3 w4 w5; exact V_none rfl
  | succ n ih =>
    intro w1 w2 w3 w4 w5
    rw [F_X7_owesOf_6]
    refine V_iload hO 5 dX7_owesOf_6 rfl ?_
    refine V_aload_n hO 0 dX7_owesOf_8 rfl rfl ?_
    refine V_get hO (v := .int (σ.1 55 6)) fl_X7_79 (by decide) (fun _ _ => ce_55) rfl dX7_owesOf_9 ?_
    refine V_icmp_ge hO 94 dX7_owesOf_12 (by decide) ?_ ?_
    · refine V_iload hO 4 dX7_owesOf_94 rfl ?_
      exact V_iret hO hR rfl dX7_owesOf_96
    · refine V_aload_n hO 0 dX7_owesOf_15 rfl rfl ?_
      refine V_get hO (v := .ref (α (58))) fl_X7_16 (by decide) (fun _ _ => ce_55) rfl dX7_owesOf_16 ?_
      refine V_bipush hO 8 dX7_owesOf_19 (by decide) ?_
      refine V_iload hO 5 dX7_owesOf_21 rfl ?_
      refine V_imul hO dX7_owesOf_23 ?_
      refine V_iconst hO 2 dX7_owesOf_24 (by decide) ?_
      refine V_iadd hO dX7_owesOf_25 ?_
      refine V_chk rfl fun c3 => ?_
      refine V_iald hO (by decide) (fun _ _ => ce_58) (inb_in c3) dX7_owesOf_26 ?_
      refine V_iload_n hO 1 dX7_owesOf_27 rfl rfl ?_
      refine V_icmp_ne hO 65 dX7_owesOf_28 (by decide) ?_ ?_
      · refine V_iconst hO 0 dX7_owesOf_65 (by decide) ?_
        exact V_sub [0, 1, 2, 3, 4, 5] rfl (T_X7_owesOf_66 hO hR σ (F_X7_owesOf_6 σ n) ih w1 w2 w3 w4 w5 false )
      · refine V_aload_n hO 0 dX7_owesOf_31 rfl rfl ?_
        refine V_get hO (v := .ref (α (58))) fl_X7_16 (by decide) (fun _ _ => ce_55) rfl dX7_owesOf_32 ?_
        refine V_bipush hO 8 dX7_owesOf_35 (by decide) ?_
        refine V_iload hO 5 dX7_owesOf_37 rfl ?_
        refine V_imul hO dX7_owesOf_39 ?_
        refine V_iconst hO 3 dX7_owesOf_40 (by decide) ?_
        refine V_iadd hO dX7_owesOf_41 ?_
        refine V_chk rfl fun c4 => ?_
        refine V_iald hO (by decide) (fun _ _ => ce_58) (inb_in c4) dX7_owesOf_42 ?_
        refine V_iload_n hO 2 dX7_owesOf_43 rfl rfl ?_
        refine V_icmp_ne hO 65 dX7_owesOf_44 (by decide) ?_ ?_
        · refine V_iconst hO 0 dX7_owesOf_65 (by decide) ?_
          exact V_sub [0, 1, 2, 3, 4, 5] rfl (T_X7_owesOf_66 hO hR σ (F_X7_owesOf_6 σ n) ih w1 w2 w3 w4 w5 false )
        · refine V_iload_n hO 3 dX7_owesOf_47 rfl rfl ?_
          refine V_ifeqZ hO 61 dX7_owesOf_48 (by decide) ?_ ?_
          · refine V_iconst hO 1 dX7_owesOf_61 (by decide) ?_
            refine V_goto hO 66 dX7_owesOf_62 (by decide) ?_
            exact V_sub [0, 1, 2, 3, 4, 5] rfl (T_X7_owesOf_66 hO hR σ (F_X7_owesOf_6 σ n) ih w1 w2 w3 w4 w5 true )
          · refine V_aload_n hO 0 dX7_owesOf_51 rfl rfl ?_
            refine V_iload hO 5 dX7_owesOf_52 rfl ?_
            refine V_callV hO ml_X7_126 (C_X7_lookOf α w5 σ) (by decide) (fun _ _ => ce_55) rfl rfl (rest := []) rfl rfl (Nat.le_of_ble_eq_true rfl) ⟨Nat.le_of_ble_eq_true rfl, Nat.le_of_ble_eq_true rfl⟩ dX7_owesOf_54 (kc_OI rfl fun v5 => ?_)
            refine V_iconst hO 1 dX7_owesOf_57 (by decide) ?_
            refine V_icmp_le hO 65 dX7_owesOf_58 (by decide) ?_ ?_
            · refine V_iconst hO 0 dX7_owesOf_65 (by decide) ?_
              exact V_sub [0, 1, 2, 3, 4, 5] rfl (T_X7_owesOf_66 hO hR σ (F_X7_owesOf_6 σ n) ih w1 w2 w3 w4 w5 false )
            · refine V_iconst hO 1 dX7_owesOf_61 (by decide) ?_
              refine V_goto hO 66 dX7_owesOf_62 (by decide) ?_
              exact V_sub [0, 1, 2, 3, 4, 5] rfl (T_X7_owesOf_66 hO hR σ (F_X7_owesOf_6 σ n) ih w1 w2 w3 w4 w5 true )
set_option maxHeartbeats 4000000 in
set_option maxRecDepth 100000 in
theorem T_X7_owesOf {G : Gm} {α : Nat → Nat} (hO : Ok G α cX7_owesOf 7 RX7 1 25) (hR : Rt G α (some .int)) (p1 : Int32) (p2 : Int32) (p3 : Bool) (σ : Hp) : V G α 7 (kOI σ) 0 [(0, .ref (α (55))), (1, .int p1), (2, .int p2), (3, .int (b2i p3))] [] σ (F_X7_owesOf p1 p2 p3 σ) := by
  rw [F_X7_owesOf]
  refine V_iconst hO 0 dX7_owesOf_0 (by decide) ?_
  refine V_istore hO (ls2 := [(4, .int 0), (0, .ref (α (55))), (1, .int p1), (2, .int p2), (3, .int (b2i p3))]) dX7_owesOf_1 (by decide) rfl ?_
  refine V_iconst hO 0 dX7_owesOf_3 (by decide) ?_
  refine V_istore hO (ls2 := [(5, .int 0), (4, .int 0), (0, .ref (α (55))), (1, .int p1), (2, .int p2), (3, .int (b2i p3))]) dX7_owesOf_4 (by decide) rfl ?_
  exact V_sub [2, 3, 4, 5, 1, 0] rfl (T_X7_owesOf_6 hO hR σ fuel p1 p2 p3 (0 : Int32) (0 : Int32) )
set_option maxHeartbeats 4000000 in
set_option maxRecDepth 100000 in
theorem C_X7_owesOf (α : Nat → Nat) (p1 : Int32) (p2 : Int32) (p3 : Bool) (σ : Hp) : Ct yX7_owesOf cX7_owesOf 7 (some .int) 1 25 α [.ref (α (55)), .int p1, .int p2, .int (b2i p3)] σ (kOI σ (F_X7_owesOf p1 p2 p3 σ)) := ct_of_V (own := RX7) rfl (by decide +kernel) (Nat.le_of_ble_eq_true rfl) fun _ hO hR => T_X7_owesOf hO hR p1 p2 p3 σ
/-! X7_owes -/
noncomputable def F_X7_owes  (p1 : Int32) (p2 : Int32) (p3 : Bool) (σ : Hp) : Option Int32 :=
  if (F_X7_isPerson p1 σ) = true then
  if (F_X7_isPerson p2 σ) = true then
  if p1 = p2 then
  some ((-101) : Int32)
  else
  (F_X7_owesOf p1 p2 p3 σ).bind fun v1 =>
  some v1
  else
  some ((-101) : Int32)
  else
  some ((-101) : Int32)
set_option maxHeartbeats 4000000 in
set_option maxRecDepth 100000 in
theorem T_X7_owes {G : Gm} {α : Nat → Nat} (hO : Ok G α cX7_owes 4 RX7 2 51) (hR : Rt G α (some .int)) (p1 : Int32) (p2 : Int32) (p3 : Bool) (σ : Hp) : V G α 4 (kOI σ) 0 [(0, .ref (α (55))), (1, .int p1), (2, .int p2), (3, .int (b2i p3))] [] σ (F_X7_owes p1 p2 p3 σ) := by
  rw [F_X7_owes]
  refine V_iload_n hO 1 dX7_owes_0 rfl rfl ?_
  refine V_callS hO ml_X7_118 (C_X7_isPerson α p1 σ) (rest := []) rfl rfl (Nat.le_of_ble_eq_true rfl) ⟨Nat.le_of_ble_eq_true rfl, Nat.le_of_ble_eq_true rfl⟩ dX7_owes_1 (kc_Z ?_)
  refine V_ifeqZ hO 29 dX7_owes_4 (by decide) ?_ ?_
  · refine V_bipush hO (-101) dX7_owes_29 (by decide) ?_
    exact V_iret hO hR rfl dX7_owes_31
  · refine V_iload_n hO 2 dX7_owes_7 rfl rfl ?_
    refine V_callS hO ml_X7_118 (C_X7_isPerson α p2 σ) (rest := []) rfl rfl (Nat.le_of_ble_eq_true rfl) ⟨Nat.le_of_ble_eq_true rfl, Nat.le_of_ble_eq_true rfl⟩ dX7_owes_8 (kc_Z ?_)
    refine V_ifeqZ hO 29 dX7_owes_11 (by decide) ?_ ?_
    · refine V_bipush hO (-101) dX7_owes_29 (by decide) ?_
      exact V_iret hO hR rfl dX7_owes_31
    · refine V_iload_n hO 1 dX7_owes_14 rfl rfl ?_
      refine V_iload_n hO 2 dX7_owes_15 rfl rfl ?_
      refine V_icmp_eq hO 29 dX7_owes_16 (by decide) ?_ ?_
      · refine V_bipush hO (-101) dX7_owes_29 (by decide) ?_
        exact V_iret hO hR rfl dX7_owes_31
      · refine V_aload_n hO 0 dX7_owes_19 rfl rfl ?_
        refine V_iload_n hO 1 dX7_owes_20 rfl rfl ?_
        refine V_iload_n hO 2 dX7_owes_21 rfl rfl ?_
        refine V_iload_n hO 3 dX7_owes_22 rfl rfl ?_
        refine V_callV hO ml_X7_184 (C_X7_owesOf α p1 p2 p3 σ) (by decide) (fun _ _ => ce_55) rfl rfl (rest := []) rfl rfl (Nat.le_of_ble_eq_true rfl) ⟨Nat.le_of_ble_eq_true rfl, Nat.le_of_ble_eq_true rfl⟩ dX7_owes_23 (kc_OI rfl fun v1 => ?_)
        refine V_goto hO 31 dX7_owes_26 (by decide) ?_
        exact V_iret hO hR rfl dX7_owes_31
set_option maxHeartbeats 4000000 in
set_option maxRecDepth 100000 in
theorem C_X7_owes (α : Nat → Nat) (p1 : Int32) (p2 : Int32) (p3 : Bool) (σ : Hp) : Ct yX7_owes cX7_owes 4 (some .int) 2 51 α [.ref (α (55)), .int p1, .int p2, .int (b2i p3)] σ (kOI σ (F_X7_owes p1 p2 p3 σ)) := ct_of_V (own := RX7) rfl (by decide +kernel) (Nat.le_of_ble_eq_true rfl) fun _ hO hR => T_X7_owes hO hR p1 p2 p3 σ
/-! X7_restOf -/
noncomputable def F_X7_restOf_4 (σ : Hp) : Nat → Int32 → Int32 → Int32 → Option Int32
  | 0, _, _, _ => none
  | n + 1, w1, w2, w3 =>
    if (6 : Int32) ≤ w3 then
    some w2
    else
    (F_X7_owesOf w3 w1 false σ).bind fun v1 =>
    (F_X7_owesOf w1 w3 false σ).bind fun v2 =>
    lt (w2 + (v1 - v2)) fun v3 =>
    F_X7_restOf_4 σ n w1 v3 (w3 + 1)
noncomputable def F_X7_restOf  (p1 : Int32) (σ : Hp) : Option Int32 :=
  F_X7_restOf_4 σ fuel p1 (0 : Int32) (0 : Int32)
set_option maxHeartbeats 4000000 in
set_option maxRecDepth 100000 in
theorem T_X7_restOf_4 {G : Gm} {α : Nat → Nat} (hO : Ok G α cX7_restOf 4 RX7 2 51) (hR : Rt G α (some .int)) (σ : Hp) : ∀ (fuel : Nat) (w1 : Int32) (w2 : Int32) (w3 : Int32), V G α 4 (kOI σ) 4 [(0, .ref (α (55))), (1, .int w1), (2, .int w2), (3, .int w3)] [] σ (F_X7_restOf_4 σ fuel w1 w2 w3) := by
  intro fuel
  induction fuel with
  | zero => intro w1 w2 w3; exact V_none rfl
  | succ n ih =>
    intro w1 w2 w3
    rw [F_X7_restOf_4]
    refine V_iload_n hO 3 dX7_restOf_4 rfl rfl ?_
    refine V_bipush hO 6 dX7_restOf_5 (by decide) ?_
    refine V_icmp_ge hO 34 dX7_restOf_7 (by decide) ?_ ?_
    · refine V_iload_n hO 2 dX7_restOf_34 rfl rfl ?_
      exact V_iret hO hR rfl dX7_restOf_35
    · refine V_iload_n hO 2 dX7_restOf_10 rfl rfl ?_
      refine V_aload_n hO 0 dX7_restOf_11 rfl rfl ?_
      refine V_iload_n hO 3 dX7_restOf_12 rfl rfl ?_
      refine V_iload_n hO 1 dX7_restOf_13 rfl rfl ?_
      refine V_iconst hO 0 dX7_restOf_14 (by decide) ?_
      refine V_callV hO ml_X7_184 (C_X7_owesOf α w3 w1 false σ) (by decide) (fun _ _ => ce_55) rfl rfl (rest := [.int w2]) rfl rfl (Nat.le_of_ble_eq_true rfl) ⟨Nat.le_of_ble_eq_true rfl, Nat.le_of_ble_eq_true rfl⟩ dX7_restOf_15 (kc_OI rfl fun v1 => ?_)
      refine V_aload_n hO 0 dX7_restOf_18 rfl rfl ?_
      refine V_iload_n hO 1 dX7_restOf_19 rfl rfl ?_
      refine V_iload_n hO 3 dX7_restOf_20 rfl rfl ?_
      refine V_iconst hO 0 dX7_restOf_21 (by decide) ?_
      refine V_callV hO ml_X7_184 (C_X7_owesOf α w1 w3 false σ) (by decide) (fun _ _ => ce_55) rfl rfl (rest := [.int v1, .int w2]) rfl rfl (Nat.le_of_ble_eq_true rfl) ⟨Nat.le_of_ble_eq_true rfl, Nat.le_of_ble_eq_true rfl⟩ dX7_restOf_22 (kc_OI rfl fun v2 => ?_)
      refine V_isub hO dX7_restOf_25 ?_
      refine V_iadd hO dX7_restOf_26 ?_
      refine V_istore_nN hO (ls2 := fun v3 => [(2, .int v3), (0, .ref (α (55))), (1, .int w1), (3, .int w3)]) dX7_restOf_27 rfl (by decide) (fun _ => rfl) (fun v3 => ?_)
      refine V_iinc hO (ls2 := [(3, .int (w3 + 1)), (2, .int v3), (0, .ref (α (55))), (1, .int w1)]) (z := 1) 3 dX7_restOf_28 rfl (by decide) (by decide) rfl ?_
      refine V_goto hO 4 dX7_restOf_31 (by decide) ?_
      exact V_sub [2, 3, 1, 0] rfl (ih w1 v3 (w3 + 1) )
set_option maxHeartbeats 4000000 in
set_option maxRecDepth 100000 in
theorem T_X7_restOf {G : Gm} {α : Nat → Nat} (hO : Ok G α cX7_restOf 4 RX7 2 51) (hR : Rt G α (some .int)) (p1 : Int32) (σ : Hp) : V G α 4 (kOI σ) 0 [(0, .ref (α (55))), (1, .int p1)] [] σ (F_X7_restOf p1 σ) := by
  rw [F_X7_restOf]
  refine V_iconst hO 0 dX7_restOf_0 (by decide) ?_
  refine V_istore_n hO (ls2 := [(2, .int 0), (0, .ref (α (55))), (1, .int p1)]) dX7_restOf_1 rfl (by decide) rfl ?_
  refine V_iconst hO 0 dX7_restOf_2 (by decide) ?_
  refine V_istore_n hO (ls2 := [(3, .int 0), (2, .int 0), (0, .ref (α (55))), (1, .int p1)]) dX7_restOf_3 rfl (by decide) rfl ?_
  exact V_sub [2, 3, 1, 0] rfl (T_X7_restOf_4 hO hR σ fuel p1 (0 : Int32) (0 : Int32) )
set_option maxHeartbeats 4000000 in
set_option maxRecDepth 100000 in
theorem C_X7_restOf (α : Nat → Nat) (p1 : Int32) (σ : Hp) : Ct yX7_restOf cX7_restOf 4 (some .int) 2 51 α [.ref (α (55)), .int p1] σ (kOI σ (F_X7_restOf p1 σ)) := ct_of_V (own := RX7) rfl (by decide +kernel) (Nat.le_of_ble_eq_true rfl) fun _ hO hR => T_X7_restOf hO hR p1 σ
/-! X7_rest -/
noncomputable def F_X7_rest  (p1 : Int32) (σ : Hp) : Option Int32 :=
  if (F_X7_isPerson p1 σ) = true then
  (F_X7_restOf p1 σ).bind fun v1 =>
  some v1
  else
  some ((-100001) : Int32)
set_option maxHeartbeats 4000000 in
set_option maxRecDepth 100000 in
theorem T_X7_rest {G : Gm} {α : Nat → Nat} (hO : Ok G α cX7_rest 2 RX7 3 74) (hR : Rt G α (some .int)) (p1 : Int32) (σ : Hp) : V G α 2 (kOI σ) 0 [(0, .ref (α (55))), (1, .int p1)] [] σ (F_X7_rest p1 σ) := by
  rw [F_X7_rest]
  refine V_iload_n hO 1 dX7_rest_0 rfl rfl ?_
  refine V_callS hO ml_X7_118 (C_X7_isPerson α p1 σ) (rest := []) rfl rfl (Nat.le_of_ble_eq_true rfl) ⟨Nat.le_of_ble_eq_true rfl, Nat.le_of_ble_eq_true rfl⟩ dX7_rest_1 (kc_Z ?_)
  refine V_ifeqZ hO 15 dX7_rest_4 (by decide) ?_ ?_
  · refine V_ldc hO (v := (-100001)) dX7_rest_15 cn_X7_191 ?_
    exact V_iret hO hR rfl dX7_rest_17
  · refine V_aload_n hO 0 dX7_rest_7 rfl rfl ?_
    refine V_iload_n hO 1 dX7_rest_8 rfl rfl ?_
    refine V_callV hO ml_X7_188 (C_X7_restOf α p1 σ) (by decide) (fun _ _ => ce_55) rfl rfl (rest := []) rfl rfl (Nat.le_of_ble_eq_true rfl) ⟨Nat.le_of_ble_eq_true rfl, Nat.le_of_ble_eq_true rfl⟩ dX7_rest_9 (kc_OI rfl fun v1 => ?_)
    refine V_goto hO 17 dX7_rest_12 (by decide) ?_
    exact V_iret hO hR rfl dX7_rest_17
set_option maxHeartbeats 4000000 in
set_option maxRecDepth 100000 in
theorem C_X7_rest (α : Nat → Nat) (p1 : Int32) (σ : Hp) : Ct yX7_rest cX7_rest 2 (some .int) 3 74 α [.ref (α (55)), .int p1] σ (kOI σ (F_X7_rest p1 σ)) := ct_of_V (own := RX7) rfl (by decide +kernel) (Nat.le_of_ble_eq_true rfl) fun _ hO hR => T_X7_rest hO hR p1 σ
/-! X7_weightOf -/
noncomputable def F_X7_weightOf_42 (σ : Hp) (k4 : Int32 → Int32 → Int32 → (Option Int32)) (w1 : Int32) (w3 : Int32) (s0 : Int32) (s1 : Int32) : Option Int32 :=
  lt (s1 + s0) fun v1 =>
  k4 w1 v1 (w3 + 1)
noncomputable def F_X7_weightOf_4 (σ : Hp) : Nat → Int32 → Int32 → Int32 → Option Int32
  | 0, _, _, _ => none
  | n + 1, w1, w2, w3 =>
    if (σ.1 55 6) ≤ w3 then
    some w2
    else
    if ((w1 >>> (w3 &&& 31)) &&& (1 : Int32)) = (1 : Int32) then
    if inb (((8 : Int32) * w3) + (1 : Int32)) 80 = true then
    if inb (σ.1 58 (Int32.toNatClampNeg (((8 : Int32) * w3) + (1 : Int32)))) 16 = true then
    F_X7_weightOf_42 σ (F_X7_weightOf_4 σ n) w1 w3 (σ.1 56 (Int32.toNatClampNeg (σ.1 58 (Int32.toNatClampNeg (((8 : Int32) * w3) + (1 : Int32)))))) w2
    else none
    else none
    else
    F_X7_weightOf_42 σ (F_X7_weightOf_4 σ n) w1 w3 (0 : Int32) w2
noncomputable def F_X7_weightOf  (p1 : Int32) (σ : Hp) : Option Int32 :=
  F_X7_weightOf_4 σ fuel p1 (0 : Int32) (0 : Int32)
set_option maxHeartbeats 4000000 in
set_option maxRecDepth 100000 in
theorem T_X7_weightOf_42 {G : Gm} {α : Nat → Nat} (hO : Ok G α cX7_weightOf 4 RX7 0 0) (hR : Rt G α (some .int)) (σ : Hp) (k4 : Int32 → Int32 → Int32 → (Option Int32)) (hk4 : ∀ (w1 : Int32) (w2 : Int32) (w3 : Int32), V G α 4 (kOI σ) 4 [(0, .ref (α (55))), (1, .int w1), (2, .int w2), (3, .int w3)] [] σ (k4 w1 w2 w3)) : ∀ (w1 : Int32) (w3 : Int32) (s0 : Int32) (s1 : Int32), V G α 4 (kOI σ) 42 [(0, .ref (α (55))), (1, .int w1), (3, .int w3)] [.int s0, .int s1] σ (F_X7_weightOf_42 σ k4 w1 w3 s0 s1) := by
  intro w1 w3 s0 s1
  rw [F_X7_weightOf_42]
  refine V_iadd hO dX7_weightOf_42 ?_
  refine V_istore_nN hO (ls2 := fun v1 => [(2, .int v1), (0, .ref (α (55))), (1, .int w1), (3, .int w3)]) dX7_weightOf_43 rfl (by decide) (fun _ => rfl) (fun v1 => ?_)
  refine V_iinc hO (ls2 := [(3, .int (w3 + 1)), (2, .int v1), (0, .ref (α (55))), (1, .int w1)]) (z := 1) 3 dX7_weightOf_44 rfl (by decide) (by decide) rfl ?_
  refine V_goto hO 4 dX7_weightOf_47 (by decide) ?_
  exact V_sub [2, 3, 1, 0] rfl (hk4 w1 v1 (w3 + 1) )
set_option maxHeartbeats 4000000 in
set_option maxRecDepth 100000 in
theorem T_X7_weightOf_4 {G : Gm} {α : Nat → Nat} (hO : Ok G α cX7_weightOf 4 RX7 0 0) (hR : Rt G α (some .int)) (σ : Hp) : ∀ (fuel : Nat) (w1 : Int32) (w2 : Int32) (w3 : Int32), V G α 4 (kOI σ) 4 [(0, .ref (α (55))), (1, .int w1), (2, .int w2), (3, .int w3)] [] σ (F_X7_weightOf_4 σ fuel w1 w2 w3) := by
  intro fuel
  induction fuel with
  | zero => intro w1 w2 w3; exact V_none rfl
  | succ n ih =>
    intro w1 w2 w3
    rw [F_X7_weightOf_4]
    refine V_iload_n hO 3 dX7_weightOf_4 rfl rfl ?_
    refine V_aload_n hO 0 dX7_weightOf_5 rfl rfl ?_
    refine V_get hO (v := .int (σ.1 55 6)) fl_X7_79 (by decide) (fun _ _ => ce_55) rfl dX7_weightOf_6 ?_
    refine V_icmp_ge hO 50 dX7_weightOf_9 (by decide) ?_ ?_
    · refine V_iload_n hO 2 dX7_weightOf_50 rfl rfl ?_
      exact V_iret hO hR rfl dX7_weightOf_51
    · refine V_iload_n hO 2 dX7_weightOf_12 rfl rfl ?_
      refine V_iload_n hO 1 dX7_weightOf_13 rfl rfl ?_
      refine V_iload_n hO 3 dX7_weightOf_14 rfl rfl ?_
      refine V_ishr hO dX7_weightOf_15 ?_
      refine V_iconst hO 1 dX7_weightOf_16 (by decide) ?_
      refine V_iand hO dX7_weightOf_17 ?_
      refine V_iconst hO 1 dX7_weightOf_18 (by decide) ?_
      refine V_icmp_ne hO 41 dX7_weightOf_19 (by decide) ?_ ?_
      · refine V_iconst hO 0 dX7_weightOf_41 (by decide) ?_
        exact V_sub [0, 1, 3] rfl (T_X7_weightOf_42 hO hR σ (F_X7_weightOf_4 σ n) ih w1 w3 (0 : Int32) w2 )
      · refine V_aload_n hO 0 dX7_weightOf_22 rfl rfl ?_
        refine V_get hO (v := .ref (α (56))) fl_X7_7 (by decide) (fun _ _ => ce_55) rfl dX7_weightOf_23 ?_
        refine V_aload_n hO 0 dX7_weightOf_26 rfl rfl ?_
        refine V_get hO (v := .ref (α (58))) fl_X7_16 (by decide) (fun _ _ => ce_55) rfl dX7_weightOf_27 ?_
        refine V_bipush hO 8 dX7_weightOf_30 (by decide) ?_
        refine V_iload_n hO 3 dX7_weightOf_32 rfl rfl ?_
        refine V_imul hO dX7_weightOf_33 ?_
        refine V_iconst hO 1 dX7_weightOf_34 (by decide) ?_
        refine V_iadd hO dX7_weightOf_35 ?_
        refine V_chk rfl fun c2 => ?_
        refine V_iald hO (by decide) (fun _ _ => ce_58) (inb_in c2) dX7_weightOf_36 ?_
        refine V_chk rfl fun c3 => ?_
        refine V_iald hO (by decide) (fun _ _ => ce_56) (inb_in c3) dX7_weightOf_37 ?_
        refine V_goto hO 42 dX7_weightOf_38 (by decide) ?_
        exact V_sub [0, 1, 3] rfl (T_X7_weightOf_42 hO hR σ (F_X7_weightOf_4 σ n) ih w1 w3 (σ.1 56 (Int32.toNatClampNeg (σ.1 58 (Int32.toNatClampNeg (((8 : Int32) * w3) + (1 : Int32)))))) w2 )
set_option maxHeartbeats 4000000 in
set_option maxRecDepth 100000 in
theorem T_X7_weightOf {G : Gm} {α : Nat → Nat} (hO : Ok G α cX7_weightOf 4 RX7 0 0) (hR : Rt G α (some .int)) (p1 : Int32) (σ : Hp) : V G α 4 (kOI σ) 0 [(0, .ref (α (55))), (1, .int p1)] [] σ (F_X7_weightOf p1 σ) := by
  rw [F_X7_weightOf]
  refine V_iconst hO 0 dX7_weightOf_0 (by decide) ?_
  refine V_istore_n hO (ls2 := [(2, .int 0), (0, .ref (α (55))), (1, .int p1)]) dX7_weightOf_1 rfl (by decide) rfl ?_
  refine V_iconst hO 0 dX7_weightOf_2 (by decide) ?_
  refine V_istore_n hO (ls2 := [(3, .int 0), (2, .int 0), (0, .ref (α (55))), (1, .int p1)]) dX7_weightOf_3 rfl (by decide) rfl ?_
  exact V_sub [2, 3, 1, 0] rfl (T_X7_weightOf_4 hO hR σ fuel p1 (0 : Int32) (0 : Int32) )
set_option maxHeartbeats 4000000 in
set_option maxRecDepth 100000 in
theorem C_X7_weightOf (α : Nat → Nat) (p1 : Int32) (σ : Hp) : Ct yX7_weightOf cX7_weightOf 4 (some .int) 0 0 α [.ref (α (55)), .int p1] σ (kOI σ (F_X7_weightOf p1 σ)) := ct_of_V (own := RX7) rfl (by decide +kernel) (Nat.le_of_ble_eq_true rfl) fun _ hO hR => T_X7_weightOf hO hR p1 σ
/-! X7_ones -/
noncomputable def F_X7_ones_4 (σ : Hp) : Nat → Int32 → Int32 → Int32 → Option Int32
  | 0, _, _, _ => none
  | n + 1, w0, w1, w2 =>
    if (10 : Int32) ≤ w2 then
    some w1
    else
    lt (w1 + ((w0 >>> (w2 &&& 31)) &&& (1 : Int32))) fun v1 =>
    F_X7_ones_4 σ n w0 v1 (w2 + 1)
noncomputable def F_X7_ones  (p1 : Int32) (σ : Hp) : Option Int32 :=
  F_X7_ones_4 σ fuel p1 (0 : Int32) (0 : Int32)
set_option maxHeartbeats 4000000 in
set_option maxRecDepth 100000 in
theorem T_X7_ones_4 {G : Gm} {α : Nat → Nat} (hO : Ok G α cX7_ones 3 RX7 0 0) (hR : Rt G α (some .int)) (σ : Hp) : ∀ (fuel : Nat) (w0 : Int32) (w1 : Int32) (w2 : Int32), V G α 3 (kOI σ) 4 [(0, .int w0), (1, .int w1), (2, .int w2)] [] σ (F_X7_ones_4 σ fuel w0 w1 w2) := by
  intro fuel
  induction fuel with
  | zero => intro w0 w1 w2; exact V_none rfl
  | succ n ih =>
    intro w0 w1 w2
    rw [F_X7_ones_4]
    refine V_iload_n hO 2 dX7_ones_4 rfl rfl ?_
    refine V_bipush hO 10 dX7_ones_5 (by decide) ?_
    refine V_icmp_ge hO 24 dX7_ones_7 (by decide) ?_ ?_
    · refine V_iload_n hO 1 dX7_ones_24 rfl rfl ?_
      exact V_iret hO hR rfl dX7_ones_25
    · refine V_iload_n hO 1 dX7_ones_10 rfl rfl ?_
      refine V_iload_n hO 0 dX7_ones_11 rfl rfl ?_
      refine V_iload_n hO 2 dX7_ones_12 rfl rfl ?_
      refine V_ishr hO dX7_ones_13 ?_
      refine V_iconst hO 1 dX7_ones_14 (by decide) ?_
      refine V_iand hO dX7_ones_15 ?_
      refine V_iadd hO dX7_ones_16 ?_
      refine V_istore_nN hO (ls2 := fun v1 => [(1, .int v1), (0, .int w0), (2, .int w2)]) dX7_ones_17 rfl (by decide) (fun _ => rfl) (fun v1 => ?_)
      refine V_iinc hO (ls2 := [(2, .int (w2 + 1)), (1, .int v1), (0, .int w0)]) (z := 1) 2 dX7_ones_18 rfl (by decide) (by decide) rfl ?_
      refine V_goto hO 4 dX7_ones_21 (by decide) ?_
      exact V_sub [2, 1, 0] rfl (ih w0 v1 (w2 + 1) )
set_option maxHeartbeats 4000000 in
set_option maxRecDepth 100000 in
theorem T_X7_ones {G : Gm} {α : Nat → Nat} (hO : Ok G α cX7_ones 3 RX7 0 0) (hR : Rt G α (some .int)) (p1 : Int32) (σ : Hp) : V G α 3 (kOI σ) 0 [(0, .int p1)] [] σ (F_X7_ones p1 σ) := by
  rw [F_X7_ones]
  refine V_iconst hO 0 dX7_ones_0 (by decide) ?_
  refine V_istore_n hO (ls2 := [(1, .int 0), (0, .int p1)]) dX7_ones_1 rfl (by decide) rfl ?_
  refine V_iconst hO 0 dX7_ones_2 (by decide) ?_
  refine V_istore_n hO (ls2 := [(2, .int 0), (1, .int 0), (0, .int p1)]) dX7_ones_3 rfl (by decide) rfl ?_
  exact V_sub [2, 1, 0] rfl (T_X7_ones_4 hO hR σ fuel p1 (0 : Int32) (0 : Int32) )
set_option maxHeartbeats 4000000 in
set_option maxRecDepth 100000 in
theorem C_X7_ones (α : Nat → Nat) (p1 : Int32) (σ : Hp) : Ct yX7_ones cX7_ones 3 (some .int) 0 0 α [.int p1] σ (kOI σ (F_X7_ones p1 σ)) := ct_of_V (own := RX7) rfl (by decide +kernel) (Nat.le_of_ble_eq_true rfl) fun _ hO hR => T_X7_ones hO hR p1 σ
/-! X7_layFits -/
noncomputable def F_X7_layFits_34 (k9 : Int32 → Int32 → Int32 → Hp → (Option Hp)) (w1 : Int32) (w2 : Int32) (w3 : Int32) (s0 : Int32) (s1 : Int32) (h : Hp) : Option Hp :=
  if inb s1 1024 = true then
  lt (up h 62 (Int32.toNatClampNeg s1) s0) fun h2 =>
  k9 w1 w2 (w3 + 1) h2
  else none
noncomputable def F_X7_layFits_147 (k51 : Int32 → Int32 → Int32 → Hp → (Option Hp)) (w2 : Int32) (w3 : Int32) (w4 : Int32) (h : Hp) : Option Hp :=
  k51 w2 w3 (w4 + 1) h
noncomputable def F_X7_layFits_134 (k61 : Int32 → Int32 → Int32 → Int32 → Hp → (Option Hp)) (w2 : Int32) (w3 : Int32) (w4 : Int32) (w5 : Int32) (s0 : Int32) (s1 : Int32) (h : Hp) : Option Hp :=
  if inb s1 1024 = true then
  lt (up h 62 (Int32.toNatClampNeg s1) s0) fun h4 =>
  lt ((w5 - (1 : Int32)) &&& w4) fun v5 =>
  k61 w2 w3 w4 v5 h4
  else none
noncomputable def F_X7_layFits_110 (k61 : Int32 → Int32 → Int32 → Int32 → Hp → (Option Hp)) (w2 : Int32) (w3 : Int32) (w4 : Int32) (w5 : Int32) (s0 : Bool) (h : Hp) : Option Hp :=
  if s0 = true then
  F_X7_layFits_134 k61 w2 w3 w4 w5 w3 w4 h
  else
  if inb w4 1024 = true then
  F_X7_layFits_134 k61 w2 w3 w4 w5 (h.1 62 (Int32.toNatClampNeg w4)) w4 h
  else none
noncomputable def F_X7_layFits_61 (k51 : Int32 → Int32 → Int32 → Hp → (Option Hp)) : Nat → Int32 → Int32 → Int32 → Int32 → Hp → Option Hp
  | 0, _, _, _, _, _ => none
  | n + 1, w2, w3, w4, w5, h =>
    if w5 ≤ 0 then
    F_X7_layFits_147 k51 w2 w3 w4 h
    else
    if inb w4 1024 = true then
    if (h.1 62 (Int32.toNatClampNeg w4)) = (9 : Int32) then
    if inb w5 1024 = true then
    if (h.1 62 (Int32.toNatClampNeg w5)) = (1 : Int32) then
    if inb (w4 - w5) 1024 = true then
    if (h.1 62 (Int32.toNatClampNeg (w4 - w5))) = (w3 - (1 : Int32)) then
    F_X7_layFits_110 (F_X7_layFits_61 k51 n) w2 w3 w4 w5 true h
    else
    F_X7_layFits_110 (F_X7_layFits_61 k51 n) w2 w3 w4 w5 false h
    else none
    else
    F_X7_layFits_110 (F_X7_layFits_61 k51 n) w2 w3 w4 w5 false h
    else none
    else
    F_X7_layFits_147 k51 w2 w3 w4 h
    else none
noncomputable def F_X7_layFits_51 (k43 : Int32 → Int32 → Hp → (Option Hp)) : Nat → Int32 → Int32 → Int32 → Hp → Option Hp
  | 0, _, _, _, _ => none
  | n + 1, w2, w3, w4, h =>
    if w2 ≤ w4 then
    k43 w2 (w3 + 1) h
    else
    F_X7_layFits_61 (F_X7_layFits_51 k43 n) fuel w2 w3 w4 w4 h
noncomputable def F_X7_layFits_43  : Nat → Int32 → Int32 → Hp → Option Hp
  | 0, _, _, _ => none
  | n + 1, w2, w3, h =>
    if (4 : Int32) ≤ w3 then
    some h
    else
    F_X7_layFits_51 (F_X7_layFits_43 n) fuel w2 w3 (0 : Int32) h
noncomputable def F_X7_layFits_9  : Nat → Int32 → Int32 → Int32 → Hp → Option Hp
  | 0, _, _, _, _ => none
  | n + 1, w1, w2, w3, h =>
    if w2 ≤ w3 then
    F_X7_layFits_43 fuel w2 (2 : Int32) h
    else
    (F_X7_weightOf w3 h).bind fun v10 =>
    if w1 < v10 then
    F_X7_layFits_34 (F_X7_layFits_9 n) w1 w2 w3 (9 : Int32) w3 h
    else
    F_X7_layFits_34 (F_X7_layFits_9 n) w1 w2 w3 (1 : Int32) w3 h
noncomputable def F_X7_layFits  (p1 : Int32) (σ : Hp) : Option Hp :=
  lt ((1 : Int32) <<< ((σ.1 55 6) &&& 31)) fun v11 =>
  F_X7_layFits_9 fuel p1 v11 (0 : Int32) σ
set_option maxHeartbeats 4000000 in
set_option maxRecDepth 100000 in
theorem T_X7_layFits_34 {G : Gm} {α : Nat → Nat} (hO : Ok G α cX7_layFits 7 RX7 1 23) (hR : Rt G α none) (k9 : Int32 → Int32 → Int32 → Hp → (Option Hp)) (hk9 : ∀ (w1 : Int32) (w2 : Int32) (w3 : Int32) (h : Hp), V G α 7 (kSV) 9 [(0, .ref (α (55))), (1, .int w1), (2, .int w2), (3, .int w3)] [] h (k9 w1 w2 w3 h)) : ∀ (w1 : Int32) (w2 : Int32) (w3 : Int32) (s0 : Int32) (s1 : Int32) (h : Hp), V G α 7 (kSV) 34 [(0, .ref (α (55))), (1, .int w1), (2, .int w2), (3, .int w3)] [.int s0, .int s1, .ref (α (62))] h (F_X7_layFits_34 k9 w1 w2 w3 s0 s1 h) := by
  intro w1 w2 w3 s0 s1 h
  rw [F_X7_layFits_34]
  refine V_chk rfl fun c1 => ?_
  refine V_iast hO (by decide) (fun _ _ _ => ce_62) (inb_in c1) dX7_layFits_34 (V_name fun h2 => ?_)
  refine V_iinc hO (ls2 := [(3, .int (w3 + 1)), (0, .ref (α (55))), (1, .int w1), (2, .int w2)]) (z := 1) 3 dX7_layFits_35 rfl (by decide) (by decide) rfl ?_
  refine V_goto hO 9 dX7_layFits_38 (by decide) ?_
  exact V_sub [1, 2, 3, 0] rfl (hk9 w1 w2 (w3 + 1) h2 )
set_option maxHeartbeats 4000000 in
set_option maxRecDepth 100000 in
theorem T_X7_layFits_147 {G : Gm} {α : Nat → Nat} (hO : Ok G α cX7_layFits 7 RX7 1 23) (hR : Rt G α none) (k51 : Int32 → Int32 → Int32 → Hp → (Option Hp)) (hk51 : ∀ (w2 : Int32) (w3 : Int32) (w4 : Int32) (h : Hp), V G α 7 (kSV) 51 [(0, .ref (α (55))), (2, .int w2), (3, .int w3), (4, .int w4)] [] h (k51 w2 w3 w4 h)) : ∀ (w2 : Int32) (w3 : Int32) (w4 : Int32) (h : Hp), V G α 7 (kSV) 147 [(0, .ref (α (55))), (2, .int w2), (3, .int w3), (4, .int w4)] [] h (F_X7_layFits_147 k51 w2 w3 w4 h) := by
  intro w2 w3 w4 h
  rw [F_X7_layFits_147]
  refine V_iinc hO (ls2 := [(4, .int (w4 + 1)), (0, .ref (α (55))), (2, .int w2), (3, .int w3)]) (z := 1) 3 dX7_layFits_147 rfl (by decide) (by decide) rfl ?_
  refine V_goto hO 51 dX7_layFits_150 (by decide) ?_
  exact V_sub [1, 2, 3, 0] rfl (hk51 w2 w3 (w4 + 1) h )
set_option maxHeartbeats 4000000 in
set_option maxRecDepth 100000 in
theorem T_X7_layFits_134 {G : Gm} {α : Nat → Nat} (hO : Ok G α cX7_layFits 7 RX7 1 23) (hR : Rt G α none) (k61 : Int32 → Int32 → Int32 → Int32 → Hp → (Option Hp)) (hk61 : ∀ (w2 : Int32) (w3 : Int32) (w4 : Int32) (w5 : Int32) (h : Hp), V G α 7 (kSV) 61 [(0, .ref (α (55))), (2, .int w2), (3, .int w3), (4, .int w4), (5, .int w5)] [] h (k61 w2 w3 w4 w5 h)) : ∀ (w2 : Int32) (w3 : Int32) (w4 : Int32) (w5 : Int32) (s0 : Int32) (s1 : Int32) (h : Hp), V G α 7 (kSV) 134 [(0, .ref (α (55))), (2, .int w2), (3, .int w3), (4, .int w4), (5, .int w5)] [.int s0, .int s1, .ref (α (62))] h (F_X7_layFits_134 k61 w2 w3 w4 w5 s0 s1 h) := by
  intro w2 w3 w4 w5 s0 s1 h
  rw [F_X7_layFits_134]
  refine V_chk rfl fun c3 => ?_
  refine V_iast hO (by decide) (fun _ _ _ => ce_62) (inb_in c3) dX7_layFits_134 (V_name fun h4 => ?_)
  refine V_iload hO 4 dX7_layFits_135 rfl ?_
  refine V_iconst hO 1 dX7_layFits_137 (by decide) ?_
  refine V_isub hO dX7_layFits_138 ?_
  refine V_iload hO 3 dX7_layFits_139 rfl ?_
  refine V_iand hO dX7_layFits_141 ?_
  refine V_istoreN hO (ls2 := fun v5 => [(5, .int v5), (0, .ref (α (55))), (2, .int w2), (3, .int w3), (4, .int w4)]) dX7_layFits_142 (by decide) (fun _ => rfl) (fun v5 => ?_)
  refine V_goto hO 61 dX7_layFits_144 (by decide) ?_
  exact V_sub [1, 2, 3, 4, 0] rfl (hk61 w2 w3 w4 v5 h4 )
set_option maxHeartbeats 4000000 in
set_option maxRecDepth 100000 in
theorem T_X7_layFits_110 {G : Gm} {α : Nat → Nat} (hO : Ok G α cX7_layFits 7 RX7 1 23) (hR : Rt G α none) (k61 : Int32 → Int32 → Int32 → Int32 → Hp → (Option Hp)) (hk61 : ∀ (w2 : Int32) (w3 : Int32) (w4 : Int32) (w5 : Int32) (h : Hp), V G α 7 (kSV) 61 [(0, .ref (α (55))), (2, .int w2), (3, .int w3), (4, .int w4), (5, .int w5)] [] h (k61 w2 w3 w4 w5 h)) : ∀ (w2 : Int32) (w3 : Int32) (w4 : Int32) (w5 : Int32) (s0 : Bool) (h : Hp), V G α 7 (kSV) 110 [(0, .ref (α (55))), (2, .int w2), (3, .int w3), (4, .int w4), (5, .int w5)] [.int (b2i s0)] h (F_X7_layFits_110 k61 w2 w3 w4 w5 s0 h) := by
  intro w2 w3 w4 w5 s0 h
  rw [F_X7_layFits_110]
  refine V_istore hO (ls2 := [(6, .int (b2i s0)), (0, .ref (α (55))), (2, .int w2), (3, .int w3), (4, .int w4), (5, .int w5)]) dX7_layFits_110 (by decide) rfl ?_
  refine V_aload_n hO 1 dX7_layFits_112 rfl rfl ?_
  refine V_get hO (v := .ref (α (62))) fl_X7_28 (by decide) (fun _ _ => ce_55) rfl dX7_layFits_113 ?_
  refine V_iload hO 4 dX7_layFits_116 rfl ?_
  refine V_iload hO 0 dX7_layFits_118 rfl ?_
  refine V_ifeqZ hO 127 dX7_layFits_120 (by decide) ?_ ?_
  · refine V_aload_n hO 1 dX7_layFits_127 rfl rfl ?_
    refine V_get hO (v := .ref (α (62))) fl_X7_28 (by decide) (fun _ _ => ce_55) rfl dX7_layFits_128 ?_
    refine V_iload hO 4 dX7_layFits_131 rfl ?_
    refine V_chk rfl fun c6 => ?_
    refine V_iald hO (by decide) (fun _ _ => ce_62) (inb_in c6) dX7_layFits_133 ?_
    exact V_sub [1, 2, 3, 4, 5] rfl (T_X7_layFits_134 hO hR k61 hk61 w2 w3 w4 w5 (h.1 62 (Int32.toNatClampNeg w4)) w4 h )
  · refine V_iload_n hO 3 dX7_layFits_123 rfl rfl ?_
    refine V_goto hO 134 dX7_layFits_124 (by decide) ?_
    exact V_sub [1, 2, 3, 4, 5] rfl (T_X7_layFits_134 hO hR k61 hk61 w2 w3 w4 w5 w3 w4 h )
set_option maxHeartbeats 4000000 in
set_option maxRecDepth 100000 in
theorem T_X7_layFits_61 {G : Gm} {α : Nat → Nat} (hO : Ok G α cX7_layFits 7 RX7 1 23) (hR : Rt G α none) (k51 : Int32 → Int32 → Int32 → Hp → (Option Hp)) (hk51 : ∀ (w2 : Int32) (w3 : Int32) (w4 : Int32) (h : Hp), V G α 7 (kSV) 51 [(0, .ref (α (55))), (2, .int w2), (3, .int w3), (4, .int w4)] [] h (k51 w2 w3 w4 h)) : ∀ (fuel : Nat) (w2 : Int32) (w3 : Int32) (w4 : Int32) (w5 : Int32) (h : Hp), V G α 7 (kSV) 61 [(0, .ref (α (55))), (2, .int w2), (3, .int w3), (4, .int w4), (5, .int w5)] [] h (F_X7_layFits_61 k51 fuel w2 w3 w4 w5 h) := by
  intro fuel
  induction fuel with
  | zero => intro w2 w3 w4 w5 h; exact V_none rfl
  | succ n ih =>
    intro w2 w3 w4 w5 h
    rw [F_X7_layFits_61]
    refine V_iload hO 4 dX7_layFits_61 rfl ?_
    refine V_if_le hO 147 dX7_layFits_63 (by decide) ?_ ?_
    · exact V_sub [0, 1, 2, 3] rfl (T_X7_layFits_147 hO hR k51 hk51 w2 w3 w4 h )
    · refine V_aload_n hO 0 dX7_layFits_66 rfl rfl ?_
      refine V_get hO (v := .ref (α (62))) fl_X7_28 (by decide) (fun _ _ => ce_55) rfl dX7_layFits_67 ?_
      refine V_iload hO 3 dX7_layFits_70 rfl ?_
      refine V_chk rfl fun c7 => ?_
      refine V_iald hO (by decide) (fun _ _ => ce_62) (inb_in c7) dX7_layFits_72 ?_
      refine V_bipush hO 9 dX7_layFits_73 (by decide) ?_
      refine V_icmp_ne hO 147 dX7_layFits_75 (by decide) ?_ ?_
      · exact V_sub [0, 1, 2, 3] rfl (T_X7_layFits_147 hO hR k51 hk51 w2 w3 w4 h )
      · refine V_aload_n hO 0 dX7_layFits_78 rfl rfl ?_
        refine V_get hO (v := .ref (α (62))) fl_X7_28 (by decide) (fun _ _ => ce_55) rfl dX7_layFits_79 ?_
        refine V_iload hO 4 dX7_layFits_82 rfl ?_
        refine V_chk rfl fun c8 => ?_
        refine V_iald hO (by decide) (fun _ _ => ce_62) (inb_in c8) dX7_layFits_84 ?_
        refine V_iconst hO 1 dX7_layFits_85 (by decide) ?_
        refine V_icmp_ne hO 109 dX7_layFits_86 (by decide) ?_ ?_
        · refine V_iconst hO 0 dX7_layFits_109 (by decide) ?_
          exact V_sub [0, 1, 2, 3, 4] rfl (T_X7_layFits_110 hO hR (F_X7_layFits_61 k51 n) ih w2 w3 w4 w5 false h )
        · refine V_aload_n hO 0 dX7_layFits_89 rfl rfl ?_
          refine V_get hO (v := .ref (α (62))) fl_X7_28 (by decide) (fun _ _ => ce_55) rfl dX7_layFits_90 ?_
          refine V_iload hO 3 dX7_layFits_93 rfl ?_
          refine V_iload hO 4 dX7_layFits_95 rfl ?_
          refine V_isub hO dX7_layFits_97 ?_
          refine V_chk rfl fun c9 => ?_
          refine V_iald hO (by decide) (fun _ _ => ce_62) (inb_in c9) dX7_layFits_98 ?_
          refine V_iload_n hO 2 dX7_layFits_99 rfl rfl ?_
          refine V_iconst hO 1 dX7_layFits_100 (by decide) ?_
          refine V_isub hO dX7_layFits_101 ?_
          refine V_icmp_ne hO 109 dX7_layFits_102 (by decide) ?_ ?_
          · refine V_iconst hO 0 dX7_layFits_109 (by decide) ?_
            exact V_sub [0, 1, 2, 3, 4] rfl (T_X7_layFits_110 hO hR (F_X7_layFits_61 k51 n) ih w2 w3 w4 w5 false h )
          · refine V_iconst hO 1 dX7_layFits_105 (by decide) ?_
            refine V_goto hO 110 dX7_layFits_106 (by decide) ?_
            exact V_sub [0, 1, 2, 3, 4] rfl (T_X7_layFits_110 hO hR (F_X7_layFits_61 k51 n) ih w2 w3 w4 w5 true h )
set_option maxHeartbeats 4000000 in
set_option maxRecDepth 100000 in
theorem T_X7_layFits_51 {G : Gm} {α : Nat → Nat} (hO : Ok G α cX7_layFits 7 RX7 1 23) (hR : Rt G α none) (k43 : Int32 → Int32 → Hp → (Option Hp)) (hk43 : ∀ (w2 : Int32) (w3 : Int32) (h : Hp), V G α 7 (kSV) 43 [(0, .ref (α (55))), (2, .int w2), (3, .int w3)] [] h (k43 w2 w3 h)) : ∀ (fuel : Nat) (w2 : Int32) (w3 : Int32) (w4 : Int32) (h : Hp), V G α 7 (kSV) 51 [(0, .ref (α (55))), (2, .int w2), (3, .int w3), (4, .int w4)] [] h (F_X7_layFits_51 k43 fuel w2 w3 w4 h) := by
  intro fuel
  induction fuel with
  | zero => intro w2 w3 w4 h; exact V_none rfl
  | succ n ih =>
    intro w2 w3 w4 h
    rw [F_X7_layFits_51]
    refine V_iload hO 3 dX7_layFits_51 rfl ?_
    refine V_iload_n hO 1 dX7_layFits_53 rfl rfl ?_
    refine V_icmp_ge hO 153 dX7_layFits_54 (by decide) ?_ ?_
    · refine V_iinc hO (ls2 := [(3, .int (w3 + 1)), (0, .ref (α (55))), (2, .int w2), (4, .int w4)]) (z := 1) 2 dX7_layFits_153 rfl (by decide) (by decide) rfl ?_
      refine V_goto hO 43 dX7_layFits_156 (by decide) ?_
      exact V_sub [1, 2, 0] rfl (hk43 w2 (w3 + 1) h )
    · refine V_iload hO 3 dX7_layFits_57 rfl ?_
      refine V_istore hO (ls2 := [(5, .int w4), (0, .ref (α (55))), (2, .int w2), (3, .int w3), (4, .int w4)]) dX7_layFits_59 (by decide) rfl ?_
      exact V_sub [1, 2, 3, 4, 0] rfl (T_X7_layFits_61 hO hR (F_X7_layFits_51 k43 n) ih fuel w2 w3 w4 w4 h )
set_option maxHeartbeats 4000000 in
set_option maxRecDepth 100000 in
theorem T_X7_layFits_43 {G : Gm} {α : Nat → Nat} (hO : Ok G α cX7_layFits 7 RX7 1 23) (hR : Rt G α none) : ∀ (fuel : Nat) (w2 : Int32) (w3 : Int32) (h : Hp), V G α 7 (kSV) 43 [(0, .ref (α (55))), (2, .int w2), (3, .int w3)] [] h (F_X7_layFits_43 fuel w2 w3 h) := by
  intro fuel
  induction fuel with
  | zero => intro w2 w3 h; exact V_none rfl
  | succ n ih =>
    intro w2 w3 h
    rw [F_X7_layFits_43]
    refine V_iload_n hO 2 dX7_layFits_43 rfl rfl ?_
    refine V_iconst hO 4 dX7_layFits_44 (by decide) ?_
    refine V_icmp_ge hO 159 dX7_layFits_45 (by decide) ?_ ?_
    · exact V_vret hO hR rfl dX7_layFits_159
    · refine V_iconst hO 0 dX7_layFits_48 (by decide) ?_
      refine V_istore hO (ls2 := [(4, .int 0), (0, .ref (α (55))), (2, .int w2), (3, .int w3)]) dX7_layFits_49 (by decide) rfl ?_
      exact V_sub [1, 2, 3, 0] rfl (T_X7_layFits_51 hO hR (F_X7_layFits_43 n) ih fuel w2 w3 (0 : Int32) h )
set_option maxHeartbeats 4000000 in
set_option maxRecDepth 100000 in
theorem T_X7_layFits_9 {G : Gm} {α : Nat → Nat} (hO : Ok G α cX7_layFits 7 RX7 1 23) (hR : Rt G α none) : ∀ (fuel : Nat) (w1 : Int32) (w2 : Int32) (w3 : Int32) (h : Hp), V G α 7 (kSV) 9 [(0, .ref (α (55))), (1, .int w1), (2, .int w2), (3, .int w3)] [] h (F_X7_layFits_9 fuel w1 w2 w3 h) := by
  intro fuel
  induction fuel with
  | zero => intro w1 w2 w3 h; exact V_none rfl
  | succ n ih =>
    intro w1 w2 w3 h
    rw [F_X7_layFits_9]
    refine V_iload_n hO 3 dX7_layFits_9 rfl rfl ?_
    refine V_iload_n hO 2 dX7_layFits_10 rfl rfl ?_
    refine V_icmp_ge hO 41 dX7_layFits_11 (by decide) ?_ ?_
    · refine V_iconst hO 2 dX7_layFits_41 (by decide) ?_
      refine V_istore_n hO (ls2 := [(3, .int 2), (0, .ref (α (55))), (1, .int w1), (2, .int w2)]) dX7_layFits_42 rfl (by decide) rfl ?_
      exact V_sub [1, 3, 0] rfl (T_X7_layFits_43 hO hR fuel w2 (2 : Int32) h )
    · refine V_aload_n hO 0 dX7_layFits_14 rfl rfl ?_
      refine V_get hO (v := .ref (α (62))) fl_X7_28 (by decide) (fun _ _ => ce_55) rfl dX7_layFits_15 ?_
      refine V_iload_n hO 3 dX7_layFits_18 rfl rfl ?_
      refine V_aload_n hO 0 dX7_layFits_19 rfl rfl ?_
      refine V_iload_n hO 3 dX7_layFits_20 rfl rfl ?_
      refine V_callV hO ml_X7_192 (C_X7_weightOf α w3 h) (by decide) (fun _ _ => ce_55) rfl rfl (rest := [.int w3, .ref (α (62))]) rfl rfl (Nat.le_of_ble_eq_true rfl) ⟨Nat.le_of_ble_eq_true rfl, Nat.le_of_ble_eq_true rfl⟩ dX7_layFits_21 (kc_OI rfl fun v10 => ?_)
      refine V_iload_n hO 1 dX7_layFits_24 rfl rfl ?_
      refine V_icmp_gt hO 32 dX7_layFits_25 (by decide) ?_ ?_
      · refine V_bipush hO 9 dX7_layFits_32 (by decide) ?_
        exact V_sub [0, 1, 2, 3] rfl (T_X7_layFits_34 hO hR (F_X7_layFits_9 n) ih w1 w2 w3 (9 : Int32) w3 h )
      · refine V_iconst hO 1 dX7_layFits_28 (by decide) ?_
        refine V_goto hO 34 dX7_layFits_29 (by decide) ?_
        exact V_sub [0, 1, 2, 3] rfl (T_X7_layFits_34 hO hR (F_X7_layFits_9 n) ih w1 w2 w3 (1 : Int32) w3 h )
set_option maxHeartbeats 4000000 in
set_option maxRecDepth 100000 in
theorem T_X7_layFits {G : Gm} {α : Nat → Nat} (hO : Ok G α cX7_layFits 7 RX7 1 23) (hR : Rt G α none) (p1 : Int32) (σ : Hp) : V G α 7 (kSV) 0 [(0, .ref (α (55))), (1, .int p1)] [] σ (F_X7_layFits p1 σ) := by
  rw [F_X7_layFits]
  refine V_iconst hO 1 dX7_layFits_0 (by decide) ?_
  refine V_aload_n hO 0 dX7_layFits_1 rfl rfl ?_
  refine V_get hO (v := .int (σ.1 55 6)) fl_X7_79 (by decide) (fun _ _ => ce_55) rfl dX7_layFits_2 ?_
  refine V_ishl hO dX7_layFits_5 ?_
  refine V_istore_nN hO (ls2 := fun v11 => [(2, .int v11), (0, .ref (α (55))), (1, .int p1)]) dX7_layFits_6 rfl (by decide) (fun _ => rfl) (fun v11 => ?_)
  refine V_iconst hO 0 dX7_layFits_7 (by decide) ?_
  refine V_istore_n hO (ls2 := [(3, .int 0), (2, .int v11), (0, .ref (α (55))), (1, .int p1)]) dX7_layFits_8 rfl (by decide) rfl ?_
  exact V_sub [2, 3, 1, 0] rfl (T_X7_layFits_9 hO hR fuel p1 v11 (0 : Int32) σ )
set_option maxHeartbeats 4000000 in
set_option maxRecDepth 100000 in
theorem C_X7_layFits (α : Nat → Nat) (p1 : Int32) (σ : Hp) : Ct yX7_layFits cX7_layFits 7 none 1 23 α [.ref (α (55)), .int p1] σ (kSV (F_X7_layFits p1 σ)) := ct_of_V (own := RX7) rfl (by decide +kernel) (Nat.le_of_ble_eq_true rfl) fun _ hO hR => T_X7_layFits hO hR p1 σ
/-! X7_sledges -/
noncomputable def F_X7_sledges_178 (k108 : Int32 → Int32 → Int32 → Int32 → Int32 → Int32 → Bool → Int32 → Hp → (Option (Int32 × Hp))) (w1 : Int32) (w3 : Int32) (w4 : Int32) (w5 : Int32) (w6 : Int32) (w8 : Bool) (w9 : Int32) (s0 : Int32) (s1 : Int32) (h : Hp) : Option (Int32 × Hp) :=
  lt (s1 + s0) fun v1 =>
  k108 w1 w3 w4 w5 w6 v1 w8 (w9 + 1) h
noncomputable def F_X7_sledges_159 (k108 : Int32 → Int32 → Int32 → Int32 → Int32 → Int32 → Bool → Int32 → Hp → (Option (Int32 × Hp))) (w1 : Int32) (w3 : Int32) (w4 : Int32) (w5 : Int32) (w6 : Int32) (w7 : Int32) (w9 : Int32) (w10 : Bool) (s0 : Bool) (h : Hp) : Option (Int32 × Hp) :=
  if w10 = true then
  (F_X7_worthOf w9 h).bind fun v2 =>
  F_X7_sledges_178 k108 w1 w3 w4 w5 w6 s0 w9 v2 w7 h
  else
  F_X7_sledges_178 k108 w1 w3 w4 w5 w6 s0 w9 (0 : Int32) w7 h
noncomputable def F_X7_sledges_133 (k108 : Int32 → Int32 → Int32 → Int32 → Int32 → Int32 → Bool → Int32 → Hp → (Option (Int32 × Hp))) (w1 : Int32) (w3 : Int32) (w4 : Int32) (w5 : Int32) (w6 : Int32) (w7 : Int32) (w8 : Bool) (w9 : Int32) (s0 : Bool) (h : Hp) : Option (Int32 × Hp) :=
  if w8 = true then
  if s0 = true then
  (F_X7_isThere w9 h).bind fun v3 =>
  if v3 = true then
  F_X7_sledges_159 k108 w1 w3 w4 w5 w6 w7 w9 s0 true h
  else
  F_X7_sledges_159 k108 w1 w3 w4 w5 w6 w7 w9 s0 false h
  else
  F_X7_sledges_159 k108 w1 w3 w4 w5 w6 w7 w9 s0 true h
  else
  F_X7_sledges_159 k108 w1 w3 w4 w5 w6 w7 w9 s0 false h
noncomputable def F_X7_sledges_227 (k73 : Int32 → Int32 → Int32 → Int32 → Int32 → Hp → (Option (Int32 × Hp))) (w1 : Int32) (w3 : Int32) (w4 : Int32) (w5 : Int32) (w6 : Int32) (h : Hp) : Option (Int32 × Hp) :=
  k73 w1 w3 w4 w5 (w6 + 1) h
noncomputable def F_X7_sledges_219 (k73 : Int32 → Int32 → Int32 → Int32 → Int32 → Hp → (Option (Int32 × Hp))) (w1 : Int32) (w3 : Int32) (w6 : Int32) (w7 : Int32) (h : Hp) : Option (Int32 × Hp) :=
  F_X7_sledges_227 k73 w1 w3 w6 w7 w6 h
noncomputable def F_X7_sledges_108 (k73 : Int32 → Int32 → Int32 → Int32 → Int32 → Hp → (Option (Int32 × Hp))) : Nat → Int32 → Int32 → Int32 → Int32 → Int32 → Int32 → Bool → Int32 → Hp → Option (Int32 × Hp)
  | 0, _, _, _, _, _, _, _, _, _ => none
  | n + 1, w1, w3, w4, w5, w6, w7, w8, w9, h =>
    if (h.1 55 6) ≤ w9 then
    if w8 = true then
    if w5 < w7 then
    F_X7_sledges_219 k73 w1 w3 w6 w7 h
    else
    if w7 = w5 then
    (F_X7_ones w6 h).bind fun v4 =>
    (F_X7_ones w4 h).bind fun v5 =>
    if v5 ≤ v4 then
    F_X7_sledges_227 k73 w1 w3 w4 w5 w6 h
    else
    F_X7_sledges_219 k73 w1 w3 w6 w7 h
    else
    F_X7_sledges_227 k73 w1 w3 w4 w5 w6 h
    else
    F_X7_sledges_227 k73 w1 w3 w4 w5 w6 h
    else
    if ((w6 >>> (w9 &&& 31)) &&& (1 : Int32)) = (1 : Int32) then
    F_X7_sledges_133 (F_X7_sledges_108 k73 n) w1 w3 w4 w5 w6 w7 w8 w9 true h
    else
    F_X7_sledges_133 (F_X7_sledges_108 k73 n) w1 w3 w4 w5 w6 w7 w8 w9 false h
noncomputable def F_X7_sledges_103 (k73 : Int32 → Int32 → Int32 → Int32 → Int32 → Hp → (Option (Int32 × Hp))) (w1 : Int32) (w3 : Int32) (w4 : Int32) (w5 : Int32) (w6 : Int32) (w7 : Bool) (s0 : Bool) (h : Hp) : Option (Int32 × Hp) :=
  F_X7_sledges_108 k73 fuel w1 w3 w4 w5 w6 (b2i w7) s0 (0 : Int32) h
noncomputable def F_X7_sledges_73  : Nat → Int32 → Int32 → Int32 → Int32 → Int32 → Hp → Option (Int32 × Hp)
  | 0, _, _, _, _, _, _ => none
  | n + 1, w1, w3, w4, w5, w6, h =>
    if ((1 : Int32) <<< ((h.1 55 6) &&& 31)) ≤ w6 then
    if w3 = 0 then
    some (w5, h)
    else
    some (w4, h)
    else
    if inb w6 1024 = true then
    if w1 < (h.1 62 (Int32.toNatClampNeg w6)) then
    F_X7_sledges_103 (F_X7_sledges_73 n) w1 w3 w4 w5 w6 false false h
    else
    F_X7_sledges_103 (F_X7_sledges_73 n) w1 w3 w4 w5 w6 false true h
    else none
noncomputable def F_X7_sledges  (p1 : Int32) (p2 : Int32) (p3 : Int32) (σ : Hp) : Option (Int32 × Hp) :=
  if (F_X7_in (Int32.toInt64 p1) (1 : Int64) (3 : Int64) σ) = true then
  if (F_X7_in (Int32.toInt64 p2) (1 : Int64) (200 : Int64) σ) = true then
  if (F_X7_in (Int32.toInt64 p3) (0 : Int64) (1 : Int64) σ) = true then
  if (σ.1 55 14) = (20 : Int32) then
  some (((-103) : Int32), σ)
  else
  lt (up σ 55 14 ((σ.1 55 14) + (1 : Int32))) fun h7 =>
  (F_X7_layFits p2 h7).bind fun q8 =>
  F_X7_sledges_73 fuel p1 p3 (0 : Int32) (0 : Int32) (1 : Int32) q8
  else
  some (((-102) : Int32), σ)
  else
  some (((-102) : Int32), σ)
  else
  some (((-102) : Int32), σ)
set_option maxHeartbeats 4000000 in
set_option maxRecDepth 100000 in
theorem T_X7_sledges_178 {G : Gm} {α : Nat → Nat} (hO : Ok G α cX7_sledges 11 RX7 2 49) (hR : Rt G α (some .int)) (k108 : Int32 → Int32 → Int32 → Int32 → Int32 → Int32 → Bool → Int32 → Hp → (Option (Int32 × Hp))) (hk108 : ∀ (w1 : Int32) (w3 : Int32) (w4 : Int32) (w5 : Int32) (w6 : Int32) (w7 : Int32) (w8 : Bool) (w9 : Int32) (h : Hp), V G α 11 (kSI) 108 [(0, .ref (α (55))), (1, .int w1), (3, .int w3), (4, .int w4), (5, .int w5), (6, .int w6), (7, .int w7), (8, .int (b2i w8)), (9, .int w9)] [] h (k108 w1 w3 w4 w5 w6 w7 w8 w9 h)) : ∀ (w1 : Int32) (w3 : Int32) (w4 : Int32) (w5 : Int32) (w6 : Int32) (w8 : Bool) (w9 : Int32) (s0 : Int32) (s1 : Int32) (h : Hp), V G α 11 (kSI) 178 [(0, .ref (α (55))), (1, .int w1), (3, .int w3), (4, .int w4), (5, .int w5), (6, .int w6), (8, .int (b2i w8)), (9, .int w9)] [.int s0, .int s1] h (F_X7_sledges_178 k108 w1 w3 w4 w5 w6 w8 w9 s0 s1 h) := by
  intro w1 w3 w4 w5 w6 w8 w9 s0 s1 h
  rw [F_X7_sledges_178]
  refine V_iadd hO dX7_sledges_178 ?_
  refine V_istoreN hO (ls2 := fun v1 => [(7, .int v1), (0, .ref (α (55))), (1, .int w1), (3, .int w3), (4, .int w4), (5, .int w5), (6, .int w6), (8, .int (b2i w8)), (9, .int w9)]) dX7_sledges_179 (by decide) (fun _ => rfl) (fun v1 => ?_)
  refine V_iinc hO (ls2 := [(9, .int (w9 + 1)), (7, .int v1), (0, .ref (α (55))), (1, .int w1), (3, .int w3), (4, .int w4), (5, .int w5), (6, .int w6), (8, .int (b2i w8))]) (z := 1) 8 dX7_sledges_181 rfl (by decide) (by decide) rfl ?_
  refine V_goto hO 108 dX7_sledges_184 (by decide) ?_
  exact V_sub [2, 3, 4, 5, 6, 7, 1, 8, 0] rfl (hk108 w1 w3 w4 w5 w6 v1 w8 (w9 + 1) h )
set_option maxHeartbeats 4000000 in
set_option maxRecDepth 100000 in
theorem T_X7_sledges_159 {G : Gm} {α : Nat → Nat} (hO : Ok G α cX7_sledges 11 RX7 2 49) (hR : Rt G α (some .int)) (k108 : Int32 → Int32 → Int32 → Int32 → Int32 → Int32 → Bool → Int32 → Hp → (Option (Int32 × Hp))) (hk108 : ∀ (w1 : Int32) (w3 : Int32) (w4 : Int32) (w5 : Int32) (w6 : Int32) (w7 : Int32) (w8 : Bool) (w9 : Int32) (h : Hp), V G α 11 (kSI) 108 [(0, .ref (α (55))), (1, .int w1), (3, .int w3), (4, .int w4), (5, .int w5), (6, .int w6), (7, .int w7), (8, .int (b2i w8)), (9, .int w9)] [] h (k108 w1 w3 w4 w5 w6 w7 w8 w9 h)) : ∀ (w1 : Int32) (w3 : Int32) (w4 : Int32) (w5 : Int32) (w6 : Int32) (w7 : Int32) (w9 : Int32) (w10 : Bool) (s0 : Bool) (h : Hp), V G α 11 (kSI) 159 [(0, .ref (α (55))), (1, .int w1), (3, .int w3), (4, .int w4), (5, .int w5), (6, .int w6), (7, .int w7), (9, .int w9), (10, .int (b2i w10))] [.int (b2i s0)] h (F_X7_sledges_159 k108 w1 w3 w4 w5 w6 w7 w9 w10 s0 h) := by
  intro w1 w3 w4 w5 w6 w7 w9 w10 s0 h
  rw [F_X7_sledges_159]
  refine V_istore hO (ls2 := [(8, .int (b2i s0)), (0, .ref (α (55))), (1, .int w1), (3, .int w3), (4, .int w4), (5, .int w5), (6, .int w6), (7, .int w7), (9, .int w9), (10, .int (b2i w10))]) dX7_sledges_159 (by decide) rfl ?_
  refine V_iload hO 7 dX7_sledges_161 rfl ?_
  refine V_iload hO 9 dX7_sledges_163 rfl ?_
  refine V_ifeqZ hO 177 dX7_sledges_165 (by decide) ?_ ?_
  · refine V_iconst hO 0 dX7_sledges_177 (by decide) ?_
    exact V_sub [1, 2, 3, 4, 5, 6, 0, 8] rfl (T_X7_sledges_178 hO hR k108 hk108 w1 w3 w4 w5 w6 s0 w9 (0 : Int32) w7 h )
  · refine V_aload_n hO 1 dX7_sledges_168 rfl rfl ?_
    refine V_iload hO 8 dX7_sledges_169 rfl ?_
    refine V_callV hO ml_X7_123 (C_X7_worthOf α w9 h) (by decide) (fun _ _ => ce_55) rfl rfl (rest := [.int w7]) rfl rfl (Nat.le_of_ble_eq_true rfl) ⟨Nat.le_of_ble_eq_true rfl, Nat.le_of_ble_eq_true rfl⟩ dX7_sledges_171 (kc_OI rfl fun v2 => ?_)
    refine V_goto hO 178 dX7_sledges_174 (by decide) ?_
    exact V_sub [1, 2, 3, 4, 5, 6, 0, 8] rfl (T_X7_sledges_178 hO hR k108 hk108 w1 w3 w4 w5 w6 s0 w9 v2 w7 h )
set_option maxHeartbeats 4000000 in
set_option maxRecDepth 100000 in
theorem T_X7_sledges_133 {G : Gm} {α : Nat → Nat} (hO : Ok G α cX7_sledges 11 RX7 2 49) (hR : Rt G α (some .int)) (k108 : Int32 → Int32 → Int32 → Int32 → Int32 → Int32 → Bool → Int32 → Hp → (Option (Int32 × Hp))) (hk108 : ∀ (w1 : Int32) (w3 : Int32) (w4 : Int32) (w5 : Int32) (w6 : Int32) (w7 : Int32) (w8 : Bool) (w9 : Int32) (h : Hp), V G α 11 (kSI) 108 [(0, .ref (α (55))), (1, .int w1), (3, .int w3), (4, .int w4), (5, .int w5), (6, .int w6), (7, .int w7), (8, .int (b2i w8)), (9, .int w9)] [] h (k108 w1 w3 w4 w5 w6 w7 w8 w9 h)) : ∀ (w1 : Int32) (w3 : Int32) (w4 : Int32) (w5 : Int32) (w6 : Int32) (w7 : Int32) (w8 : Bool) (w9 : Int32) (s0 : Bool) (h : Hp), V G α 11 (kSI) 133 [(0, .ref (α (55))), (1, .int w1), (3, .int w3), (4, .int w4), (5, .int w5), (6, .int w6), (7, .int w7), (8, .int (b2i w8)), (9, .int w9)] [.int (b2i s0)] h (F_X7_sledges_133 k108 w1 w3 w4 w5 w6 w7 w8 w9 s0 h) := by
  intro w1 w3 w4 w5 w6 w7 w8 w9 s0 h
  rw [F_X7_sledges_133]
  refine V_istore hO (ls2 := [(10, .int (b2i s0)), (0, .ref (α (55))), (1, .int w1), (3, .int w3), (4, .int w4), (5, .int w5), (6, .int w6), (7, .int w7), (8, .int (b2i w8)), (9, .int w9)]) dX7_sledges_133 (by decide) rfl ?_
  refine V_iload hO 8 dX7_sledges_135 rfl ?_
  refine V_ifeqZ hO 158 dX7_sledges_137 (by decide) ?_ ?_
  · refine V_iconst hO 0 dX7_sledges_158 (by decide) ?_
    exact V_sub [1, 2, 3, 4, 5, 6, 7, 9, 0] rfl (T_X7_sledges_159 hO hR k108 hk108 w1 w3 w4 w5 w6 w7 w9 s0 false h )
  · refine V_iload hO 0 dX7_sledges_140 rfl ?_
    refine V_ifeqZ hO 154 dX7_sledges_142 (by decide) ?_ ?_
    · refine V_iconst hO 1 dX7_sledges_154 (by decide) ?_
      refine V_goto hO 159 dX7_sledges_155 (by decide) ?_
      exact V_sub [1, 2, 3, 4, 5, 6, 7, 9, 0] rfl (T_X7_sledges_159 hO hR k108 hk108 w1 w3 w4 w5 w6 w7 w9 s0 true h )
    · refine V_aload_n hO 1 dX7_sledges_145 rfl rfl ?_
      refine V_iload hO 9 dX7_sledges_146 rfl ?_
      refine V_callV hO ml_X7_94 (C_X7_isThere α w9 h) (by decide) (fun _ _ => ce_55) rfl rfl (rest := []) rfl rfl (Nat.le_of_ble_eq_true rfl) ⟨Nat.le_of_ble_eq_true rfl, Nat.le_of_ble_eq_true rfl⟩ dX7_sledges_148 (kc_OZ rfl fun v3 => ?_)
      refine V_ifeqZ hO 158 dX7_sledges_151 (by decide) ?_ ?_
      · refine V_iconst hO 0 dX7_sledges_158 (by decide) ?_
        exact V_sub [1, 2, 3, 4, 5, 6, 7, 9, 0] rfl (T_X7_sledges_159 hO hR k108 hk108 w1 w3 w4 w5 w6 w7 w9 s0 false h )
      · refine V_iconst hO 1 dX7_sledges_154 (by decide) ?_
        refine V_goto hO 159 dX7_sledges_155 (by decide) ?_
        exact V_sub [1, 2, 3, 4, 5, 6, 7, 9, 0] rfl (T_X7_sledges_159 hO hR k108 hk108 w1 w3 w4 w5 w6 w7 w9 s0 true h )
set_option maxHeartbeats 4000000 in
set_option maxRecDepth 100000 in
theorem T_X7_sledges_227 {G : Gm} {α : Nat → Nat} (hO : Ok G α cX7_sledges 11 RX7 2 49) (hR : Rt G α (some .int)) (k73 : Int32 → Int32 → Int32 → Int32 → Int32 → Hp → (Option (Int32 × Hp))) (hk73 : ∀ (w1 : Int32) (w3 : Int32) (w4 : Int32) (w5 : Int32) (w6 : Int32) (h : Hp), V G α 11 (kSI) 73 [(0, .ref (α (55))), (1, .int w1), (3, .int w3), (4, .int w4), (5, .int w5), (6, .int w6)] [] h (k73 w1 w3 w4 w5 w6 h)) : ∀ (w1 : Int32) (w3 : Int32) (w4 : Int32) (w5 : Int32) (w6 : Int32) (h : Hp), V G α 11 (kSI) 227 [(0, .ref (α (55))), (1, .int w1), (3, .int w3), (4, .int w4), (5, .int w5), (6, .int w6)] [] h (F_X7_sledges_227 k73 w1 w3 w4 w5 w6 h) := by
  intro w1 w3 w4 w5 w6 h
  rw [F_X7_sledges_227]
  refine V_iinc hO (ls2 := [(6, .int (w6 + 1)), (0, .ref (α (55))), (1, .int w1), (3, .int w3), (4, .int w4), (5, .int w5)]) (z := 1) 5 dX7_sledges_227 rfl (by decide) (by decide) rfl ?_
  refine V_goto hO 73 dX7_sledges_230 (by decide) ?_
  exact V_sub [1, 2, 3, 4, 5, 0] rfl (hk73 w1 w3 w4 w5 (w6 + 1) h )
set_option maxHeartbeats 4000000 in
set_option maxRecDepth 100000 in
theorem T_X7_sledges_219 {G : Gm} {α : Nat → Nat} (hO : Ok G α cX7_sledges 11 RX7 2 49) (hR : Rt G α (some .int)) (k73 : Int32 → Int32 → Int32 → Int32 → Int32 → Hp → (Option (Int32 × Hp))) (hk73 : ∀ (w1 : Int32) (w3 : Int32) (w4 : Int32) (w5 : Int32) (w6 : Int32) (h : Hp), V G α 11 (kSI) 73 [(0, .ref (α (55))), (1, .int w1), (3, .int w3), (4, .int w4), (5, .int w5), (6, .int w6)] [] h (k73 w1 w3 w4 w5 w6 h)) : ∀ (w1 : Int32) (w3 : Int32) (w6 : Int32) (w7 : Int32) (h : Hp), V G α 11 (kSI) 219 [(0, .ref (α (55))), (1, .int w1), (3, .int w3), (6, .int w6), (7, .int w7)] [] h (F_X7_sledges_219 k73 w1 w3 w6 w7 h) := by
  intro w1 w3 w6 w7 h
  rw [F_X7_sledges_219]
  refine V_iload hO 3 dX7_sledges_219 rfl ?_
  refine V_istore hO (ls2 := [(4, .int w6), (0, .ref (α (55))), (1, .int w1), (3, .int w3), (6, .int w6), (7, .int w7)]) dX7_sledges_221 (by decide) rfl ?_
  refine V_iload hO 5 dX7_sledges_223 rfl ?_
  refine V_istore hO (ls2 := [(5, .int w7), (4, .int w6), (0, .ref (α (55))), (1, .int w1), (3, .int w3), (6, .int w6), (7, .int w7)]) dX7_sledges_225 (by decide) rfl ?_
  exact V_sub [2, 3, 4, 1, 0, 5] rfl (T_X7_sledges_227 hO hR k73 hk73 w1 w3 w6 w7 w6 h )
set_option maxHeartbeats 4000000 in
set_option maxRecDepth 100000 in
theorem T_X7_sledges_108 {G : Gm} {α : Nat → Nat} (hO : Ok G α cX7_sledges 11 RX7 2 49) (hR : Rt G α (some .int)) (k73 : Int32 → Int32 → Int32 → Int32 → Int32 → Hp → (Option (Int32 × Hp))) (hk73 : ∀ (w1 : Int32) (w3 : Int32) (w4 : Int32) (w5 : Int32) (w6 : Int32) (h : Hp), V G α 11 (kSI) 73 [(0, .ref (α (55))), (1, .int w1), (3, .int w3), (4, .int w4), (5, .int w5), (6, .int w6)] [] h (k73 w1 w3 w4 w5 w6 h)) : ∀ (fuel : Nat) (w1 : Int32) (w3 : Int32) (w4 : Int32) (w5 : Int32) (w6 : Int32) (w7 : Int32) (w8 : Bool) (w9 : Int32) (h : Hp), V G α 11 (kSI) 108 [(0, .ref (α (55))), (1, .int w1), (3, .int w3), (4, .int w4), (5, .int w5), (6, .int w6), (7, .int w7), (8, .int (b2i w8)), (9, .int w9)] [] h (F_X7_sledges_108 k73 fuel w1 w3 w4 w5 w6 w7 w8 w9 h) := by
  intro fuel
  induction fuel with
  | zero => intro w1 w3 w4 w5 w6 w7 w8 w9 h; exact V_none rfl
  | succ n ih =>
    intro w1 w3 w4 w5 w6 w7 w8 w9 h
    rw [F_X7_sledges_108]
    refine V_iload hO 8 dX7_sledges_108 rfl ?_
    refine V_aload_n hO 0 dX7_sledges_110 rfl rfl ?_
    refine V_get hO (v := .int (h.1 55 6)) fl_X7_79 (by decide) (fun _ _ => ce_55) rfl dX7_sledges_111 ?_
    refine V_icmp_ge hO 187 dX7_sledges_114 (by decide) ?_ ?_
    · refine V_iload hO 7 dX7_sledges_187 rfl ?_
      refine V_ifeqZ hO 227 dX7_sledges_189 (by decide) ?_ ?_
      · exact V_sub [0, 1, 2, 3, 4, 5] rfl (T_X7_sledges_227 hO hR k73 hk73 w1 w3 w4 w5 w6 h )
      · refine V_iload hO 6 dX7_sledges_192 rfl ?_
        refine V_iload hO 4 dX7_sledges_194 rfl ?_
        refine V_icmp_gt hO 219 dX7_sledges_196 (by decide) ?_ ?_
        · exact V_sub [0, 1, 2, 5, 6] rfl (T_X7_sledges_219 hO hR k73 hk73 w1 w3 w6 w7 h )
        · refine V_iload hO 6 dX7_sledges_199 rfl ?_
          refine V_iload hO 4 dX7_sledges_201 rfl ?_
          refine V_icmp_ne hO 227 dX7_sledges_203 (by decide) ?_ ?_
          · exact V_sub [0, 1, 2, 3, 4, 5] rfl (T_X7_sledges_227 hO hR k73 hk73 w1 w3 w4 w5 w6 h )
          · refine V_iload hO 5 dX7_sledges_206 rfl ?_
            refine V_callS hO ml_X7_205 (C_X7_ones α w6 h) (rest := []) rfl rfl (Nat.le_of_ble_eq_true rfl) ⟨Nat.le_of_ble_eq_true rfl, Nat.le_of_ble_eq_true rfl⟩ dX7_sledges_208 (kc_OI rfl fun v4 => ?_)
            refine V_iload hO 3 dX7_sledges_211 rfl ?_
            refine V_callS hO ml_X7_205 (C_X7_ones α w4 h) (rest := [.int v4]) rfl rfl (Nat.le_of_ble_eq_true rfl) ⟨Nat.le_of_ble_eq_true rfl, Nat.le_of_ble_eq_true rfl⟩ dX7_sledges_213 (kc_OI rfl fun v5 => ?_)
            refine V_icmp_ge hO 227 dX7_sledges_216 (by decide) ?_ ?_
            · exact V_sub [0, 1, 2, 3, 4, 5] rfl (T_X7_sledges_227 hO hR k73 hk73 w1 w3 w4 w5 w6 h )
            · exact V_sub [0, 1, 2, 5, 6] rfl (T_X7_sledges_219 hO hR k73 hk73 w1 w3 w6 w7 h )
    · refine V_iload hO 5 dX7_sledges_117 rfl ?_
      refine V_iload hO 8 dX7_sledges_119 rfl ?_
      refine V_ishr hO dX7_sledges_121 ?_
      refine V_iconst hO 1 dX7_sledges_122 (by decide) ?_
      refine V_iand hO dX7_sledges_123 ?_
      refine V_iconst hO 1 dX7_sledges_124 (by decide) ?_
      refine V_icmp_ne hO 132 dX7_sledges_125 (by decide) ?_ ?_
      · refine V_iconst hO 0 dX7_sledges_132 (by decide) ?_
        exact V_sub [0, 1, 2, 3, 4, 5, 6, 7, 8] rfl (T_X7_sledges_133 hO hR (F_X7_sledges_108 k73 n) ih w1 w3 w4 w5 w6 w7 w8 w9 false h )
      · refine V_iconst hO 1 dX7_sledges_128 (by decide) ?_
        refine V_goto hO 133 dX7_sledges_129 (by decide) ?_
        exact V_sub [0, 1, 2, 3, 4, 5, 6, 7, 8] rfl (T_X7_sledges_133 hO hR (F_X7_sledges_108 k73 n) ih w1 w3 w4 w5 w6 w7 w8 w9 true h )
set_option maxHeartbeats 4000000 in
set_option maxRecDepth 100000 in
theorem T_X7_sledges_103 {G : Gm} {α : Nat → Nat} (hO : Ok G α cX7_sledges 11 RX7 2 49) (hR : Rt G α (some .int)) (k73 : Int32 → Int32 → Int32 → Int32 → Int32 → Hp → (Option (Int32 × Hp))) (hk73 : ∀ (w1 : Int32) (w3 : Int32) (w4 : Int32) (w5 : Int32) (w6 : Int32) (h : Hp), V G α 11 (kSI) 73 [(0, .ref (α (55))), (1, .int w1), (3, .int w3), (4, .int w4), (5, .int w5), (6, .int w6)] [] h (k73 w1 w3 w4 w5 w6 h)) : ∀ (w1 : Int32) (w3 : Int32) (w4 : Int32) (w5 : Int32) (w6 : Int32) (w7 : Bool) (s0 : Bool) (h : Hp), V G α 11 (kSI) 103 [(0, .ref (α (55))), (1, .int w1), (3, .int w3), (4, .int w4), (5, .int w5), (6, .int w6), (7, .int (b2i w7))] [.int (b2i s0)] h (F_X7_sledges_103 k73 w1 w3 w4 w5 w6 w7 s0 h) := by
  intro w1 w3 w4 w5 w6 w7 s0 h
  rw [F_X7_sledges_103]
  refine V_istore hO (ls2 := [(8, .int (b2i s0)), (0, .ref (α (55))), (1, .int w1), (3, .int w3), (4, .int w4), (5, .int w5), (6, .int w6), (7, .int (b2i w7))]) dX7_sledges_103 (by decide) rfl ?_
  refine V_iconst hO 0 dX7_sledges_105 (by decide) ?_
  refine V_istore hO (ls2 := [(9, .int 0), (8, .int (b2i s0)), (0, .ref (α (55))), (1, .int w1), (3, .int w3), (4, .int w4), (5, .int w5), (6, .int w6), (7, .int (b2i w7))]) dX7_sledges_106 (by decide) rfl ?_
  exact V_sub [2, 3, 4, 5, 6, 7, 8, 1, 0] rfl (T_X7_sledges_108 hO hR k73 hk73 fuel w1 w3 w4 w5 w6 (b2i w7) s0 (0 : Int32) h )
set_option maxHeartbeats 4000000 in
set_option maxRecDepth 100000 in
theorem T_X7_sledges_73 {G : Gm} {α : Nat → Nat} (hO : Ok G α cX7_sledges 11 RX7 2 49) (hR : Rt G α (some .int)) : ∀ (fuel : Nat) (w1 : Int32) (w3 : Int32) (w4 : Int32) (w5 : Int32) (w6 : Int32) (h : Hp), V G α 11 (kSI) 73 [(0, .ref (α (55))), (1, .int w1), (3, .int w3), (4, .int w4), (5, .int w5), (6, .int w6)] [] h (F_X7_sledges_73 fuel w1 w3 w4 w5 w6 h) := by
  intro fuel
  induction fuel with
  | zero => intro w1 w3 w4 w5 w6 h; exact V_none rfl
  | succ n ih =>
    intro w1 w3 w4 w5 w6 h
    rw [F_X7_sledges_73]
    refine V_iload hO 5 dX7_sledges_73 rfl ?_
    refine V_iconst hO 1 dX7_sledges_75 (by decide) ?_
    refine V_aload_n hO 0 dX7_sledges_76 rfl rfl ?_
    refine V_get hO (v := .int (h.1 55 6)) fl_X7_79 (by decide) (fun _ _ => ce_55) rfl dX7_sledges_77 ?_
    refine V_ishl hO dX7_sledges_80 ?_
    refine V_icmp_ge hO 233 dX7_sledges_81 (by decide) ?_ ?_
    · refine V_iload_n hO 2 dX7_sledges_233 rfl rfl ?_
      refine V_if_ne hO 242 dX7_sledges_234 (by decide) ?_ ?_
      · refine V_iload hO 3 dX7_sledges_242 rfl ?_
        exact V_iret hO hR rfl dX7_sledges_244
      · refine V_iload hO 4 dX7_sledges_237 rfl ?_
        refine V_goto hO 244 dX7_sledges_239 (by decide) ?_
        exact V_iret hO hR rfl dX7_sledges_244
    · refine V_iconst hO 0 dX7_sledges_84 (by decide) ?_
      refine V_istore hO (ls2 := [(7, .int 0), (0, .ref (α (55))), (1, .int w1), (3, .int w3), (4, .int w4), (5, .int w5), (6, .int w6)]) dX7_sledges_85 (by decide) rfl ?_
      refine V_aload_n hO 1 dX7_sledges_87 rfl rfl ?_
      refine V_get hO (v := .ref (α (62))) fl_X7_28 (by decide) (fun _ _ => ce_55) rfl dX7_sledges_88 ?_
      refine V_iload hO 6 dX7_sledges_91 rfl ?_
      refine V_chk rfl fun c6 => ?_
      refine V_iald hO (by decide) (fun _ _ => ce_62) (inb_in c6) dX7_sledges_93 ?_
      refine V_iload_n hO 2 dX7_sledges_94 rfl rfl ?_
      refine V_icmp_gt hO 102 dX7_sledges_95 (by decide) ?_ ?_
      · refine V_iconst hO 0 dX7_sledges_102 (by decide) ?_
        exact V_sub [1, 2, 3, 4, 5, 6, 0] rfl (T_X7_sledges_103 hO hR (F_X7_sledges_73 n) ih w1 w3 w4 w5 w6 false false h )
      · refine V_iconst hO 1 dX7_sledges_98 (by decide) ?_
        refine V_goto hO 103 dX7_sledges_99 (by decide) ?_
        exact V_sub [1, 2, 3, 4, 5, 6, 0] rfl (T_X7_sledges_103 hO hR (F_X7_sledges_73 n) ih w1 w3 w4 w5 w6 false true h )
set_option maxHeartbeats 4000000 in
set_option maxRecDepth 100000 in
theorem T_X7_sledges {G : Gm} {α : Nat → Nat} (hO : Ok G α cX7_sledges 11 RX7 2 49) (hR : Rt G α (some .int)) (p1 : Int32) (p2 : Int32) (p3 : Int32) (σ : Hp) : V G α 11 (kSI) 0 [(0, .ref (α (55))), (1, .int p1), (2, .int p2), (3, .int p3)] [] σ (F_X7_sledges p1 p2 p3 σ) := by
  rw [F_X7_sledges]
  refine V_iload_n hO 1 dX7_sledges_0 rfl rfl ?_
  refine V_i2l hO dX7_sledges_1 ?_
  refine V_lconst hO 1 dX7_sledges_2 (by decide) ?_
  refine V_ldc2 hO (v := 3) dX7_sledges_3 cn_X7_195 ?_
  refine V_callS hO ml_X7_75 (C_X7_in α (Int32.toInt64 p1) (1 : Int64) (3 : Int64) σ) (rest := []) rfl rfl (Nat.le_of_ble_eq_true rfl) ⟨Nat.le_of_ble_eq_true rfl, Nat.le_of_ble_eq_true rfl⟩ dX7_sledges_6 (kc_Z ?_)
  refine V_ifeqZ hO 34 dX7_sledges_9 (by decide) ?_ ?_
  · refine V_bipush hO (-102) dX7_sledges_34 (by decide) ?_
    exact V_iret hO hR rfl dX7_sledges_36
  · refine V_iload_n hO 2 dX7_sledges_12 rfl rfl ?_
    refine V_i2l hO dX7_sledges_13 ?_
    refine V_lconst hO 1 dX7_sledges_14 (by decide) ?_
    refine V_ldc2 hO (v := 200) dX7_sledges_15 cn_X7_197 ?_
    refine V_callS hO ml_X7_75 (C_X7_in α (Int32.toInt64 p2) (1 : Int64) (200 : Int64) σ) (rest := []) rfl rfl (Nat.le_of_ble_eq_true rfl) ⟨Nat.le_of_ble_eq_true rfl, Nat.le_of_ble_eq_true rfl⟩ dX7_sledges_18 (kc_Z ?_)
    refine V_ifeqZ hO 34 dX7_sledges_21 (by decide) ?_ ?_
    · refine V_bipush hO (-102) dX7_sledges_34 (by decide) ?_
      exact V_iret hO hR rfl dX7_sledges_36
    · refine V_iload_n hO 3 dX7_sledges_24 rfl rfl ?_
      refine V_i2l hO dX7_sledges_25 ?_
      refine V_lconst hO 0 dX7_sledges_26 (by decide) ?_
      refine V_lconst hO 1 dX7_sledges_27 (by decide) ?_
      refine V_callS hO ml_X7_75 (C_X7_in α (Int32.toInt64 p3) (0 : Int64) (1 : Int64) σ) (rest := []) rfl rfl (Nat.le_of_ble_eq_true rfl) ⟨Nat.le_of_ble_eq_true rfl, Nat.le_of_ble_eq_true rfl⟩ dX7_sledges_28 (kc_Z ?_)
      refine V_ifneZ hO 37 dX7_sledges_31 (by decide) ?_ ?_
      · refine V_aload_n hO 0 dX7_sledges_37 rfl rfl ?_
        refine V_get hO (v := .int (σ.1 55 14)) fl_X7_199 (by decide) (fun _ _ => ce_55) rfl dX7_sledges_38 ?_
        refine V_bipush hO 20 dX7_sledges_41 (by decide) ?_
        refine V_icmp_ne hO 49 dX7_sledges_43 (by decide) ?_ ?_
        · refine V_aload_n hO 0 dX7_sledges_49 rfl rfl ?_
          refine V_dup hO dX7_sledges_50 rfl ?_
          refine V_get hO (v := .int (σ.1 55 14)) fl_X7_199 (by decide) (fun _ _ => ce_55) rfl dX7_sledges_51 ?_
          refine V_iconst hO 1 dX7_sledges_54 (by decide) ?_
          refine V_iadd hO dX7_sledges_55 ?_
          refine V_puti hO fp_X7_199 (by decide) (fun _ _ => ce_55) (Nat.le_of_ble_eq_true rfl) (fun _ _ => pe_55_14) dX7_sledges_56 (V_name fun h7 => ?_)
          refine V_aload_n hO 0 dX7_sledges_59 rfl rfl ?_
          refine V_iload_n hO 2 dX7_sledges_60 rfl rfl ?_
          refine V_callV hO ml_X7_202 (C_X7_layFits α p2 h7) (by decide) (fun _ _ => ce_55) rfl rfl (rest := []) rfl rfl (Nat.le_of_ble_eq_true rfl) ⟨Nat.le_of_ble_eq_true rfl, Nat.le_of_ble_eq_true rfl⟩ dX7_sledges_61 (kc_SV rfl fun q8 => ?_)
          refine V_iconst hO 0 dX7_sledges_64 (by decide) ?_
          refine V_istore hO (ls2 := [(4, .int 0), (0, .ref (α (55))), (1, .int p1), (2, .int p2), (3, .int p3)]) dX7_sledges_65 (by decide) rfl ?_
          refine V_iconst hO 0 dX7_sledges_67 (by decide) ?_
          refine V_istore hO (ls2 := [(5, .int 0), (4, .int 0), (0, .ref (α (55))), (1, .int p1), (2, .int p2), (3, .int p3)]) dX7_sledges_68 (by decide) rfl ?_
          refine V_iconst hO 1 dX7_sledges_70 (by decide) ?_
          refine V_istore hO (ls2 := [(6, .int 1), (5, .int 0), (4, .int 0), (0, .ref (α (55))), (1, .int p1), (2, .int p2), (3, .int p3)]) dX7_sledges_71 (by decide) rfl ?_
          exact V_sub [3, 4, 6, 2, 1, 0] rfl (T_X7_sledges_73 hO hR fuel p1 p3 (0 : Int32) (0 : Int32) (1 : Int32) q8 )
        · refine V_bipush hO (-103) dX7_sledges_46 (by decide) ?_
          exact V_iret hO hR rfl dX7_sledges_48
      · refine V_bipush hO (-102) dX7_sledges_34 (by decide) ?_
        exact V_iret hO hR rfl dX7_sledges_36
set_option maxHeartbeats 4000000 in
set_option maxRecDepth 100000 in
theorem C_X7_sledges (α : Nat → Nat) (p1 : Int32) (p2 : Int32) (p3 : Int32) (σ : Hp) : Ct yX7_sledges cX7_sledges 11 (some .int) 2 49 α [.ref (α (55)), .int p1, .int p2, .int p3] σ (kSI (F_X7_sledges p1 p2 p3 σ)) := ct_of_V (own := RX7) rfl (by decide +kernel) (Nat.le_of_ble_eq_true rfl) fun _ hO hR => T_X7_sledges hO hR p1 p2 p3 σ
