/-! X7_in -/
noncomputable def F_X7_in  (p1 : Int64) (p2 : Int64) (p3 : Int64) (σ : Hp) : Bool :=
  if p1 < p2 then
  false
  else
  if p3 < p1 then
  false
  else
  true
set_option maxHeartbeats 4000000 in
set_option maxRecDepth 100000 in
theorem T_X7_in {G : Gm} {α : Nat → Nat} (hO : Ok G α cX7_in 6 RX7 0 0) (hR : Rt G α (some .boolean)) (p1 : Int64) (p2 : Int64) (p3 : Int64) (σ : Hp) : V G α 6 (kZ σ) 0 [(0, .long p1), (2, .long p2), (4, .long p3)] [] σ (F_X7_in p1 p2 p3 σ) := by
  rw [F_X7_in]
  refine V_lload_n hO 0 dX7_in_0 rfl rfl ?_
  refine V_lload_n hO 1 dX7_in_1 rfl rfl ?_
  refine V_lcmp_lt hO 17 dX7_in_2 dX7_in_3 (by decide) ?_ ?_
  · refine V_iconst hO 0 dX7_in_17 (by decide) ?_
    exact V_zret hO hR (by decide) rfl dX7_in_18
  · refine V_lload_n hO 0 dX7_in_6 rfl rfl ?_
    refine V_lload hO 2 dX7_in_7 rfl ?_
    refine V_lcmp_gt hO 17 dX7_in_9 dX7_in_10 (by decide) ?_ ?_
    · refine V_iconst hO 0 dX7_in_17 (by decide) ?_
      exact V_zret hO hR (by decide) rfl dX7_in_18
    · refine V_iconst hO 1 dX7_in_13 (by decide) ?_
      refine V_goto hO 18 dX7_in_14 (by decide) ?_
      exact V_zret hO hR (by decide) rfl dX7_in_18
set_option maxHeartbeats 4000000 in
set_option maxRecDepth 100000 in
theorem C_X7_in (α : Nat → Nat) (p1 : Int64) (p2 : Int64) (p3 : Int64) (σ : Hp) : Ct yX7_in cX7_in 6 (some .boolean) 0 0 α [.long p1, .long p2, .long p3] σ (kZ σ (F_X7_in p1 p2 p3 σ)) := ct_of_V (own := RX7) rfl (by decide +kernel) (Nat.le_of_ble_eq_true rfl) fun _ hO hR => T_X7_in hO hR p1 p2 p3 σ
/-! X7_squares -/
noncomputable def F_X7_squares  (σ : Hp) : Int32 :=
  ((σ.1 55 0) * (σ.1 55 1))
set_option maxHeartbeats 4000000 in
set_option maxRecDepth 100000 in
theorem T_X7_squares {G : Gm} {α : Nat → Nat} (hO : Ok G α cX7_squares 1 RX7 0 0) (hR : Rt G α (some .int)) (σ : Hp) : V G α 1 (kI σ) 0 [(0, .ref (α (55)))] [] σ (F_X7_squares σ) := by
  rw [F_X7_squares]
  refine V_aload_n hO 0 dX7_squares_0 rfl rfl ?_
  refine V_get hO (v := .int (σ.1 55 0)) fl_X7_65 (by decide) (fun _ _ => ce_55) rfl dX7_squares_1 ?_
  refine V_aload_n hO 0 dX7_squares_4 rfl rfl ?_
  refine V_get hO (v := .int (σ.1 55 1)) fl_X7_68 (by decide) (fun _ _ => ce_55) rfl dX7_squares_5 ?_
  refine V_imul hO dX7_squares_8 ?_
  exact V_iret hO hR rfl dX7_squares_9
set_option maxHeartbeats 4000000 in
set_option maxRecDepth 100000 in
theorem C_X7_squares (α : Nat → Nat) (σ : Hp) : Ct yX7_squares cX7_squares 1 (some .int) 0 0 α [.ref (α (55))] σ (kI σ (F_X7_squares σ)) := ct_of_V (own := RX7) rfl (by decide +kernel) (Nat.le_of_ble_eq_true rfl) fun _ hO hR => T_X7_squares hO hR σ
/-! X7_isSquare -/
noncomputable def F_X7_isSquare  (p1 : Int32) (σ : Hp) : Bool :=
  (F_X7_in (Int32.toInt64 p1) (0 : Int64) (Int32.toInt64 ((F_X7_squares σ) - (1 : Int32))) σ)
set_option maxHeartbeats 4000000 in
set_option maxRecDepth 100000 in
theorem T_X7_isSquare {G : Gm} {α : Nat → Nat} (hO : Ok G α cX7_isSquare 2 RX7 1 25) (hR : Rt G α (some .boolean)) (p1 : Int32) (σ : Hp) : V G α 2 (kZ σ) 0 [(0, .ref (α (55))), (1, .int p1)] [] σ (F_X7_isSquare p1 σ) := by
  rw [F_X7_isSquare]
  refine V_iload_n hO 1 dX7_isSquare_0 rfl rfl ?_
  refine V_i2l hO dX7_isSquare_1 ?_
  refine V_lconst hO 0 dX7_isSquare_2 (by decide) ?_
  refine V_aload_n hO 0 dX7_isSquare_3 rfl rfl ?_
  refine V_callV hO ml_X7_71 (C_X7_squares α σ) (by decide) (fun _ _ => ce_55) rfl rfl (rest := [.long 0, .long (Int32.toInt64 p1)]) rfl rfl (Nat.le_of_ble_eq_true rfl) ⟨Nat.le_of_ble_eq_true rfl, Nat.le_of_ble_eq_true rfl⟩ dX7_isSquare_4 (kc_I ?_)
  refine V_iconst hO 1 dX7_isSquare_7 (by decide) ?_
  refine V_isub hO dX7_isSquare_8 ?_
  refine V_i2l hO dX7_isSquare_9 ?_
  refine V_callS hO ml_X7_75 (C_X7_in α (Int32.toInt64 p1) (0 : Int64) (Int32.toInt64 ((F_X7_squares σ) - (1 : Int32))) σ) (rest := []) rfl rfl (Nat.le_of_ble_eq_true rfl) ⟨Nat.le_of_ble_eq_true rfl, Nat.le_of_ble_eq_true rfl⟩ dX7_isSquare_10 (kc_Z ?_)
  exact V_zret hO hR (b2i_01 _) rfl dX7_isSquare_13
set_option maxHeartbeats 4000000 in
set_option maxRecDepth 100000 in
theorem C_X7_isSquare (α : Nat → Nat) (p1 : Int32) (σ : Hp) : Ct yX7_isSquare cX7_isSquare 2 (some .boolean) 1 25 α [.ref (α (55)), .int p1] σ (kZ σ (F_X7_isSquare p1 σ)) := ct_of_V (own := RX7) rfl (by decide +kernel) (Nat.le_of_ble_eq_true rfl) fun _ hO hR => T_X7_isSquare hO hR p1 σ
/-! X7_isDebt -/
noncomputable def F_X7_isDebt  (p1 : Int32) (σ : Hp) : Bool :=
  (F_X7_in (Int32.toInt64 p1) (0 : Int64) (Int32.toInt64 ((σ.1 55 6) - (1 : Int32))) σ)
set_option maxHeartbeats 4000000 in
set_option maxRecDepth 100000 in
theorem T_X7_isDebt {G : Gm} {α : Nat → Nat} (hO : Ok G α cX7_isDebt 2 RX7 1 25) (hR : Rt G α (some .boolean)) (p1 : Int32) (σ : Hp) : V G α 2 (kZ σ) 0 [(0, .ref (α (55))), (1, .int p1)] [] σ (F_X7_isDebt p1 σ) := by
  rw [F_X7_isDebt]
  refine V_iload_n hO 1 dX7_isDebt_0 rfl rfl ?_
  refine V_i2l hO dX7_isDebt_1 ?_
  refine V_lconst hO 0 dX7_isDebt_2 (by decide) ?_
  refine V_aload_n hO 0 dX7_isDebt_3 rfl rfl ?_
  refine V_get hO (v := .int (σ.1 55 6)) fl_X7_79 (by decide) (fun _ _ => ce_55) rfl dX7_isDebt_4 ?_
  refine V_iconst hO 1 dX7_isDebt_7 (by decide) ?_
  refine V_isub hO dX7_isDebt_8 ?_
  refine V_i2l hO dX7_isDebt_9 ?_
  refine V_callS hO ml_X7_75 (C_X7_in α (Int32.toInt64 p1) (0 : Int64) (Int32.toInt64 ((σ.1 55 6) - (1 : Int32))) σ) (rest := []) rfl rfl (Nat.le_of_ble_eq_true rfl) ⟨Nat.le_of_ble_eq_true rfl, Nat.le_of_ble_eq_true rfl⟩ dX7_isDebt_10 (kc_Z ?_)
  exact V_zret hO hR (b2i_01 _) rfl dX7_isDebt_13
set_option maxHeartbeats 4000000 in
set_option maxRecDepth 100000 in
theorem C_X7_isDebt (α : Nat → Nat) (p1 : Int32) (σ : Hp) : Ct yX7_isDebt cX7_isDebt 2 (some .boolean) 1 25 α [.ref (α (55)), .int p1] σ (kZ σ (F_X7_isDebt p1 σ)) := ct_of_V (own := RX7) rfl (by decide +kernel) (Nat.le_of_ble_eq_true rfl) fun _ hO hR => T_X7_isDebt hO hR p1 σ
/-! X7_isPerson -/
noncomputable def F_X7_isPerson  (p1 : Int32) (σ : Hp) : Bool :=
  (F_X7_in (Int32.toInt64 p1) (0 : Int64) (5 : Int64) σ)
set_option maxHeartbeats 4000000 in
set_option maxRecDepth 100000 in
theorem T_X7_isPerson {G : Gm} {α : Nat → Nat} (hO : Ok G α cX7_isPerson 1 RX7 1 25) (hR : Rt G α (some .boolean)) (p1 : Int32) (σ : Hp) : V G α 1 (kZ σ) 0 [(0, .int p1)] [] σ (F_X7_isPerson p1 σ) := by
  rw [F_X7_isPerson]
  refine V_iload_n hO 0 dX7_isPerson_0 rfl rfl ?_
  refine V_i2l hO dX7_isPerson_1 ?_
  refine V_lconst hO 0 dX7_isPerson_2 (by decide) ?_
  refine V_ldc2 hO (v := 5) dX7_isPerson_3 cn_X7_82 ?_
  refine V_callS hO ml_X7_75 (C_X7_in α (Int32.toInt64 p1) (0 : Int64) (5 : Int64) σ) (rest := []) rfl rfl (Nat.le_of_ble_eq_true rfl) ⟨Nat.le_of_ble_eq_true rfl, Nat.le_of_ble_eq_true rfl⟩ dX7_isPerson_6 (kc_Z ?_)
  exact V_zret hO hR (b2i_01 _) rfl dX7_isPerson_9
set_option maxHeartbeats 4000000 in
set_option maxRecDepth 100000 in
theorem C_X7_isPerson (α : Nat → Nat) (p1 : Int32) (σ : Hp) : Ct yX7_isPerson cX7_isPerson 1 (some .boolean) 1 25 α [.int p1] σ (kZ σ (F_X7_isPerson p1 σ)) := ct_of_V (own := RX7) rfl (by decide +kernel) (Nat.le_of_ble_eq_true rfl) fun _ hO hR => T_X7_isPerson hO hR p1 σ
/-! X7_lake -/
noncomputable def F_X7_lake_43  : Nat → Int32 → Hp → Option (Int32 × Hp)
  | 0, _, _ => none
  | n + 1, w3, h =>
    if (16 : Int32) ≤ w3 then
    lt (up h 55 6 (0 : Int32)) fun h1 =>
    lt (up h1 55 5 (0 : Int32)) fun h2 =>
    lt (up h2 55 2 ((h2.1 55 2) + (1 : Int32))) fun h3 =>
    some ((F_X7_squares h3), h3)
    else
    if inb w3 16 = true then
    lt (up h 56 (Int32.toNatClampNeg w3) (10 : Int32)) fun h5 =>
    if inb w3 16 = true then
    lt (up h5 57 (Int32.toNatClampNeg w3) (0 : Int32)) fun h7 =>
    F_X7_lake_43 n (w3 + 1) h7
    else none
    else none
noncomputable def F_X7_lake  (p1 : Int32) (p2 : Int32) (σ : Hp) : Option (Int32 × Hp) :=
  if (F_X7_in (Int32.toInt64 p1) (2 : Int64) (4 : Int64) σ) = true then
  if (F_X7_in (Int32.toInt64 p2) (2 : Int64) (4 : Int64) σ) = true then
  lt (up σ 55 0 p1) fun h8 =>
  lt (up h8 55 1 p2) fun h9 =>
  F_X7_lake_43 fuel (0 : Int32) h9
  else
  some (((-102) : Int32), σ)
  else
  some (((-102) : Int32), σ)
set_option maxHeartbeats 4000000 in
set_option maxRecDepth 100000 in
theorem T_X7_lake_43 {G : Gm} {α : Nat → Nat} (hO : Ok G α cX7_lake 4 RX7 1 25) (hR : Rt G α (some .int)) : ∀ (fuel : Nat) (w3 : Int32) (h : Hp), V G α 4 (kSI) 43 [(0, .ref (α (55))), (3, .int w3)] [] h (F_X7_lake_43 fuel w3 h) := by
  intro fuel
  induction fuel with
  | zero => intro w3 h; exact V_none rfl
  | succ n ih =>
    intro w3 h
    rw [F_X7_lake_43]
    refine V_iload_n hO 1 dX7_lake_43 rfl rfl ?_
    refine V_bipush hO 16 dX7_lake_44 (by decide) ?_
    refine V_icmp_ge hO 70 dX7_lake_46 (by decide) ?_ ?_
    · refine V_aload_n hO 0 dX7_lake_70 rfl rfl ?_
      refine V_iconst hO 0 dX7_lake_71 (by decide) ?_
      refine V_puti hO fp_X7_79 (by decide) (fun _ _ => ce_55) (Nat.le_of_ble_eq_true rfl) (fun _ _ => pe_55_6) dX7_lake_72 (V_name fun h1 => ?_)
      refine V_aload_n hO 0 dX7_lake_75 rfl rfl ?_
      refine V_iconst hO 0 dX7_lake_76 (by decide) ?_
      refine V_puti hO fp_X7_88 (by decide) (fun _ _ => ce_55) (Nat.le_of_ble_eq_true rfl) (fun _ _ => pe_55_5) dX7_lake_77 (V_name fun h2 => ?_)
      refine V_aload_n hO 0 dX7_lake_80 rfl rfl ?_
      refine V_dup hO dX7_lake_81 rfl ?_
      refine V_get hO (v := .int (h2.1 55 2)) fl_X7_91 (by decide) (fun _ _ => ce_55) rfl dX7_lake_82 ?_
      refine V_iconst hO 1 dX7_lake_85 (by decide) ?_
      refine V_iadd hO dX7_lake_86 ?_
      refine V_puti hO fp_X7_91 (by decide) (fun _ _ => ce_55) (Nat.le_of_ble_eq_true rfl) (fun _ _ => pe_55_2) dX7_lake_87 (V_name fun h3 => ?_)
      refine V_aload_n hO 0 dX7_lake_90 rfl rfl ?_
      refine V_callV hO ml_X7_71 (C_X7_squares α h3) (by decide) (fun _ _ => ce_55) rfl rfl (rest := []) rfl rfl (Nat.le_of_ble_eq_true rfl) ⟨Nat.le_of_ble_eq_true rfl, Nat.le_of_ble_eq_true rfl⟩ dX7_lake_91 (kc_I ?_)
      exact V_iret hO hR rfl dX7_lake_94
    · refine V_aload_n hO 0 dX7_lake_49 rfl rfl ?_
      refine V_get hO (v := .ref (α (56))) fl_X7_7 (by decide) (fun _ _ => ce_55) rfl dX7_lake_50 ?_
      refine V_iload_n hO 1 dX7_lake_53 rfl rfl ?_
      refine V_bipush hO 10 dX7_lake_54 (by decide) ?_
      refine V_chk rfl fun c4 => ?_
      refine V_iast hO (by decide) (fun _ _ _ => ce_56) (inb_in c4) dX7_lake_56 (V_name fun h5 => ?_)
      refine V_aload_n hO 0 dX7_lake_57 rfl rfl ?_
      refine V_get hO (v := .ref (α (57))) fl_X7_13 (by decide) (fun _ _ => ce_55) rfl dX7_lake_58 ?_
      refine V_iload_n hO 1 dX7_lake_61 rfl rfl ?_
      refine V_iconst hO 0 dX7_lake_62 (by decide) ?_
      refine V_chk rfl fun c6 => ?_
      refine V_iast hO (by decide) (fun _ _ _ => ce_57) (inb_in c6) dX7_lake_63 (V_name fun h7 => ?_)
      refine V_iinc hO (ls2 := [(3, .int (w3 + 1)), (0, .ref (α (55)))]) (z := 1) 1 dX7_lake_64 rfl (by decide) (by decide) rfl ?_
      refine V_goto hO 43 dX7_lake_67 (by decide) ?_
      exact V_sub [1, 0] rfl (ih (w3 + 1) h7 )
set_option maxHeartbeats 4000000 in
set_option maxRecDepth 100000 in
theorem T_X7_lake {G : Gm} {α : Nat → Nat} (hO : Ok G α cX7_lake 4 RX7 1 25) (hR : Rt G α (some .int)) (p1 : Int32) (p2 : Int32) (σ : Hp) : V G α 4 (kSI) 0 [(0, .ref (α (55))), (1, .int p1), (2, .int p2)] [] σ (F_X7_lake p1 p2 σ) := by
  rw [F_X7_lake]
  refine V_iload_n hO 1 dX7_lake_0 rfl rfl ?_
  refine V_i2l hO dX7_lake_1 ?_
  refine V_ldc2 hO (v := 2) dX7_lake_2 cn_X7_84 ?_
  refine V_ldc2 hO (v := 4) dX7_lake_5 cn_X7_86 ?_
  refine V_callS hO ml_X7_75 (C_X7_in α (Int32.toInt64 p1) (2 : Int64) (4 : Int64) σ) (rest := []) rfl rfl (Nat.le_of_ble_eq_true rfl) ⟨Nat.le_of_ble_eq_true rfl, Nat.le_of_ble_eq_true rfl⟩ dX7_lake_8 (kc_Z ?_)
  refine V_ifeqZ hO 28 dX7_lake_11 (by decide) ?_ ?_
  · refine V_bipush hO (-102) dX7_lake_28 (by decide) ?_
    exact V_iret hO hR rfl dX7_lake_30
  · refine V_iload_n hO 2 dX7_lake_14 rfl rfl ?_
    refine V_i2l hO dX7_lake_15 ?_
    refine V_ldc2 hO (v := 2) dX7_lake_16 cn_X7_84 ?_
    refine V_ldc2 hO (v := 4) dX7_lake_19 cn_X7_86 ?_
    refine V_callS hO ml_X7_75 (C_X7_in α (Int32.toInt64 p2) (2 : Int64) (4 : Int64) σ) (rest := []) rfl rfl (Nat.le_of_ble_eq_true rfl) ⟨Nat.le_of_ble_eq_true rfl, Nat.le_of_ble_eq_true rfl⟩ dX7_lake_22 (kc_Z ?_)
    refine V_ifneZ hO 31 dX7_lake_25 (by decide) ?_ ?_
    · refine V_aload_n hO 0 dX7_lake_31 rfl rfl ?_
      refine V_iload_n hO 1 dX7_lake_32 rfl rfl ?_
      refine V_puti hO fp_X7_65 (by decide) (fun _ _ => ce_55) (Nat.le_of_ble_eq_true rfl) (fun _ _ => pe_55_0) dX7_lake_33 (V_name fun h8 => ?_)
      refine V_aload_n hO 0 dX7_lake_36 rfl rfl ?_
      refine V_iload_n hO 2 dX7_lake_37 rfl rfl ?_
      refine V_puti hO fp_X7_68 (by decide) (fun _ _ => ce_55) (Nat.le_of_ble_eq_true rfl) (fun _ _ => pe_55_1) dX7_lake_38 (V_name fun h9 => ?_)
      refine V_iconst hO 0 dX7_lake_41 (by decide) ?_
      refine V_istore_n hO (ls2 := [(3, .int 0), (0, .ref (α (55))), (1, .int p1), (2, .int p2)]) dX7_lake_42 rfl (by decide) rfl ?_
      exact V_sub [1, 0] rfl (T_X7_lake_43 hO hR fuel (0 : Int32) h9 )
    · refine V_bipush hO (-102) dX7_lake_28 (by decide) ?_
      exact V_iret hO hR rfl dX7_lake_30
set_option maxHeartbeats 4000000 in
set_option maxRecDepth 100000 in
theorem C_X7_lake (α : Nat → Nat) (p1 : Int32) (p2 : Int32) (σ : Hp) : Ct yX7_lake cX7_lake 4 (some .int) 1 25 α [.ref (α (55)), .int p1, .int p2] σ (kSI (F_X7_lake p1 p2 σ)) := ct_of_V (own := RX7) rfl (by decide +kernel) (Nat.le_of_ble_eq_true rfl) fun _ hO hR => T_X7_lake hO hR p1 p2 σ
/-! X7_isThere -/
noncomputable def F_X7_isThere  (p1 : Int32) (σ : Hp) : Option Bool :=
  if inb (((8 : Int32) * p1) + (6 : Int32)) 80 = true then
  if (σ.1 58 (Int32.toNatClampNeg (((8 : Int32) * p1) + (6 : Int32)))) = (1 : Int32) then
  some true
  else
  some false
  else none
set_option maxHeartbeats 4000000 in
set_option maxRecDepth 100000 in
theorem T_X7_isThere {G : Gm} {α : Nat → Nat} (hO : Ok G α cX7_isThere 2 RX7 0 0) (hR : Rt G α (some .boolean)) (p1 : Int32) (σ : Hp) : V G α 2 (kOZ σ) 0 [(0, .ref (α (55))), (1, .int p1)] [] σ (F_X7_isThere p1 σ) := by
  rw [F_X7_isThere]
  refine V_aload_n hO 0 dX7_isThere_0 rfl rfl ?_
  refine V_get hO (v := .ref (α (58))) fl_X7_16 (by decide) (fun _ _ => ce_55) rfl dX7_isThere_1 ?_
  refine V_bipush hO 8 dX7_isThere_4 (by decide) ?_
  refine V_iload_n hO 1 dX7_isThere_6 rfl rfl ?_
  refine V_imul hO dX7_isThere_7 ?_
  refine V_bipush hO 6 dX7_isThere_8 (by decide) ?_
  refine V_iadd hO dX7_isThere_10 ?_
  refine V_chk rfl fun c1 => ?_
  refine V_iald hO (by decide) (fun _ _ => ce_58) (inb_in c1) dX7_isThere_11 ?_
  refine V_iconst hO 1 dX7_isThere_12 (by decide) ?_
  refine V_icmp_ne hO 20 dX7_isThere_13 (by decide) ?_ ?_
  · refine V_iconst hO 0 dX7_isThere_20 (by decide) ?_
    exact V_zret hO hR (by decide) rfl dX7_isThere_21
  · refine V_iconst hO 1 dX7_isThere_16 (by decide) ?_
    refine V_goto hO 21 dX7_isThere_17 (by decide) ?_
    exact V_zret hO hR (by decide) rfl dX7_isThere_21
set_option maxHeartbeats 4000000 in
set_option maxRecDepth 100000 in
theorem C_X7_isThere (α : Nat → Nat) (p1 : Int32) (σ : Hp) : Ct yX7_isThere cX7_isThere 2 (some .boolean) 0 0 α [.ref (α (55)), .int p1] σ (kOZ σ (F_X7_isThere p1 σ)) := ct_of_V (own := RX7) rfl (by decide +kernel) (Nat.le_of_ble_eq_true rfl) fun _ hO hR => T_X7_isThere hO hR p1 σ
/-! X7_thereIn -/
noncomputable def F_X7_thereIn_41 (σ : Hp) (k4 : Int32 → Int32 → Int32 → (Option Int32)) (w1 : Int32) (w3 : Int32) (s0 : Bool) (s1 : Int32) : Option Int32 :=
  lt (s1 + (b2i s0)) fun v1 =>
  k4 w1 v1 (w3 + 1)
noncomputable def F_X7_thereIn_4 (σ : Hp) : Nat → Int32 → Int32 → Int32 → Option Int32
  | 0, _, _, _ => none
  | n + 1, w1, w2, w3 =>
    if (σ.1 55 6) ≤ w3 then
    some w2
    else
    (F_X7_isThere w3 σ).bind fun v2 =>
    if v2 = true then
    if inb (((8 : Int32) * w3) + (1 : Int32)) 80 = true then
    if (σ.1 58 (Int32.toNatClampNeg (((8 : Int32) * w3) + (1 : Int32)))) = w1 then
    F_X7_thereIn_41 σ (F_X7_thereIn_4 σ n) w1 w3 true w2
    else
    F_X7_thereIn_41 σ (F_X7_thereIn_4 σ n) w1 w3 false w2
    else none
    else
    F_X7_thereIn_41 σ (F_X7_thereIn_4 σ n) w1 w3 false w2
noncomputable def F_X7_thereIn  (p1 : Int32) (σ : Hp) : Option Int32 :=
  F_X7_thereIn_4 σ fuel p1 (0 : Int32) (0 : Int32)
set_option maxHeartbeats 4000000 in
set_option maxRecDepth 100000 in
theorem T_X7_thereIn_41 {G : Gm} {α : Nat → Nat} (hO : Ok G α cX7_thereIn 4 RX7 1 21) (hR : Rt G α (some .int)) (σ : Hp) (k4 : Int32 → Int32 → Int32 → (Option Int32)) (hk4 : ∀ (w1 : Int32) (w2 : Int32) (w3 : Int32), V G α 4 (kOI σ) 4 [(0, .ref (α (55))), (1, .int w1), (2, .int w2), (3, .int w3)] [] σ (k4 w1 w2 w3)) : ∀ (w1 : Int32) (w3 : Int32) (s0 : Bool) (s1 : Int32), V G α 4 (kOI σ) 41 [(0, .ref (α (55))), (1, .int w1), (3, .int w3)] [.int (b2i s0), .int s1] σ (F_X7_thereIn_41 σ k4 w1 w3 s0 s1) := by
  intro w1 w3 s0 s1
  rw [F_X7_thereIn_41]
  refine V_iadd hO dX7_thereIn_41 ?_
  refine V_istore_nN hO (ls2 := fun v1 => [(2, .int v1), (0, .ref (α (55))), (1, .int w1), (3, .int w3)]) dX7_thereIn_42 rfl (by decide) (fun _ => rfl) (fun v1 => ?_)
  refine V_iinc hO (ls2 := [(3, .int (w3 + 1)), (2, .int v1), (0, .ref (α (55))), (1, .int w1)]) (z := 1) 3 dX7_thereIn_43 rfl (by decide) (by decide) rfl ?_
  refine V_goto hO 4 dX7_thereIn_46 (by decide) ?_
  exact V_sub [2, 3, 1, 0] rfl (hk4 w1 v1 (w3 + 1) )
set_option maxHeartbeats 4000000 in
set_option maxRecDepth 100000 in
theorem T_X7_thereIn_4 {G : Gm} {α : Nat → Nat} (hO : Ok G α cX7_thereIn 4 RX7 1 21) (hR : Rt G α (some .int)) (σ : Hp) : ∀ (fuel : Nat) (w1 : Int32) (w2 : Int32) (w3 : Int32), V G α 4 (kOI σ) 4 [(0, .ref (α (55))), (1, .int w1), (2, .int w2), (3, .int w3)] [] σ (F_X7_thereIn_4 σ fuel w1 w2 w3) := by
  intro fuel
  induction fuel with
  | zero => intro w1 w2 w3; exact V_none rfl
  | succ n ih =>
    intro w1 w2 w3
    rw [F_X7_thereIn_4]
    refine V_iload_n hO 3 dX7_thereIn_4 rfl rfl ?_
    refine V_aload_n hO 0 dX7_thereIn_5 rfl rfl ?_
    refine V_get hO (v := .int (σ.1 55 6)) fl_X7_79 (by decide) (fun _ _ => ce_55) rfl dX7_thereIn_6 ?_
    refine V_icmp_ge hO 49 dX7_thereIn_9 (by decide) ?_ ?_
    · refine V_iload_n hO 2 dX7_thereIn_49 rfl rfl ?_
      exact V_iret hO hR rfl dX7_thereIn_50
    · refine V_iload_n hO 2 dX7_thereIn_12 rfl rfl ?_
      refine V_aload_n hO 0 dX7_thereIn_13 rfl rfl ?_
      refine V_iload_n hO 3 dX7_thereIn_14 rfl rfl ?_
      refine V_callV hO ml_X7_94 (C_X7_isThere α w3 σ) (by decide) (fun _ _ => ce_55) rfl rfl (rest := [.int w2]) rfl rfl (Nat.le_of_ble_eq_true rfl) ⟨Nat.le_of_ble_eq_true rfl, Nat.le_of_ble_eq_true rfl⟩ dX7_thereIn_15 (kc_OZ rfl fun v2 => ?_)
      refine V_ifeqZ hO 40 dX7_thereIn_18 (by decide) ?_ ?_
      · refine V_iconst hO 0 dX7_thereIn_40 (by decide) ?_
        exact V_sub [0, 1, 3] rfl (T_X7_thereIn_41 hO hR σ (F_X7_thereIn_4 σ n) ih w1 w3 false w2 )
      · refine V_aload_n hO 0 dX7_thereIn_21 rfl rfl ?_
        refine V_get hO (v := .ref (α (58))) fl_X7_16 (by decide) (fun _ _ => ce_55) rfl dX7_thereIn_22 ?_
        refine V_bipush hO 8 dX7_thereIn_25 (by decide) ?_
        refine V_iload_n hO 3 dX7_thereIn_27 rfl rfl ?_
        refine V_imul hO dX7_thereIn_28 ?_
        refine V_iconst hO 1 dX7_thereIn_29 (by decide) ?_
        refine V_iadd hO dX7_thereIn_30 ?_
        refine V_chk rfl fun c3 => ?_
        refine V_iald hO (by decide) (fun _ _ => ce_58) (inb_in c3) dX7_thereIn_31 ?_
        refine V_iload_n hO 1 dX7_thereIn_32 rfl rfl ?_
        refine V_icmp_ne hO 40 dX7_thereIn_33 (by decide) ?_ ?_
        · refine V_iconst hO 0 dX7_thereIn_40 (by decide) ?_
          exact V_sub [0, 1, 3] rfl (T_X7_thereIn_41 hO hR σ (F_X7_thereIn_4 σ n) ih w1 w3 false w2 )
        · refine V_iconst hO 1 dX7_thereIn_36 (by decide) ?_
          refine V_goto hO 41 dX7_thereIn_37 (by decide) ?_
          exact V_sub [0, 1, 3] rfl (T_X7_thereIn_41 hO hR σ (F_X7_thereIn_4 σ n) ih w1 w3 true w2 )
set_option maxHeartbeats 4000000 in
set_option maxRecDepth 100000 in
theorem T_X7_thereIn {G : Gm} {α : Nat → Nat} (hO : Ok G α cX7_thereIn 4 RX7 1 21) (hR : Rt G α (some .int)) (p1 : Int32) (σ : Hp) : V G α 4 (kOI σ) 0 [(0, .ref (α (55))), (1, .int p1)] [] σ (F_X7_thereIn p1 σ) := by
  rw [F_X7_thereIn]
  refine V_iconst hO 0 dX7_thereIn_0 (by decide) ?_
  refine V_istore_n hO (ls2 := [(2, .int 0), (0, .ref (α (55))), (1, .int p1)]) dX7_thereIn_1 rfl (by decide) rfl ?_
  refine V_iconst hO 0 dX7_thereIn_2 (by decide) ?_
  refine V_istore_n hO (ls2 := [(3, .int 0), (2, .int 0), (0, .ref (α (55))), (1, .int p1)]) dX7_thereIn_3 rfl (by decide) rfl ?_
  exact V_sub [2, 3, 1, 0] rfl (T_X7_thereIn_4 hO hR σ fuel p1 (0 : Int32) (0 : Int32) )
set_option maxHeartbeats 4000000 in
set_option maxRecDepth 100000 in
theorem C_X7_thereIn (α : Nat → Nat) (p1 : Int32) (σ : Hp) : Ct yX7_thereIn cX7_thereIn 4 (some .int) 1 21 α [.ref (α (55)), .int p1] σ (kOI σ (F_X7_thereIn p1 σ)) := ct_of_V (own := RX7) rfl (by decide +kernel) (Nat.le_of_ble_eq_true rfl) fun _ hO hR => T_X7_thereIn hO hR p1 σ
/-! X7_ice -/
noncomputable def F_X7_ice  (p1 : Int32) (p2 : Int32) (σ : Hp) : Option (Int32 × Hp) :=
  if (F_X7_isSquare p1 σ) = true then
  if (F_X7_in (Int32.toInt64 p2) (0 : Int64) (99 : Int64) σ) = true then
  (F_X7_thereIn p1 σ).bind fun v1 =>
  if v1 ≤ 0 then
  if inb p1 16 = true then
  lt (σ.1 56 (Int32.toNatClampNeg p1)) fun v3 =>
  if inb p1 16 = true then
  lt (up σ 56 (Int32.toNatClampNeg p1) p2) fun h5 =>
  some (v3, h5)
  else none
  else none
  else
  some (((-103) : Int32), σ)
  else
  some (((-102) : Int32), σ)
  else
  some (((-101) : Int32), σ)
set_option maxHeartbeats 4000000 in
set_option maxRecDepth 100000 in
theorem T_X7_ice {G : Gm} {α : Nat → Nat} (hO : Ok G α cX7_ice 4 RX7 2 46) (hR : Rt G α (some .int)) (p1 : Int32) (p2 : Int32) (σ : Hp) : V G α 4 (kSI) 0 [(0, .ref (α (55))), (1, .int p1), (2, .int p2)] [] σ (F_X7_ice p1 p2 σ) := by
  rw [F_X7_ice]
  refine V_aload_n hO 0 dX7_ice_0 rfl rfl ?_
  refine V_iload_n hO 1 dX7_ice_1 rfl rfl ?_
  refine V_callV hO ml_X7_98 (C_X7_isSquare α p1 σ) (by decide) (fun _ _ => ce_55) rfl rfl (rest := []) rfl rfl (Nat.le_of_ble_eq_true rfl) ⟨Nat.le_of_ble_eq_true rfl, Nat.le_of_ble_eq_true rfl⟩ dX7_ice_2 (kc_Z ?_)
  refine V_ifneZ hO 11 dX7_ice_5 (by decide) ?_ ?_
  · refine V_iload_n hO 2 dX7_ice_11 rfl rfl ?_
    refine V_i2l hO dX7_ice_12 ?_
    refine V_lconst hO 0 dX7_ice_13 (by decide) ?_
    refine V_ldc2 hO (v := 99) dX7_ice_14 cn_X7_101 ?_
    refine V_callS hO ml_X7_75 (C_X7_in α (Int32.toInt64 p2) (0 : Int64) (99 : Int64) σ) (rest := []) rfl rfl (Nat.le_of_ble_eq_true rfl) ⟨Nat.le_of_ble_eq_true rfl, Nat.le_of_ble_eq_true rfl⟩ dX7_ice_17 (kc_Z ?_)
    refine V_ifneZ hO 26 dX7_ice_20 (by decide) ?_ ?_
    · refine V_aload_n hO 0 dX7_ice_26 rfl rfl ?_
      refine V_iload_n hO 1 dX7_ice_27 rfl rfl ?_
      refine V_callV hO ml_X7_103 (C_X7_thereIn α p1 σ) (by decide) (fun _ _ => ce_55) rfl rfl (rest := []) rfl rfl (Nat.le_of_ble_eq_true rfl) ⟨Nat.le_of_ble_eq_true rfl, Nat.le_of_ble_eq_true rfl⟩ dX7_ice_28 (kc_OI rfl fun v1 => ?_)
      refine V_if_le hO 37 dX7_ice_31 (by decide) ?_ ?_
      · refine V_aload_n hO 0 dX7_ice_37 rfl rfl ?_
        refine V_get hO (v := .ref (α (56))) fl_X7_7 (by decide) (fun _ _ => ce_55) rfl dX7_ice_38 ?_
        refine V_iload_n hO 1 dX7_ice_41 rfl rfl ?_
        refine V_chk rfl fun c2 => ?_
        refine V_iald hO (by decide) (fun _ _ => ce_56) (inb_in c2) dX7_ice_42 ?_
        refine V_istore_nN hO (ls2 := fun v3 => [(3, .int v3), (0, .ref (α (55))), (1, .int p1), (2, .int p2)]) dX7_ice_43 rfl (by decide) (fun _ => rfl) (fun v3 => ?_)
        refine V_aload_n hO 1 dX7_ice_44 rfl rfl ?_
        refine V_get hO (v := .ref (α (56))) fl_X7_7 (by decide) (fun _ _ => ce_55) rfl dX7_ice_45 ?_
        refine V_iload_n hO 2 dX7_ice_48 rfl rfl ?_
        refine V_iload_n hO 3 dX7_ice_49 rfl rfl ?_
        refine V_chk rfl fun c4 => ?_
        refine V_iast hO (by decide) (fun _ _ _ => ce_56) (inb_in c4) dX7_ice_50 (V_name fun h5 => ?_)
        refine V_iload_n hO 0 dX7_ice_51 rfl rfl ?_
        exact V_iret hO hR rfl dX7_ice_52
      · refine V_bipush hO (-103) dX7_ice_34 (by decide) ?_
        exact V_iret hO hR rfl dX7_ice_36
    · refine V_bipush hO (-102) dX7_ice_23 (by decide) ?_
      exact V_iret hO hR rfl dX7_ice_25
  · refine V_bipush hO (-101) dX7_ice_8 (by decide) ?_
    exact V_iret hO hR rfl dX7_ice_10
set_option maxHeartbeats 4000000 in
set_option maxRecDepth 100000 in
theorem C_X7_ice (α : Nat → Nat) (p1 : Int32) (p2 : Int32) (σ : Hp) : Ct yX7_ice cX7_ice 4 (some .int) 2 46 α [.ref (α (55)), .int p1, .int p2] σ (kSI (F_X7_ice p1 p2 σ)) := ct_of_V (own := RX7) rfl (by decide +kernel) (Nat.le_of_ble_eq_true rfl) fun _ hO hR => T_X7_ice hO hR p1 p2 σ
/-! X7_bearsOne -/
noncomputable def F_X7_bearsOne  (p1 : Int32) (σ : Hp) : Option Bool :=
  if inb p1 16 = true then
  if (σ.1 56 (Int32.toNatClampNeg p1)) ≤ (3 : Int32) then
  some false
  else
  some true
  else none
set_option maxHeartbeats 4000000 in
set_option maxRecDepth 100000 in
theorem T_X7_bearsOne {G : Gm} {α : Nat → Nat} (hO : Ok G α cX7_bearsOne 2 RX7 0 0) (hR : Rt G α (some .boolean)) (p1 : Int32) (σ : Hp) : V G α 2 (kOZ σ) 0 [(0, .ref (α (55))), (1, .int p1)] [] σ (F_X7_bearsOne p1 σ) := by
  rw [F_X7_bearsOne]
  refine V_aload_n hO 0 dX7_bearsOne_0 rfl rfl ?_
  refine V_get hO (v := .ref (α (56))) fl_X7_7 (by decide) (fun _ _ => ce_55) rfl dX7_bearsOne_1 ?_
  refine V_iload_n hO 1 dX7_bearsOne_4 rfl rfl ?_
  refine V_chk rfl fun c1 => ?_
  refine V_iald hO (by decide) (fun _ _ => ce_56) (inb_in c1) dX7_bearsOne_5 ?_
  refine V_iconst hO 3 dX7_bearsOne_6 (by decide) ?_
  refine V_icmp_le hO 14 dX7_bearsOne_7 (by decide) ?_ ?_
  · refine V_iconst hO 0 dX7_bearsOne_14 (by decide) ?_
    exact V_zret hO hR (by decide) rfl dX7_bearsOne_15
  · refine V_iconst hO 1 dX7_bearsOne_10 (by decide) ?_
    refine V_goto hO 15 dX7_bearsOne_11 (by decide) ?_
    exact V_zret hO hR (by decide) rfl dX7_bearsOne_15
set_option maxHeartbeats 4000000 in
set_option maxRecDepth 100000 in
theorem C_X7_bearsOne (α : Nat → Nat) (p1 : Int32) (σ : Hp) : Ct yX7_bearsOne cX7_bearsOne 2 (some .boolean) 0 0 α [.ref (α (55)), .int p1] σ (kOZ σ (F_X7_bearsOne p1 σ)) := ct_of_V (own := RX7) rfl (by decide +kernel) (Nat.le_of_ble_eq_true rfl) fun _ hO hR => T_X7_bearsOne hO hR p1 σ
/-! X7_tellSquare -/
noncomputable def F_X7_tellSquare  (p1 : Int32) (p2 : Int32) (σ : Hp) : Option Int32 :=
  if p2 = 0 then
  if inb p1 16 = true then
  some (σ.1 56 (Int32.toNatClampNeg p1))
  else none
  else if p2 = 1 then
  if inb p1 16 = true then
  some (σ.1 57 (Int32.toNatClampNeg p1))
  else none
  else if p2 = 2 then
  (F_X7_thereIn p1 σ).bind fun v7 =>
  some v7
  else if p2 = 3 then
  (F_X7_bearsOne p1 σ).bind fun v10 =>
  if v10 = true then
  some (1 : Int32)
  else
  some (0 : Int32)
  else 
  some ((-102) : Int32)
set_option maxHeartbeats 4000000 in
set_option maxRecDepth 100000 in
theorem T_X7_tellSquare {G : Gm} {α : Nat → Nat} (hO : Ok G α cX7_tellSquare 3 RX7 2 44) (hR : Rt G α (some .int)) (p1 : Int32) (p2 : Int32) (σ : Hp) : V G α 3 (kOI σ) 0 [(0, .ref (α (55))), (1, .int p1), (2, .int p2)] [] σ (F_X7_tellSquare p1 p2 σ) := by
  rw [F_X7_tellSquare]
  refine V_iload_n hO 2 dX7_tellSquare_0 rfl rfl ?_
  refine V_case (fun c2 => ?_) (fun n3 => ?_)
  · refine V_tsIn hO (off := 31) 32 dX7_tellSquare_1 (by rw [c2]; decide) (by rw [c2]; decide) (by rw [c2]; first | done | rfl | decide) (by decide) ?_
    refine V_aload_n hO 0 dX7_tellSquare_32 rfl rfl ?_
    refine V_get hO (v := .ref (α (56))) fl_X7_7 (by decide) (fun _ _ => ce_55) rfl dX7_tellSquare_33 ?_
    refine V_iload_n hO 1 dX7_tellSquare_36 rfl rfl ?_
    refine V_chk rfl fun c1 => ?_
    refine V_iald hO (by decide) (fun _ _ => ce_56) (inb_in c1) dX7_tellSquare_37 ?_
    exact V_iret hO hR rfl dX7_tellSquare_38
  refine V_case (fun c5 => ?_) (fun n6 => ?_)
  · refine V_tsIn hO (off := 38) 39 dX7_tellSquare_1 (by rw [c5]; decide) (by rw [c5]; decide) (by rw [c5]; first | done | rfl | decide) (by decide) ?_
    refine V_aload_n hO 0 dX7_tellSquare_39 rfl rfl ?_
    refine V_get hO (v := .ref (α (57))) fl_X7_13 (by decide) (fun _ _ => ce_55) rfl dX7_tellSquare_40 ?_
    refine V_iload_n hO 1 dX7_tellSquare_43 rfl rfl ?_
    refine V_chk rfl fun c4 => ?_
    refine V_iald hO (by decide) (fun _ _ => ce_57) (inb_in c4) dX7_tellSquare_44 ?_
    exact V_iret hO hR rfl dX7_tellSquare_45
  refine V_case (fun c8 => ?_) (fun n9 => ?_)
  · refine V_tsIn hO (off := 45) 46 dX7_tellSquare_1 (by rw [c8]; decide) (by rw [c8]; decide) (by rw [c8]; first | done | rfl | decide) (by decide) ?_
    refine V_aload_n hO 0 dX7_tellSquare_46 rfl rfl ?_
    refine V_iload_n hO 1 dX7_tellSquare_47 rfl rfl ?_
    refine V_callV hO ml_X7_103 (C_X7_thereIn α p1 σ) (by decide) (fun _ _ => ce_55) rfl rfl (rest := []) rfl rfl (Nat.le_of_ble_eq_true rfl) ⟨Nat.le_of_ble_eq_true rfl, Nat.le_of_ble_eq_true rfl⟩ dX7_tellSquare_48 (kc_OI rfl fun v7 => ?_)
    exact V_iret hO hR rfl dX7_tellSquare_51
  refine V_case (fun c11 => ?_) (fun n12 => ?_)
  · refine V_tsIn hO (off := 51) 52 dX7_tellSquare_1 (by rw [c11]; decide) (by rw [c11]; decide) (by rw [c11]; first | done | rfl | decide) (by decide) ?_
    refine V_aload_n hO 0 dX7_tellSquare_52 rfl rfl ?_
    refine V_iload_n hO 1 dX7_tellSquare_53 rfl rfl ?_
    refine V_callV hO ml_X7_107 (C_X7_bearsOne α p1 σ) (by decide) (fun _ _ => ce_55) rfl rfl (rest := []) rfl rfl (Nat.le_of_ble_eq_true rfl) ⟨Nat.le_of_ble_eq_true rfl, Nat.le_of_ble_eq_true rfl⟩ dX7_tellSquare_54 (kc_OZ rfl fun v10 => ?_)
    refine V_ifeqZ hO 64 dX7_tellSquare_57 (by decide) ?_ ?_
    · refine V_iconst hO 0 dX7_tellSquare_64 (by decide) ?_
      exact V_iret hO hR rfl dX7_tellSquare_65
    · refine V_iconst hO 1 dX7_tellSquare_60 (by decide) ?_
      refine V_goto hO 65 dX7_tellSquare_61 (by decide) ?_
      exact V_iret hO hR rfl dX7_tellSquare_65
  refine V_tsOut hO 66 dX7_tellSquare_1 (by have h9 := ts_out 4 (p9_ts (lt_s (lt_s (lt_s (lt_s lt_0 n3) n6) n9) n12)) (by decide); omega) (by decide) ?_
  refine V_bipush hO (-102) dX7_tellSquare_66 (by decide) ?_
  exact V_iret hO hR rfl dX7_tellSquare_68
set_option maxHeartbeats 4000000 in
set_option maxRecDepth 100000 in
theorem C_X7_tellSquare (α : Nat → Nat) (p1 : Int32) (p2 : Int32) (σ : Hp) : Ct yX7_tellSquare cX7_tellSquare 3 (some .int) 2 44 α [.ref (α (55)), .int p1, .int p2] σ (kOI σ (F_X7_tellSquare p1 p2 σ)) := ct_of_V (own := RX7) rfl (by decide +kernel) (Nat.le_of_ble_eq_true rfl) fun _ hO hR => T_X7_tellSquare hO hR p1 p2 σ
/-! X7_square -/
noncomputable def F_X7_square  (p1 : Int32) (p2 : Int32) (σ : Hp) : Option Int32 :=
  if (F_X7_isSquare p1 σ) = true then
  (F_X7_tellSquare p1 p2 σ).bind fun v1 =>
  some v1
  else
  some ((-101) : Int32)
set_option maxHeartbeats 4000000 in
set_option maxRecDepth 100000 in
theorem T_X7_square {G : Gm} {α : Nat → Nat} (hO : Ok G α cX7_square 3 RX7 3 66) (hR : Rt G α (some .int)) (p1 : Int32) (p2 : Int32) (σ : Hp) : V G α 3 (kOI σ) 0 [(0, .ref (α (55))), (1, .int p1), (2, .int p2)] [] σ (F_X7_square p1 p2 σ) := by
  rw [F_X7_square]
  refine V_aload_n hO 0 dX7_square_0 rfl rfl ?_
  refine V_iload_n hO 1 dX7_square_1 rfl rfl ?_
  refine V_callV hO ml_X7_98 (C_X7_isSquare α p1 σ) (by decide) (fun _ _ => ce_55) rfl rfl (rest := []) rfl rfl (Nat.le_of_ble_eq_true rfl) ⟨Nat.le_of_ble_eq_true rfl, Nat.le_of_ble_eq_true rfl⟩ dX7_square_2 (kc_Z ?_)
  refine V_ifeqZ hO 17 dX7_square_5 (by decide) ?_ ?_
  · refine V_bipush hO (-101) dX7_square_17 (by decide) ?_
    exact V_iret hO hR rfl dX7_square_19
  · refine V_aload_n hO 0 dX7_square_8 rfl rfl ?_
    refine V_iload_n hO 1 dX7_square_9 rfl rfl ?_
    refine V_iload_n hO 2 dX7_square_10 rfl rfl ?_
    refine V_callV hO ml_X7_110 (C_X7_tellSquare α p1 p2 σ) (by decide) (fun _ _ => ce_55) rfl rfl (rest := []) rfl rfl (Nat.le_of_ble_eq_true rfl) ⟨Nat.le_of_ble_eq_true rfl, Nat.le_of_ble_eq_true rfl⟩ dX7_square_11 (kc_OI rfl fun v1 => ?_)
    refine V_goto hO 19 dX7_square_14 (by decide) ?_
    exact V_iret hO hR rfl dX7_square_19
set_option maxHeartbeats 4000000 in
set_option maxRecDepth 100000 in
theorem C_X7_square (α : Nat → Nat) (p1 : Int32) (p2 : Int32) (σ : Hp) : Ct yX7_square cX7_square 3 (some .int) 3 66 α [.ref (α (55)), .int p1, .int p2] σ (kOI σ (F_X7_square p1 p2 σ)) := ct_of_V (own := RX7) rfl (by decide +kernel) (Nat.le_of_ble_eq_true rfl) fun _ hO hR => T_X7_square hO hR p1 p2 σ
/-! X7_lose -/
noncomputable def F_X7_lose  (p1 : Int32) (σ : Hp) : Option Hp :=
  if inb (((8 : Int32) * p1) + (6 : Int32)) 80 = true then
  lt (up σ 58 (Int32.toNatClampNeg (((8 : Int32) * p1) + (6 : Int32))) (0 : Int32)) fun h2 =>
  if inb (((8 : Int32) * p1) + (5 : Int32)) 80 = true then
  lt (up h2 58 (Int32.toNatClampNeg (((8 : Int32) * p1) + (5 : Int32))) (0 : Int32)) fun h4 =>
  some h4
  else none
  else none
set_option maxHeartbeats 4000000 in
set_option maxRecDepth 100000 in
theorem T_X7_lose {G : Gm} {α : Nat → Nat} (hO : Ok G α cX7_lose 2 RX7 0 0) (hR : Rt G α none) (p1 : Int32) (σ : Hp) : V G α 2 (kSV) 0 [(0, .ref (α (55))), (1, .int p1)] [] σ (F_X7_lose p1 σ) := by
  rw [F_X7_lose]
  refine V_aload_n hO 0 dX7_lose_0 rfl rfl ?_
  refine V_get hO (v := .ref (α (58))) fl_X7_16 (by decide) (fun _ _ => ce_55) rfl dX7_lose_1 ?_
  refine V_bipush hO 8 dX7_lose_4 (by decide) ?_
  refine V_iload_n hO 1 dX7_lose_6 rfl rfl ?_
  refine V_imul hO dX7_lose_7 ?_
  refine V_bipush hO 6 dX7_lose_8 (by decide) ?_
  refine V_iadd hO dX7_lose_10 ?_
  refine V_iconst hO 0 dX7_lose_11 (by decide) ?_
  refine V_chk rfl fun c1 => ?_
  refine V_iast hO (by decide) (fun _ _ _ => ce_58) (inb_in c1) dX7_lose_12 (V_name fun h2 => ?_)
  refine V_aload_n hO 0 dX7_lose_13 rfl rfl ?_
  refine V_get hO (v := .ref (α (58))) fl_X7_16 (by decide) (fun _ _ => ce_55) rfl dX7_lose_14 ?_
  refine V_bipush hO 8 dX7_lose_17 (by decide) ?_
  refine V_iload_n hO 1 dX7_lose_19 rfl rfl ?_
  refine V_imul hO dX7_lose_20 ?_
  refine V_iconst hO 5 dX7_lose_21 (by decide) ?_
  refine V_iadd hO dX7_lose_22 ?_
  refine V_iconst hO 0 dX7_lose_23 (by decide) ?_
  refine V_chk rfl fun c3 => ?_
  refine V_iast hO (by decide) (fun _ _ _ => ce_58) (inb_in c3) dX7_lose_24 (V_name fun h4 => ?_)
  exact V_vret hO hR rfl dX7_lose_25
set_option maxHeartbeats 4000000 in
set_option maxRecDepth 100000 in
theorem C_X7_lose (α : Nat → Nat) (p1 : Int32) (σ : Hp) : Ct yX7_lose cX7_lose 2 none 0 0 α [.ref (α (55)), .int p1] σ (kSV (F_X7_lose p1 σ)) := ct_of_V (own := RX7) rfl (by decide +kernel) (Nat.le_of_ble_eq_true rfl) fun _ hO hR => T_X7_lose hO hR p1 σ
/-! X7_fish -/
noncomputable def F_X7_fish_67 (k31 : Int32 → Int32 → Int32 → Hp → (Option (Int32 × Hp))) (w1 : Int32) (w2 : Int32) (w3 : Int32) (h : Hp) : Option (Int32 × Hp) :=
  k31 w1 w2 (w3 + 1) h
noncomputable def F_X7_fish_31  : Nat → Int32 → Int32 → Int32 → Hp → Option (Int32 × Hp)
  | 0, _, _, _, _ => none
  | n + 1, w1, w2, w3, h =>
    if (h.1 55 6) ≤ w3 then
    if inb w1 16 = true then
    lt (up h 56 (Int32.toNatClampNeg w1) (0 : Int32)) fun h2 =>
    some (w2, h2)
    else none
    else
    (F_X7_isThere w3 h).bind fun v3 =>
    if v3 = true then
    if inb (((8 : Int32) * w3) + (1 : Int32)) 80 = true then
    if (h.1 58 (Int32.toNatClampNeg (((8 : Int32) * w3) + (1 : Int32)))) = w1 then
    (F_X7_lose w3 h).bind fun q5 =>
    F_X7_fish_67 (F_X7_fish_31 n) w1 w2 w3 q5
    else
    F_X7_fish_67 (F_X7_fish_31 n) w1 w2 w3 h
    else none
    else
    F_X7_fish_67 (F_X7_fish_31 n) w1 w2 w3 h
noncomputable def F_X7_fish  (p1 : Int32) (σ : Hp) : Option (Int32 × Hp) :=
  if (F_X7_isSquare p1 σ) = true then
  if inb p1 16 = true then
  if (σ.1 56 (Int32.toNatClampNeg p1)) = 0 then
  some (((-103) : Int32), σ)
  else
  (F_X7_thereIn p1 σ).bind fun v7 =>
  F_X7_fish_31 fuel p1 v7 (0 : Int32) σ
  else none
  else
  some (((-101) : Int32), σ)
set_option maxHeartbeats 4000000 in
set_option maxRecDepth 100000 in
theorem T_X7_fish_67 {G : Gm} {α : Nat → Nat} (hO : Ok G α cX7_fish 4 RX7 2 46) (hR : Rt G α (some .int)) (k31 : Int32 → Int32 → Int32 → Hp → (Option (Int32 × Hp))) (hk31 : ∀ (w1 : Int32) (w2 : Int32) (w3 : Int32) (h : Hp), V G α 4 (kSI) 31 [(0, .ref (α (55))), (1, .int w1), (2, .int w2), (3, .int w3)] [] h (k31 w1 w2 w3 h)) : ∀ (w1 : Int32) (w2 : Int32) (w3 : Int32) (h : Hp), V G α 4 (kSI) 67 [(0, .ref (α (55))), (1, .int w1), (2, .int w2), (3, .int w3)] [] h (F_X7_fish_67 k31 w1 w2 w3 h) := by
  intro w1 w2 w3 h
  rw [F_X7_fish_67]
  refine V_iinc hO (ls2 := [(3, .int (w3 + 1)), (0, .ref (α (55))), (1, .int w1), (2, .int w2)]) (z := 1) 3 dX7_fish_67 rfl (by decide) (by decide) rfl ?_
  refine V_goto hO 31 dX7_fish_70 (by decide) ?_
  exact V_sub [1, 2, 3, 0] rfl (hk31 w1 w2 (w3 + 1) h )
set_option maxHeartbeats 4000000 in
set_option maxRecDepth 100000 in
theorem T_X7_fish_31 {G : Gm} {α : Nat → Nat} (hO : Ok G α cX7_fish 4 RX7 2 46) (hR : Rt G α (some .int)) : ∀ (fuel : Nat) (w1 : Int32) (w2 : Int32) (w3 : Int32) (h : Hp), V G α 4 (kSI) 31 [(0, .ref (α (55))), (1, .int w1), (2, .int w2), (3, .int w3)] [] h (F_X7_fish_31 fuel w1 w2 w3 h) := by
  intro fuel
  induction fuel with
  | zero => intro w1 w2 w3 h; exact V_none rfl
  | succ n ih =>
    intro w1 w2 w3 h
    rw [F_X7_fish_31]
    refine V_iload_n hO 3 dX7_fish_31 rfl rfl ?_
    refine V_aload_n hO 0 dX7_fish_32 rfl rfl ?_
    refine V_get hO (v := .int (h.1 55 6)) fl_X7_79 (by decide) (fun _ _ => ce_55) rfl dX7_fish_33 ?_
    refine V_icmp_ge hO 73 dX7_fish_36 (by decide) ?_ ?_
    · refine V_aload_n hO 0 dX7_fish_73 rfl rfl ?_
      refine V_get hO (v := .ref (α (56))) fl_X7_7 (by decide) (fun _ _ => ce_55) rfl dX7_fish_74 ?_
      refine V_iload_n hO 1 dX7_fish_77 rfl rfl ?_
      refine V_iconst hO 0 dX7_fish_78 (by decide) ?_
      refine V_chk rfl fun c1 => ?_
      refine V_iast hO (by decide) (fun _ _ _ => ce_56) (inb_in c1) dX7_fish_79 (V_name fun h2 => ?_)
      refine V_iload_n hO 2 dX7_fish_80 rfl rfl ?_
      exact V_iret hO hR rfl dX7_fish_81
    · refine V_aload_n hO 0 dX7_fish_39 rfl rfl ?_
      refine V_iload_n hO 3 dX7_fish_40 rfl rfl ?_
      refine V_callV hO ml_X7_94 (C_X7_isThere α w3 h) (by decide) (fun _ _ => ce_55) rfl rfl (rest := []) rfl rfl (Nat.le_of_ble_eq_true rfl) ⟨Nat.le_of_ble_eq_true rfl, Nat.le_of_ble_eq_true rfl⟩ dX7_fish_41 (kc_OZ rfl fun v3 => ?_)
      refine V_ifeqZ hO 67 dX7_fish_44 (by decide) ?_ ?_
      · exact V_sub [0, 1, 2, 3] rfl (T_X7_fish_67 hO hR (F_X7_fish_31 n) ih w1 w2 w3 h )
      · refine V_aload_n hO 0 dX7_fish_47 rfl rfl ?_
        refine V_get hO (v := .ref (α (58))) fl_X7_16 (by decide) (fun _ _ => ce_55) rfl dX7_fish_48 ?_
        refine V_bipush hO 8 dX7_fish_51 (by decide) ?_
        refine V_iload_n hO 3 dX7_fish_53 rfl rfl ?_
        refine V_imul hO dX7_fish_54 ?_
        refine V_iconst hO 1 dX7_fish_55 (by decide) ?_
        refine V_iadd hO dX7_fish_56 ?_
        refine V_chk rfl fun c4 => ?_
        refine V_iald hO (by decide) (fun _ _ => ce_58) (inb_in c4) dX7_fish_57 ?_
        refine V_iload_n hO 1 dX7_fish_58 rfl rfl ?_
        refine V_icmp_ne hO 67 dX7_fish_59 (by decide) ?_ ?_
        · exact V_sub [0, 1, 2, 3] rfl (T_X7_fish_67 hO hR (F_X7_fish_31 n) ih w1 w2 w3 h )
        · refine V_aload_n hO 0 dX7_fish_62 rfl rfl ?_
          refine V_iload_n hO 3 dX7_fish_63 rfl rfl ?_
          refine V_callV hO ml_X7_114 (C_X7_lose α w3 h) (by decide) (fun _ _ => ce_55) rfl rfl (rest := []) rfl rfl (Nat.le_of_ble_eq_true rfl) ⟨Nat.le_of_ble_eq_true rfl, Nat.le_of_ble_eq_true rfl⟩ dX7_fish_64 (kc_SV rfl fun q5 => ?_)
          exact V_sub [0, 1, 2, 3] rfl (T_X7_fish_67 hO hR (F_X7_fish_31 n) ih w1 w2 w3 q5 )
set_option maxHeartbeats 4000000 in
set_option maxRecDepth 100000 in
theorem T_X7_fish {G : Gm} {α : Nat → Nat} (hO : Ok G α cX7_fish 4 RX7 2 46) (hR : Rt G α (some .int)) (p1 : Int32) (σ : Hp) : V G α 4 (kSI) 0 [(0, .ref (α (55))), (1, .int p1)] [] σ (F_X7_fish p1 σ) := by
  rw [F_X7_fish]
  refine V_aload_n hO 0 dX7_fish_0 rfl rfl ?_
  refine V_iload_n hO 1 dX7_fish_1 rfl rfl ?_
  refine V_callV hO ml_X7_98 (C_X7_isSquare α p1 σ) (by decide) (fun _ _ => ce_55) rfl rfl (rest := []) rfl rfl (Nat.le_of_ble_eq_true rfl) ⟨Nat.le_of_ble_eq_true rfl, Nat.le_of_ble_eq_true rfl⟩ dX7_fish_2 (kc_Z ?_)
  refine V_ifneZ hO 11 dX7_fish_5 (by decide) ?_ ?_
  · refine V_aload_n hO 0 dX7_fish_11 rfl rfl ?_
    refine V_get hO (v := .ref (α (56))) fl_X7_7 (by decide) (fun _ _ => ce_55) rfl dX7_fish_12 ?_
    refine V_iload_n hO 1 dX7_fish_15 rfl rfl ?_
    refine V_chk rfl fun c6 => ?_
    refine V_iald hO (by decide) (fun _ _ => ce_56) (inb_in c6) dX7_fish_16 ?_
    refine V_if_ne hO 23 dX7_fish_17 (by decide) ?_ ?_
    · refine V_aload_n hO 0 dX7_fish_23 rfl rfl ?_
      refine V_iload_n hO 1 dX7_fish_24 rfl rfl ?_
      refine V_callV hO ml_X7_103 (C_X7_thereIn α p1 σ) (by decide) (fun _ _ => ce_55) rfl rfl (rest := []) rfl rfl (Nat.le_of_ble_eq_true rfl) ⟨Nat.le_of_ble_eq_true rfl, Nat.le_of_ble_eq_true rfl⟩ dX7_fish_25 (kc_OI rfl fun v7 => ?_)
      refine V_istore_n hO (ls2 := [(2, .int v7), (0, .ref (α (55))), (1, .int p1)]) dX7_fish_28 rfl (by decide) rfl ?_
      refine V_iconst hO 0 dX7_fish_29 (by decide) ?_
      refine V_istore_n hO (ls2 := [(3, .int 0), (2, .int v7), (0, .ref (α (55))), (1, .int p1)]) dX7_fish_30 rfl (by decide) rfl ?_
      exact V_sub [2, 3, 1, 0] rfl (T_X7_fish_31 hO hR fuel p1 v7 (0 : Int32) σ )
    · refine V_bipush hO (-103) dX7_fish_20 (by decide) ?_
      exact V_iret hO hR rfl dX7_fish_22
  · refine V_bipush hO (-101) dX7_fish_8 (by decide) ?_
    exact V_iret hO hR rfl dX7_fish_10
set_option maxHeartbeats 4000000 in
set_option maxRecDepth 100000 in
theorem C_X7_fish (α : Nat → Nat) (p1 : Int32) (σ : Hp) : Ct yX7_fish cX7_fish 4 (some .int) 2 46 α [.ref (α (55)), .int p1] σ (kSI (F_X7_fish p1 σ)) := ct_of_V (own := RX7) rfl (by decide +kernel) (Nat.le_of_ble_eq_true rfl) fun _ hO hR => T_X7_fish hO hR p1 σ
/-! X7_write -/
noncomputable def F_X7_write_87  (w1 : Int32) (w2 : Int32) (w3 : Int32) (w4 : Int32) (w5 : Int32) (s0 : Int32) (h : Hp) : Option (Int32 × Hp) :=
  if inb w2 16 = true then
  if s0 ≤ (h.1 56 (Int32.toNatClampNeg w2)) then
  if (h.1 55 6) = (10 : Int32) then
  some (((-104) : Int32), h)
  else
  lt ((8 : Int32) * (h.1 55 6)) fun v2 =>
  if inb v2 80 = true then
  lt (up h 58 (Int32.toNatClampNeg v2) w1) fun h4 =>
  if inb (v2 + (1 : Int32)) 80 = true then
  lt (up h4 58 (Int32.toNatClampNeg (v2 + (1 : Int32))) w2) fun h6 =>
  if inb (v2 + (2 : Int32)) 80 = true then
  lt (up h6 58 (Int32.toNatClampNeg (v2 + (2 : Int32))) w3) fun h8 =>
  if inb (v2 + (3 : Int32)) 80 = true then
  lt (up h8 58 (Int32.toNatClampNeg (v2 + (3 : Int32))) w4) fun h10 =>
  if inb (v2 + (4 : Int32)) 80 = true then
  lt (up h10 58 (Int32.toNatClampNeg (v2 + (4 : Int32))) w5) fun h12 =>
  if inb (v2 + (5 : Int32)) 80 = true then
  lt (up h12 58 (Int32.toNatClampNeg (v2 + (5 : Int32))) s0) fun h14 =>
  if inb (v2 + (6 : Int32)) 80 = true then
  lt (up h14 58 (Int32.toNatClampNeg (v2 + (6 : Int32))) (1 : Int32)) fun h16 =>
  if inb (v2 + (7 : Int32)) 80 = true then
  lt (up h16 58 (Int32.toNatClampNeg (v2 + (7 : Int32))) (0 : Int32)) fun h18 =>
  lt (up h18 55 6 ((h18.1 55 6) + (1 : Int32))) fun h19 =>
  some (((h19.1 55 6) - (1 : Int32)), h19)
  else none
  else none
  else none
  else none
  else none
  else none
  else none
  else none
  else
  some (((-103) : Int32), h)
  else none
noncomputable def F_X7_write  (p1 : Int32) (p2 : Int32) (p3 : Int32) (p4 : Int32) (p5 : Int32) (p6 : Int32) (σ : Hp) : Option (Int32 × Hp) :=
  if (F_X7_isSquare p2 σ) = true then
  if (F_X7_isPerson p3 σ) = true then
  if (F_X7_isPerson p4 σ) = true then
  if p3 = p4 then
  some (((-101) : Int32), σ)
  else
  if (F_X7_in (Int32.toInt64 p1) (0 : Int64) (4 : Int64) σ) = true then
  if (F_X7_in (Int32.toInt64 p5) (1 : Int64) (99 : Int64) σ) = true then
  if (F_X7_in (Int32.toInt64 p6) (1 : Int64) (9 : Int64) σ) = true then
  if p1 = (1 : Int32) then
  F_X7_write_87 p1 p2 p3 p4 p5 ((2 : Int32) * p6) σ
  else
  F_X7_write_87 p1 p2 p3 p4 p5 p6 σ
  else
  some (((-102) : Int32), σ)
  else
  some (((-102) : Int32), σ)
  else
  some (((-102) : Int32), σ)
  else
  some (((-101) : Int32), σ)
  else
  some (((-101) : Int32), σ)
  else
  some (((-101) : Int32), σ)
set_option maxHeartbeats 4000000 in
set_option maxRecDepth 100000 in
theorem T_X7_write_87 {G : Gm} {α : Nat → Nat} (hO : Ok G α cX7_write 9 RX7 2 46) (hR : Rt G α (some .int)) : ∀ (w1 : Int32) (w2 : Int32) (w3 : Int32) (w4 : Int32) (w5 : Int32) (s0 : Int32) (h : Hp), V G α 9 (kSI) 87 [(0, .ref (α (55))), (1, .int w1), (2, .int w2), (3, .int w3), (4, .int w4), (5, .int w5)] [.int s0] h (F_X7_write_87 w1 w2 w3 w4 w5 s0 h) := by
  intro w1 w2 w3 w4 w5 s0 h
  rw [F_X7_write_87]
  refine V_istore hO (ls2 := [(7, .int s0), (0, .ref (α (55))), (1, .int w1), (2, .int w2), (3, .int w3), (4, .int w4), (5, .int w5)]) dX7_write_87 (by decide) rfl ?_
  refine V_iload hO 0 dX7_write_89 rfl ?_
  refine V_aload_n hO 1 dX7_write_91 rfl rfl ?_
  refine V_get hO (v := .ref (α (56))) fl_X7_7 (by decide) (fun _ _ => ce_55) rfl dX7_write_92 ?_
  refine V_iload_n hO 3 dX7_write_95 rfl rfl ?_
  refine V_chk rfl fun c1 => ?_
  refine V_iald hO (by decide) (fun _ _ => ce_56) (inb_in c1) dX7_write_96 ?_
  refine V_icmp_le hO 103 dX7_write_97 (by decide) ?_ ?_
  · refine V_aload_n hO 1 dX7_write_103 rfl rfl ?_
    refine V_get hO (v := .int (h.1 55 6)) fl_X7_79 (by decide) (fun _ _ => ce_55) rfl dX7_write_104 ?_
    refine V_bipush hO 10 dX7_write_107 (by decide) ?_
    refine V_icmp_ne hO 115 dX7_write_109 (by decide) ?_ ?_
    · refine V_bipush hO 8 dX7_write_115 (by decide) ?_
      refine V_aload_n hO 1 dX7_write_117 rfl rfl ?_
      refine V_get hO (v := .int (h.1 55 6)) fl_X7_79 (by decide) (fun _ _ => ce_55) rfl dX7_write_118 ?_
      refine V_imul hO dX7_write_121 ?_
      refine V_istoreN hO (ls2 := fun v2 => [(8, .int v2), (7, .int s0), (0, .ref (α (55))), (1, .int w1), (2, .int w2), (3, .int w3), (4, .int w4), (5, .int w5)]) dX7_write_122 (by decide) (fun _ => rfl) (fun v2 => ?_)
      refine V_aload_n hO 2 dX7_write_124 rfl rfl ?_
      refine V_get hO (v := .ref (α (58))) fl_X7_16 (by decide) (fun _ _ => ce_55) rfl dX7_write_125 ?_
      refine V_iload hO 0 dX7_write_128 rfl ?_
      refine V_iload_n hO 3 dX7_write_130 rfl rfl ?_
      refine V_chk rfl fun c3 => ?_
      refine V_iast hO (by decide) (fun _ _ _ => ce_58) (inb_in c3) dX7_write_131 (V_name fun h4 => ?_)
      refine V_aload_n hO 2 dX7_write_132 rfl rfl ?_
      refine V_get hO (v := .ref (α (58))) fl_X7_16 (by decide) (fun _ _ => ce_55) rfl dX7_write_133 ?_
      refine V_iload hO 0 dX7_write_136 rfl ?_
      refine V_iconst hO 1 dX7_write_138 (by decide) ?_
      refine V_iadd hO dX7_write_139 ?_
      refine V_iload_n hO 4 dX7_write_140 rfl rfl ?_
      refine V_chk rfl fun c5 => ?_
      refine V_iast hO (by decide) (fun _ _ _ => ce_58) (inb_in c5) dX7_write_141 (V_name fun h6 => ?_)
      refine V_aload_n hO 2 dX7_write_142 rfl rfl ?_
      refine V_get hO (v := .ref (α (58))) fl_X7_16 (by decide) (fun _ _ => ce_55) rfl dX7_write_143 ?_
      refine V_iload hO 0 dX7_write_146 rfl ?_
      refine V_iconst hO 2 dX7_write_148 (by decide) ?_
      refine V_iadd hO dX7_write_149 ?_
      refine V_iload_n hO 5 dX7_write_150 rfl rfl ?_
      refine V_chk rfl fun c7 => ?_
      refine V_iast hO (by decide) (fun _ _ _ => ce_58) (inb_in c7) dX7_write_151 (V_name fun h8 => ?_)
      refine V_aload_n hO 2 dX7_write_152 rfl rfl ?_
      refine V_get hO (v := .ref (α (58))) fl_X7_16 (by decide) (fun _ _ => ce_55) rfl dX7_write_153 ?_
      refine V_iload hO 0 dX7_write_156 rfl ?_
      refine V_iconst hO 3 dX7_write_158 (by decide) ?_
      refine V_iadd hO dX7_write_159 ?_
      refine V_iload hO 6 dX7_write_160 rfl ?_
      refine V_chk rfl fun c9 => ?_
      refine V_iast hO (by decide) (fun _ _ _ => ce_58) (inb_in c9) dX7_write_162 (V_name fun h10 => ?_)
      refine V_aload_n hO 2 dX7_write_163 rfl rfl ?_
      refine V_get hO (v := .ref (α (58))) fl_X7_16 (by decide) (fun _ _ => ce_55) rfl dX7_write_164 ?_
      refine V_iload hO 0 dX7_write_167 rfl ?_
      refine V_iconst hO 4 dX7_write_169 (by decide) ?_
      refine V_iadd hO dX7_write_170 ?_
      refine V_iload hO 7 dX7_write_171 rfl ?_
      refine V_chk rfl fun c11 => ?_
      refine V_iast hO (by decide) (fun _ _ _ => ce_58) (inb_in c11) dX7_write_173 (V_name fun h12 => ?_)
      refine V_aload_n hO 2 dX7_write_174 rfl rfl ?_
      refine V_get hO (v := .ref (α (58))) fl_X7_16 (by decide) (fun _ _ => ce_55) rfl dX7_write_175 ?_
      refine V_iload hO 0 dX7_write_178 rfl ?_
      refine V_iconst hO 5 dX7_write_180 (by decide) ?_
      refine V_iadd hO dX7_write_181 ?_
      refine V_iload hO 1 dX7_write_182 rfl ?_
      refine V_chk rfl fun c13 => ?_
      refine V_iast hO (by decide) (fun _ _ _ => ce_58) (inb_in c13) dX7_write_184 (V_name fun h14 => ?_)
      refine V_aload_n hO 2 dX7_write_185 rfl rfl ?_
      refine V_get hO (v := .ref (α (58))) fl_X7_16 (by decide) (fun _ _ => ce_55) rfl dX7_write_186 ?_
      refine V_iload hO 0 dX7_write_189 rfl ?_
      refine V_bipush hO 6 dX7_write_191 (by decide) ?_
      refine V_iadd hO dX7_write_193 ?_
      refine V_iconst hO 1 dX7_write_194 (by decide) ?_
      refine V_chk rfl fun c15 => ?_
      refine V_iast hO (by decide) (fun _ _ _ => ce_58) (inb_in c15) dX7_write_195 (V_name fun h16 => ?_)
      refine V_aload_n hO 2 dX7_write_196 rfl rfl ?_
      refine V_get hO (v := .ref (α (58))) fl_X7_16 (by decide) (fun _ _ => ce_55) rfl dX7_write_197 ?_
      refine V_iload hO 0 dX7_write_200 rfl ?_
      refine V_bipush hO 7 dX7_write_202 (by decide) ?_
      refine V_iadd hO dX7_write_204 ?_
      refine V_iconst hO 0 dX7_write_205 (by decide) ?_
      refine V_chk rfl fun c17 => ?_
      refine V_iast hO (by decide) (fun _ _ _ => ce_58) (inb_in c17) dX7_write_206 (V_name fun h18 => ?_)
      refine V_aload_n hO 2 dX7_write_207 rfl rfl ?_
      refine V_dup hO dX7_write_208 rfl ?_
      refine V_get hO (v := .int (h18.1 55 6)) fl_X7_79 (by decide) (fun _ _ => ce_55) rfl dX7_write_209 ?_
      refine V_iconst hO 1 dX7_write_212 (by decide) ?_
      refine V_iadd hO dX7_write_213 ?_
      refine V_puti hO fp_X7_79 (by decide) (fun _ _ => ce_55) (Nat.le_of_ble_eq_true rfl) (fun _ _ => pe_55_6) dX7_write_214 (V_name fun h19 => ?_)
      refine V_aload_n hO 2 dX7_write_217 rfl rfl ?_
      refine V_get hO (v := .int (h19.1 55 6)) fl_X7_79 (by decide) (fun _ _ => ce_55) rfl dX7_write_218 ?_
      refine V_iconst hO 1 dX7_write_221 (by decide) ?_
      refine V_isub hO dX7_write_222 ?_
      exact V_iret hO hR rfl dX7_write_223
    · refine V_bipush hO (-104) dX7_write_112 (by decide) ?_
      exact V_iret hO hR rfl dX7_write_114
  · refine V_bipush hO (-103) dX7_write_100 (by decide) ?_
    exact V_iret hO hR rfl dX7_write_102
set_option maxHeartbeats 4000000 in
set_option maxRecDepth 100000 in
theorem T_X7_write {G : Gm} {α : Nat → Nat} (hO : Ok G α cX7_write 9 RX7 2 46) (hR : Rt G α (some .int)) (p1 : Int32) (p2 : Int32) (p3 : Int32) (p4 : Int32) (p5 : Int32) (p6 : Int32) (σ : Hp) : V G α 9 (kSI) 0 [(0, .ref (α (55))), (1, .int p1), (2, .int p2), (3, .int p3), (4, .int p4), (5, .int p5), (6, .int p6)] [] σ (F_X7_write p1 p2 p3 p4 p5 p6 σ) := by
  rw [F_X7_write]
  refine V_aload_n hO 0 dX7_write_0 rfl rfl ?_
  refine V_iload_n hO 2 dX7_write_1 rfl rfl ?_
  refine V_callV hO ml_X7_98 (C_X7_isSquare α p2 σ) (by decide) (fun _ _ => ce_55) rfl rfl (rest := []) rfl rfl (Nat.le_of_ble_eq_true rfl) ⟨Nat.le_of_ble_eq_true rfl, Nat.le_of_ble_eq_true rfl⟩ dX7_write_2 (kc_Z ?_)
  refine V_ifeqZ hO 29 dX7_write_5 (by decide) ?_ ?_
  · refine V_bipush hO (-101) dX7_write_29 (by decide) ?_
    exact V_iret hO hR rfl dX7_write_31
  · refine V_iload_n hO 3 dX7_write_8 rfl rfl ?_
    refine V_callS hO ml_X7_118 (C_X7_isPerson α p3 σ) (rest := []) rfl rfl (Nat.le_of_ble_eq_true rfl) ⟨Nat.le_of_ble_eq_true rfl, Nat.le_of_ble_eq_true rfl⟩ dX7_write_9 (kc_Z ?_)
    refine V_ifeqZ hO 29 dX7_write_12 (by decide) ?_ ?_
    · refine V_bipush hO (-101) dX7_write_29 (by decide) ?_
      exact V_iret hO hR rfl dX7_write_31
    · refine V_iload hO 4 dX7_write_15 rfl ?_
      refine V_callS hO ml_X7_118 (C_X7_isPerson α p4 σ) (rest := []) rfl rfl (Nat.le_of_ble_eq_true rfl) ⟨Nat.le_of_ble_eq_true rfl, Nat.le_of_ble_eq_true rfl⟩ dX7_write_17 (kc_Z ?_)
      refine V_ifeqZ hO 29 dX7_write_20 (by decide) ?_ ?_
      · refine V_bipush hO (-101) dX7_write_29 (by decide) ?_
        exact V_iret hO hR rfl dX7_write_31
      · refine V_iload_n hO 3 dX7_write_23 rfl rfl ?_
        refine V_iload hO 4 dX7_write_24 rfl ?_
        refine V_icmp_ne hO 32 dX7_write_26 (by decide) ?_ ?_
        · refine V_iload_n hO 1 dX7_write_32 rfl rfl ?_
          refine V_i2l hO dX7_write_33 ?_
          refine V_lconst hO 0 dX7_write_34 (by decide) ?_
          refine V_ldc2 hO (v := 4) dX7_write_35 cn_X7_86 ?_
          refine V_callS hO ml_X7_75 (C_X7_in α (Int32.toInt64 p1) (0 : Int64) (4 : Int64) σ) (rest := []) rfl rfl (Nat.le_of_ble_eq_true rfl) ⟨Nat.le_of_ble_eq_true rfl, Nat.le_of_ble_eq_true rfl⟩ dX7_write_38 (kc_Z ?_)
          refine V_ifeqZ hO 70 dX7_write_41 (by decide) ?_ ?_
          · refine V_bipush hO (-102) dX7_write_70 (by decide) ?_
            exact V_iret hO hR rfl dX7_write_72
          · refine V_iload hO 5 dX7_write_44 rfl ?_
            refine V_i2l hO dX7_write_46 ?_
            refine V_lconst hO 1 dX7_write_47 (by decide) ?_
            refine V_ldc2 hO (v := 99) dX7_write_48 cn_X7_101 ?_
            refine V_callS hO ml_X7_75 (C_X7_in α (Int32.toInt64 p5) (1 : Int64) (99 : Int64) σ) (rest := []) rfl rfl (Nat.le_of_ble_eq_true rfl) ⟨Nat.le_of_ble_eq_true rfl, Nat.le_of_ble_eq_true rfl⟩ dX7_write_51 (kc_Z ?_)
            refine V_ifeqZ hO 70 dX7_write_54 (by decide) ?_ ?_
            · refine V_bipush hO (-102) dX7_write_70 (by decide) ?_
              exact V_iret hO hR rfl dX7_write_72
            · refine V_iload hO 6 dX7_write_57 rfl ?_
              refine V_i2l hO dX7_write_59 ?_
              refine V_lconst hO 1 dX7_write_60 (by decide) ?_
              refine V_ldc2 hO (v := 9) dX7_write_61 cn_X7_121 ?_
              refine V_callS hO ml_X7_75 (C_X7_in α (Int32.toInt64 p6) (1 : Int64) (9 : Int64) σ) (rest := []) rfl rfl (Nat.le_of_ble_eq_true rfl) ⟨Nat.le_of_ble_eq_true rfl, Nat.le_of_ble_eq_true rfl⟩ dX7_write_64 (kc_Z ?_)
              refine V_ifneZ hO 73 dX7_write_67 (by decide) ?_ ?_
              · refine V_iload_n hO 1 dX7_write_73 rfl rfl ?_
                refine V_iconst hO 1 dX7_write_74 (by decide) ?_
                refine V_icmp_ne hO 85 dX7_write_75 (by decide) ?_ ?_
                · refine V_iload hO 6 dX7_write_85 rfl ?_
                  exact V_sub [0, 1, 2, 3, 4, 5] rfl (T_X7_write_87 hO hR p1 p2 p3 p4 p5 p6 σ )
                · refine V_iconst hO 2 dX7_write_78 (by decide) ?_
                  refine V_iload hO 6 dX7_write_79 rfl ?_
                  refine V_imul hO dX7_write_81 ?_
                  refine V_goto hO 87 dX7_write_82 (by decide) ?_
                  exact V_sub [0, 1, 2, 3, 4, 5] rfl (T_X7_write_87 hO hR p1 p2 p3 p4 p5 ((2 : Int32) * p6) σ )
              · refine V_bipush hO (-102) dX7_write_70 (by decide) ?_
                exact V_iret hO hR rfl dX7_write_72
        · refine V_bipush hO (-101) dX7_write_29 (by decide) ?_
          exact V_iret hO hR rfl dX7_write_31
set_option maxHeartbeats 4000000 in
set_option maxRecDepth 100000 in
theorem C_X7_write (α : Nat → Nat) (p1 : Int32) (p2 : Int32) (p3 : Int32) (p4 : Int32) (p5 : Int32) (p6 : Int32) (σ : Hp) : Ct yX7_write cX7_write 9 (some .int) 2 46 α [.ref (α (55)), .int p1, .int p2, .int p3, .int p4, .int p5, .int p6] σ (kSI (F_X7_write p1 p2 p3 p4 p5 p6 σ)) := ct_of_V (own := RX7) rfl (by decide +kernel) (Nat.le_of_ble_eq_true rfl) fun _ hO hR => T_X7_write hO hR p1 p2 p3 p4 p5 p6 σ
/-! X7_worthOf -/
noncomputable def F_X7_worthOf_75 (σ : Hp) (w2 : Int32) (w3 : Int32) (s0 : Int32) (s1 : Int32) : Option Int32 :=
  lt (s1 + s0) fun v1 =>
  if w3 = 0 then
  some (0 : Int32)
  else
  if w3 = (2 : Int32) then
  if inb (w2 + (7 : Int32)) 80 = true then
  some (σ.1 58 (Int32.toNatClampNeg (w2 + (7 : Int32))))
  else none
  else
  some v1
noncomputable def F_X7_worthOf_40 (σ : Hp) (w2 : Int32) (w3 : Int32) (s0 : Bool) : Option Int32 :=
  if inb (w2 + (4 : Int32)) 80 = true then
  if s0 = true then
  if inb (w2 + (1 : Int32)) 80 = true then
  if inb (σ.1 58 (Int32.toNatClampNeg (w2 + (1 : Int32)))) 16 = true then
  F_X7_worthOf_75 σ w2 w3 ((σ.1 56 (Int32.toNatClampNeg (σ.1 58 (Int32.toNatClampNeg (w2 + (1 : Int32)))))) / (10 : Int32)) (σ.1 58 (Int32.toNatClampNeg (w2 + (4 : Int32))))
  else none
  else none
  else
  F_X7_worthOf_75 σ w2 w3 (0 : Int32) (σ.1 58 (Int32.toNatClampNeg (w2 + (4 : Int32))))
  else none
noncomputable def F_X7_worthOf  (p1 : Int32) (σ : Hp) : Option Int32 :=
  lt ((8 : Int32) * p1) fun v6 =>
  if inb (v6 + (6 : Int32)) 80 = true then
  lt (σ.1 58 (Int32.toNatClampNeg (v6 + (6 : Int32)))) fun v8 =>
  if inb v6 80 = true then
  if (σ.1 58 (Int32.toNatClampNeg v6)) = (2 : Int32) then
  F_X7_worthOf_40 σ v6 v8 true
  else
  if inb v6 80 = true then
  if (σ.1 58 (Int32.toNatClampNeg v6)) = (4 : Int32) then
  F_X7_worthOf_40 σ v6 v8 true
  else
  F_X7_worthOf_40 σ v6 v8 false
  else none
  else none
  else none
set_option maxHeartbeats 4000000 in
set_option maxRecDepth 100000 in
theorem T_X7_worthOf_75 {G : Gm} {α : Nat → Nat} (hO : Ok G α cX7_worthOf 6 RX7 0 0) (hR : Rt G α (some .int)) (σ : Hp) : ∀ (w2 : Int32) (w3 : Int32) (s0 : Int32) (s1 : Int32), V G α 6 (kOI σ) 75 [(0, .ref (α (55))), (2, .int w2), (3, .int w3)] [.int s0, .int s1] σ (F_X7_worthOf_75 σ w2 w3 s0 s1) := by
  intro w2 w3 s0 s1
  rw [F_X7_worthOf_75]
  refine V_iadd hO dX7_worthOf_75 ?_
  refine V_istoreN hO (ls2 := fun v1 => [(5, .int v1), (0, .ref (α (55))), (2, .int w2), (3, .int w3)]) dX7_worthOf_76 (by decide) (fun _ => rfl) (fun v1 => ?_)
  refine V_iload_n hO 3 dX7_worthOf_78 rfl rfl ?_
  refine V_if_ne hO 86 dX7_worthOf_79 (by decide) ?_ ?_
  · refine V_iload_n hO 3 dX7_worthOf_86 rfl rfl ?_
    refine V_iconst hO 2 dX7_worthOf_87 (by decide) ?_
    refine V_icmp_ne hO 103 dX7_worthOf_88 (by decide) ?_ ?_
    · refine V_iload hO 0 dX7_worthOf_103 rfl ?_
      exact V_iret hO hR rfl dX7_worthOf_105
    · refine V_aload_n hO 1 dX7_worthOf_91 rfl rfl ?_
      refine V_get hO (v := .ref (α (58))) fl_X7_16 (by decide) (fun _ _ => ce_55) rfl dX7_worthOf_92 ?_
      refine V_iload_n hO 2 dX7_worthOf_95 rfl rfl ?_
      refine V_bipush hO 7 dX7_worthOf_96 (by decide) ?_
      refine V_iadd hO dX7_worthOf_98 ?_
      refine V_chk rfl fun c2 => ?_
      refine V_iald hO (by decide) (fun _ _ => ce_58) (inb_in c2) dX7_worthOf_99 ?_
      refine V_goto hO 105 dX7_worthOf_100 (by decide) ?_
      exact V_iret hO hR rfl dX7_worthOf_105
  · refine V_iconst hO 0 dX7_worthOf_82 (by decide) ?_
    refine V_goto hO 105 dX7_worthOf_83 (by decide) ?_
    exact V_iret hO hR rfl dX7_worthOf_105
set_option maxHeartbeats 4000000 in
set_option maxRecDepth 100000 in
theorem T_X7_worthOf_40 {G : Gm} {α : Nat → Nat} (hO : Ok G α cX7_worthOf 6 RX7 0 0) (hR : Rt G α (some .int)) (σ : Hp) : ∀ (w2 : Int32) (w3 : Int32) (s0 : Bool), V G α 6 (kOI σ) 40 [(0, .ref (α (55))), (2, .int w2), (3, .int w3)] [.int (b2i s0)] σ (F_X7_worthOf_40 σ w2 w3 s0) := by
  intro w2 w3 s0
  rw [F_X7_worthOf_40]
  refine V_istore hO (ls2 := [(4, .int (b2i s0)), (0, .ref (α (55))), (2, .int w2), (3, .int w3)]) dX7_worthOf_40 (by decide) rfl ?_
  refine V_aload_n hO 1 dX7_worthOf_42 rfl rfl ?_
  refine V_get hO (v := .ref (α (58))) fl_X7_16 (by decide) (fun _ _ => ce_55) rfl dX7_worthOf_43 ?_
  refine V_iload_n hO 2 dX7_worthOf_46 rfl rfl ?_
  refine V_iconst hO 4 dX7_worthOf_47 (by decide) ?_
  refine V_iadd hO dX7_worthOf_48 ?_
  refine V_chk rfl fun c3 => ?_
  refine V_iald hO (by decide) (fun _ _ => ce_58) (inb_in c3) dX7_worthOf_49 ?_
  refine V_iload hO 0 dX7_worthOf_50 rfl ?_
  refine V_ifeqZ hO 74 dX7_worthOf_52 (by decide) ?_ ?_
  · refine V_iconst hO 0 dX7_worthOf_74 (by decide) ?_
    exact V_sub [1, 2, 3] rfl (T_X7_worthOf_75 hO hR σ w2 w3 (0 : Int32) (σ.1 58 (Int32.toNatClampNeg (w2 + (4 : Int32)))) )
  · refine V_aload_n hO 1 dX7_worthOf_55 rfl rfl ?_
    refine V_get hO (v := .ref (α (56))) fl_X7_7 (by decide) (fun _ _ => ce_55) rfl dX7_worthOf_56 ?_
    refine V_aload_n hO 1 dX7_worthOf_59 rfl rfl ?_
    refine V_get hO (v := .ref (α (58))) fl_X7_16 (by decide) (fun _ _ => ce_55) rfl dX7_worthOf_60 ?_
    refine V_iload_n hO 2 dX7_worthOf_63 rfl rfl ?_
    refine V_iconst hO 1 dX7_worthOf_64 (by decide) ?_
    refine V_iadd hO dX7_worthOf_65 ?_
    refine V_chk rfl fun c4 => ?_
    refine V_iald hO (by decide) (fun _ _ => ce_58) (inb_in c4) dX7_worthOf_66 ?_
    refine V_chk rfl fun c5 => ?_
    refine V_iald hO (by decide) (fun _ _ => ce_56) (inb_in c5) dX7_worthOf_67 ?_
    refine V_bipush hO 10 dX7_worthOf_68 (by decide) ?_
    refine V_idiv hO dX7_worthOf_70 (by decide) ?_
    refine V_goto hO 75 dX7_worthOf_71 (by decide) ?_
    exact V_sub [1, 2, 3] rfl (T_X7_worthOf_75 hO hR σ w2 w3 ((σ.1 56 (Int32.toNatClampNeg (σ.1 58 (Int32.toNatClampNeg (w2 + (1 : Int32)))))) / (10 : Int32)) (σ.1 58 (Int32.toNatClampNeg (w2 + (4 : Int32)))) )
set_option maxHeartbeats 4000000 in
set_option maxRecDepth 100000 in
theorem T_X7_worthOf {G : Gm} {α : Nat → Nat} (hO : Ok G α cX7_worthOf 6 RX7 0 0) (hR : Rt G α (some .int)) (p1 : Int32) (σ : Hp) : V G α 6 (kOI σ) 0 [(0, .ref (α (55))), (1, .int p1)] [] σ (F_X7_worthOf p1 σ) := by
  rw [F_X7_worthOf]
  refine V_bipush hO 8 dX7_worthOf_0 (by decide) ?_
  refine V_iload_n hO 1 dX7_worthOf_2 rfl rfl ?_
  refine V_imul hO dX7_worthOf_3 ?_
  refine V_istore_nN hO (ls2 := fun v6 => [(2, .int v6), (0, .ref (α (55))), (1, .int p1)]) dX7_worthOf_4 rfl (by decide) (fun _ => rfl) (fun v6 => ?_)
  refine V_aload_n hO 1 dX7_worthOf_5 rfl rfl ?_
  refine V_get hO (v := .ref (α (58))) fl_X7_16 (by decide) (fun _ _ => ce_55) rfl dX7_worthOf_6 ?_
  refine V_iload_n hO 0 dX7_worthOf_9 rfl rfl ?_
  refine V_bipush hO 6 dX7_worthOf_10 (by decide) ?_
  refine V_iadd hO dX7_worthOf_12 ?_
  refine V_chk rfl fun c7 => ?_
  refine V_iald hO (by decide) (fun _ _ => ce_58) (inb_in c7) dX7_worthOf_13 ?_
  refine V_istore_nN hO (ls2 := fun v8 => [(3, .int v8), (2, .int v6), (0, .ref (α (55))), (1, .int p1)]) dX7_worthOf_14 rfl (by decide) (fun _ => rfl) (fun v8 => ?_)
  refine V_aload_n hO 2 dX7_worthOf_15 rfl rfl ?_
  refine V_get hO (v := .ref (α (58))) fl_X7_16 (by decide) (fun _ _ => ce_55) rfl dX7_worthOf_16 ?_
  refine V_iload_n hO 1 dX7_worthOf_19 rfl rfl ?_
  refine V_chk rfl fun c9 => ?_
  refine V_iald hO (by decide) (fun _ _ => ce_58) (inb_in c9) dX7_worthOf_20 ?_
  refine V_iconst hO 2 dX7_worthOf_21 (by decide) ?_
  refine V_icmp_eq hO 35 dX7_worthOf_22 (by decide) ?_ ?_
  · refine V_iconst hO 1 dX7_worthOf_35 (by decide) ?_
    refine V_goto hO 40 dX7_worthOf_36 (by decide) ?_
    exact V_sub [2, 1, 0] rfl (T_X7_worthOf_40 hO hR σ v6 v8 true )
  · refine V_aload_n hO 2 dX7_worthOf_25 rfl rfl ?_
    refine V_get hO (v := .ref (α (58))) fl_X7_16 (by decide) (fun _ _ => ce_55) rfl dX7_worthOf_26 ?_
    refine V_iload_n hO 1 dX7_worthOf_29 rfl rfl ?_
    refine V_chk rfl fun c10 => ?_
    refine V_iald hO (by decide) (fun _ _ => ce_58) (inb_in c10) dX7_worthOf_30 ?_
    refine V_iconst hO 4 dX7_worthOf_31 (by decide) ?_
    refine V_icmp_ne hO 39 dX7_worthOf_32 (by decide) ?_ ?_
    · refine V_iconst hO 0 dX7_worthOf_39 (by decide) ?_
      exact V_sub [2, 1, 0] rfl (T_X7_worthOf_40 hO hR σ v6 v8 false )
    · refine V_iconst hO 1 dX7_worthOf_35 (by decide) ?_
      refine V_goto hO 40 dX7_worthOf_36 (by decide) ?_
      exact V_sub [2, 1, 0] rfl (T_X7_worthOf_40 hO hR σ v6 v8 true )
set_option maxHeartbeats 4000000 in
set_option maxRecDepth 100000 in
theorem C_X7_worthOf (α : Nat → Nat) (p1 : Int32) (σ : Hp) : Ct yX7_worthOf cX7_worthOf 6 (some .int) 0 0 α [.ref (α (55)), .int p1] σ (kOI σ (F_X7_worthOf p1 σ)) := ct_of_V (own := RX7) rfl (by decide +kernel) (Nat.le_of_ble_eq_true rfl) fun _ hO hR => T_X7_worthOf hO hR p1 σ
