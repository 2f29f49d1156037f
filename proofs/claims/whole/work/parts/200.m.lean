/-! X0_depthOf -/
noncomputable def F_X0_depthOf  (p1 : Int32) (p2 : Int32) (σ : Hp) : Int32 :=
  if p1 = (1 : Int32) then
  ((2 : Int32) * p2)
  else
  p2
set_option maxHeartbeats 4000000 in
set_option maxRecDepth 100000 in
theorem T_X0_depthOf {G : Gm} {α : Nat → Nat} (hO : Ok G α cX0_depthOf 2 RX0 0 0) (hR : Rt G α (some .int)) (p1 : Int32) (p2 : Int32) (σ : Hp) : V G α 2 (kI σ) 0 [(0, .int p1), (1, .int p2)] [] σ (F_X0_depthOf p1 p2 σ) := by
  rw [F_X0_depthOf]
  refine V_iload_n hO 0 dX0_depthOf_0 rfl rfl ?_
  refine V_iconst hO 1 dX0_depthOf_1 (by decide) ?_
  refine V_icmp_ne hO 11 dX0_depthOf_2 (by decide) ?_ ?_
  · refine V_iload_n hO 1 dX0_depthOf_11 rfl rfl ?_
    exact V_iret hO hR rfl dX0_depthOf_12
  · refine V_iconst hO 2 dX0_depthOf_5 (by decide) ?_
    refine V_iload_n hO 1 dX0_depthOf_6 rfl rfl ?_
    refine V_imul hO dX0_depthOf_7 ?_
    refine V_goto hO 12 dX0_depthOf_8 (by decide) ?_
    exact V_iret hO hR rfl dX0_depthOf_12
set_option maxHeartbeats 4000000 in
set_option maxRecDepth 100000 in
theorem C_X0_depthOf (α : Nat → Nat) (p1 : Int32) (p2 : Int32) (σ : Hp) : Ct yX0_depthOf cX0_depthOf 2 (some .int) 0 0 α [.int p1, .int p2] σ (kI σ (F_X0_depthOf p1 p2 σ)) := ct_of_V (own := RX0) rfl (by decide +kernel) (Nat.le_of_ble_eq_true rfl) fun _ hO hR => T_X0_depthOf hO hR p1 p2 σ
/-! X0_isOfKind -/
noncomputable def F_X0_isOfKind  (p1 : Int32) (p2 : Int32) (σ : Hp) : Bool :=
  if p2 = 0 then
  true
  else
  if p1 = p2 then
  true
  else
  if p2 = (2 : Int32) then
  if p1 = (4 : Int32) then
  true
  else
  false
  else
  false
set_option maxHeartbeats 4000000 in
set_option maxRecDepth 100000 in
theorem T_X0_isOfKind {G : Gm} {α : Nat → Nat} (hO : Ok G α cX0_isOfKind 2 RX0 0 0) (hR : Rt G α (some .boolean)) (p1 : Int32) (p2 : Int32) (σ : Hp) : V G α 2 (kZ σ) 0 [(0, .int p1), (1, .int p2)] [] σ (F_X0_isOfKind p1 p2 σ) := by
  rw [F_X0_isOfKind]
  refine V_iload_n hO 1 dX0_isOfKind_0 rfl rfl ?_
  refine V_if_eq hO 19 dX0_isOfKind_1 (by decide) ?_ ?_
  · refine V_iconst hO 1 dX0_isOfKind_19 (by decide) ?_
    refine V_goto hO 24 dX0_isOfKind_20 (by decide) ?_
    exact V_zret hO hR (by decide) rfl dX0_isOfKind_24
  · refine V_iload_n hO 0 dX0_isOfKind_4 rfl rfl ?_
    refine V_iload_n hO 1 dX0_isOfKind_5 rfl rfl ?_
    refine V_icmp_eq hO 19 dX0_isOfKind_6 (by decide) ?_ ?_
    · refine V_iconst hO 1 dX0_isOfKind_19 (by decide) ?_
      refine V_goto hO 24 dX0_isOfKind_20 (by decide) ?_
      exact V_zret hO hR (by decide) rfl dX0_isOfKind_24
    · refine V_iload_n hO 1 dX0_isOfKind_9 rfl rfl ?_
      refine V_iconst hO 2 dX0_isOfKind_10 (by decide) ?_
      refine V_icmp_ne hO 23 dX0_isOfKind_11 (by decide) ?_ ?_
      · refine V_iconst hO 0 dX0_isOfKind_23 (by decide) ?_
        exact V_zret hO hR (by decide) rfl dX0_isOfKind_24
      · refine V_iload_n hO 0 dX0_isOfKind_14 rfl rfl ?_
        refine V_iconst hO 4 dX0_isOfKind_15 (by decide) ?_
        refine V_icmp_ne hO 23 dX0_isOfKind_16 (by decide) ?_ ?_
        · refine V_iconst hO 0 dX0_isOfKind_23 (by decide) ?_
          exact V_zret hO hR (by decide) rfl dX0_isOfKind_24
        · refine V_iconst hO 1 dX0_isOfKind_19 (by decide) ?_
          refine V_goto hO 24 dX0_isOfKind_20 (by decide) ?_
          exact V_zret hO hR (by decide) rfl dX0_isOfKind_24
set_option maxHeartbeats 4000000 in
set_option maxRecDepth 100000 in
theorem C_X0_isOfKind (α : Nat → Nat) (p1 : Int32) (p2 : Int32) (σ : Hp) : Ct yX0_isOfKind cX0_isOfKind 2 (some .boolean) 0 0 α [.int p1, .int p2] σ (kZ σ (F_X0_isOfKind p1 p2 σ)) := ct_of_V (own := RX0) rfl (by decide +kernel) (Nat.le_of_ble_eq_true rfl) fun _ hO hR => T_X0_isOfKind hO hR p1 p2 σ
/-! X0_cutBehindThaw -/
noncomputable def F_X0_cutBehindThaw_25 (σ : Hp) (w1 : Int32) (s0 : Int32) : Int32 :=
  (imax (0 : Int32) (w1 - s0))
noncomputable def F_X0_cutBehindThaw  (p1 : Int32) (p2 : Int32) (p3 : Int32) (p4 : Int32) (σ : Hp) : Int32 :=
  if p1 = (3 : Int32) then
  (0 : Int32)
  else
  if p4 = 0 then
  (0 : Int32)
  else
  if p1 = (4 : Int32) then
  F_X0_cutBehindThaw_25 σ p2 ((p3 + (1 : Int32)) / (2 : Int32))
  else
  F_X0_cutBehindThaw_25 σ p2 p3
set_option maxHeartbeats 4000000 in
set_option maxRecDepth 100000 in
theorem T_X0_cutBehindThaw_25 {G : Gm} {α : Nat → Nat} (hO : Ok G α cX0_cutBehindThaw 5 RX0 1 21) (hR : Rt G α (some .int)) (σ : Hp) : ∀ (w1 : Int32) (s0 : Int32), V G α 5 (kI σ) 25 [(1, .int w1)] [.int s0] σ (F_X0_cutBehindThaw_25 σ w1 s0) := by
  intro w1 s0
  rw [F_X0_cutBehindThaw_25]
  refine V_istore hO (ls2 := [(4, .int s0), (1, .int w1)]) dX0_cutBehindThaw_25 (by decide) rfl ?_
  refine V_iconst hO 0 dX0_cutBehindThaw_27 (by decide) ?_
  refine V_iload_n hO 1 dX0_cutBehindThaw_28 rfl rfl ?_
  refine V_iload hO 0 dX0_cutBehindThaw_29 rfl ?_
  refine V_isub hO dX0_cutBehindThaw_31 ?_
  refine V_mmax hO mm_X0_9 (Nat.le_of_ble_eq_true rfl) ⟨by decide, by decide⟩ dX0_cutBehindThaw_32 ?_
  exact V_iret hO hR rfl dX0_cutBehindThaw_35
set_option maxHeartbeats 4000000 in
set_option maxRecDepth 100000 in
theorem T_X0_cutBehindThaw {G : Gm} {α : Nat → Nat} (hO : Ok G α cX0_cutBehindThaw 5 RX0 1 21) (hR : Rt G α (some .int)) (p1 : Int32) (p2 : Int32) (p3 : Int32) (p4 : Int32) (σ : Hp) : V G α 5 (kI σ) 0 [(0, .int p1), (1, .int p2), (2, .int p3), (3, .int p4)] [] σ (F_X0_cutBehindThaw p1 p2 p3 p4 σ) := by
  rw [F_X0_cutBehindThaw]
  refine V_iload_n hO 0 dX0_cutBehindThaw_0 rfl rfl ?_
  refine V_iconst hO 3 dX0_cutBehindThaw_1 (by decide) ?_
  refine V_icmp_eq hO 9 dX0_cutBehindThaw_2 (by decide) ?_ ?_
  · refine V_iconst hO 0 dX0_cutBehindThaw_9 (by decide) ?_
    exact V_iret hO hR rfl dX0_cutBehindThaw_10
  · refine V_iload_n hO 3 dX0_cutBehindThaw_5 rfl rfl ?_
    refine V_if_ne hO 11 dX0_cutBehindThaw_6 (by decide) ?_ ?_
    · refine V_iload_n hO 0 dX0_cutBehindThaw_11 rfl rfl ?_
      refine V_iconst hO 4 dX0_cutBehindThaw_12 (by decide) ?_
      refine V_icmp_ne hO 24 dX0_cutBehindThaw_13 (by decide) ?_ ?_
      · refine V_iload_n hO 2 dX0_cutBehindThaw_24 rfl rfl ?_
        exact V_sub [1] rfl (T_X0_cutBehindThaw_25 hO hR σ p2 p3 )
      · refine V_iload_n hO 2 dX0_cutBehindThaw_16 rfl rfl ?_
        refine V_iconst hO 1 dX0_cutBehindThaw_17 (by decide) ?_
        refine V_iadd hO dX0_cutBehindThaw_18 ?_
        refine V_iconst hO 2 dX0_cutBehindThaw_19 (by decide) ?_
        refine V_idiv hO dX0_cutBehindThaw_20 (by decide) ?_
        refine V_goto hO 25 dX0_cutBehindThaw_21 (by decide) ?_
        exact V_sub [1] rfl (T_X0_cutBehindThaw_25 hO hR σ p2 ((p3 + (1 : Int32)) / (2 : Int32)) )
    · refine V_iconst hO 0 dX0_cutBehindThaw_9 (by decide) ?_
      exact V_iret hO hR rfl dX0_cutBehindThaw_10
set_option maxHeartbeats 4000000 in
set_option maxRecDepth 100000 in
theorem C_X0_cutBehindThaw (α : Nat → Nat) (p1 : Int32) (p2 : Int32) (p3 : Int32) (p4 : Int32) (σ : Hp) : Ct yX0_cutBehindThaw cX0_cutBehindThaw 5 (some .int) 1 21 α [.int p1, .int p2, .int p3, .int p4] σ (kI σ (F_X0_cutBehindThaw p1 p2 p3 p4 σ)) := ct_of_V (own := RX0) rfl (by decide +kernel) (Nat.le_of_ble_eq_true rfl) fun _ hO hR => T_X0_cutBehindThaw hO hR p1 p2 p3 p4 σ
/-! X0_concern -/
noncomputable def F_X0_concern (c : Nat) (p1 : Int32) (p2 : Int32) (p3 : Int32) (p4 : Int32) (σ : Hp) : Hp :=
  lt (up σ c 0 p1) fun h1 =>
  lt (up h1 c 1 p2) fun h2 =>
  lt (up h2 c 2 p3) fun h3 =>
  lt (up h3 c 3 p4) fun h4 =>
  h4
set_option maxHeartbeats 4000000 in
set_option maxRecDepth 100000 in
theorem T_X0_concern {G : Gm} {α : Nat → Nat} {c : Nat} (hO : Ok G α cX0_concern 5 RX0 0 0) (hR : Rt G α none) (hc : c < 30) (p1 : Int32) (p2 : Int32) (p3 : Int32) (p4 : Int32) (σ : Hp) : V G α 5 (kTV) 0 [(0, .ref (α (c))), (1, .int p1), (2, .int p2), (3, .int p3), (4, .int p4)] [] σ (F_X0_concern c p1 p2 p3 p4 σ) := by
  rw [F_X0_concern]
  refine V_aload_n hO 0 dX0_concern_0 rfl rfl ?_
  refine V_iload_n hO 1 dX0_concern_1 rfl rfl ?_
  refine V_puti hO fp_X0_15 (Nat.lt_trans hc (by decide)) (fun _ _ => ce_debt hc) (Nat.le_of_ble_eq_true rfl) (fun _ _ => pe_debt0 hc) dX0_concern_2 (V_name fun h1 => ?_)
  refine V_aload_n hO 0 dX0_concern_5 rfl rfl ?_
  refine V_iload_n hO 2 dX0_concern_6 rfl rfl ?_
  refine V_puti hO fp_X0_21 (Nat.lt_trans hc (by decide)) (fun _ _ => ce_debt hc) (Nat.le_of_ble_eq_true rfl) (fun _ _ => pe_debt1 hc) dX0_concern_7 (V_name fun h2 => ?_)
  refine V_aload_n hO 0 dX0_concern_10 rfl rfl ?_
  refine V_iload_n hO 3 dX0_concern_11 rfl rfl ?_
  refine V_puti hO fp_X0_24 (Nat.lt_trans hc (by decide)) (fun _ _ => ce_debt hc) (Nat.le_of_ble_eq_true rfl) (fun _ _ => pe_debt2 hc) dX0_concern_12 (V_name fun h3 => ?_)
  refine V_aload_n hO 0 dX0_concern_15 rfl rfl ?_
  refine V_iload hO 4 dX0_concern_16 rfl ?_
  refine V_puti hO fp_X0_27 (Nat.lt_trans hc (by decide)) (fun _ _ => ce_debt hc) (Nat.le_of_ble_eq_true rfl) (fun _ _ => pe_debt3 hc) dX0_concern_18 (V_name fun h4 => ?_)
  exact V_vret hO hR rfl dX0_concern_21
set_option maxHeartbeats 4000000 in
set_option maxRecDepth 100000 in
theorem C_X0_concern (α : Nat → Nat) {c : Nat} (hc : c < 30) (p1 : Int32) (p2 : Int32) (p3 : Int32) (p4 : Int32) (σ : Hp) : Ct yX0_concern cX0_concern 5 none 0 0 α [.ref (α (c)), .int p1, .int p2, .int p3, .int p4] σ (kTV (F_X0_concern c p1 p2 p3 p4 σ)) := ct_of_V (own := RX0) rfl (by decide +kernel) (Nat.le_of_ble_eq_true rfl) fun _ hO hR => T_X0_concern hO hR hc p1 p2 p3 p4 σ
/-! X0_cutIn -/
noncomputable def F_X0_cutIn (c : Nat) (p1 : Int32) (p2 : Int32) (σ : Hp) : Hp :=
  lt (up σ c 4 p1) fun h1 =>
  lt (up h1 c 5 p2) fun h2 =>
  lt (up h2 c 6 (0 : Int32)) fun h3 =>
  lt (up h3 c 7 (0 : Int32)) fun h4 =>
  h4
set_option maxHeartbeats 4000000 in
set_option maxRecDepth 100000 in
theorem T_X0_cutIn {G : Gm} {α : Nat → Nat} {c : Nat} (hO : Ok G α cX0_cutIn 3 RX0 0 0) (hR : Rt G α none) (hc : c < 30) (p1 : Int32) (p2 : Int32) (σ : Hp) : V G α 3 (kTV) 0 [(0, .ref (α (c))), (1, .int p1), (2, .int p2)] [] σ (F_X0_cutIn c p1 p2 σ) := by
  rw [F_X0_cutIn]
  refine V_aload_n hO 0 dX0_cutIn_0 rfl rfl ?_
  refine V_iload_n hO 1 dX0_cutIn_1 rfl rfl ?_
  refine V_puti hO fp_X0_30 (Nat.lt_trans hc (by decide)) (fun _ _ => ce_debt hc) (Nat.le_of_ble_eq_true rfl) (fun _ _ => pe_debt4 hc) dX0_cutIn_2 (V_name fun h1 => ?_)
  refine V_aload_n hO 0 dX0_cutIn_5 rfl rfl ?_
  refine V_iload_n hO 2 dX0_cutIn_6 rfl rfl ?_
  refine V_puti hO fp_X0_33 (Nat.lt_trans hc (by decide)) (fun _ _ => ce_debt hc) (Nat.le_of_ble_eq_true rfl) (fun _ _ => pe_debt5 hc) dX0_cutIn_7 (V_name fun h2 => ?_)
  refine V_aload_n hO 0 dX0_cutIn_10 rfl rfl ?_
  refine V_iconst hO 0 dX0_cutIn_11 (by decide) ?_
  refine V_putz hO fp_X0_36 (Nat.lt_trans hc (by decide)) (fun _ _ => ce_debt hc) (Nat.le_of_ble_eq_true rfl) (by decide) (fun _ _ => pe_debt6 hc) dX0_cutIn_12 (V_name fun h3 => ?_)
  refine V_aload_n hO 0 dX0_cutIn_15 rfl rfl ?_
  refine V_iconst hO 0 dX0_cutIn_16 (by decide) ?_
  refine V_puti hO fp_X0_40 (Nat.lt_trans hc (by decide)) (fun _ _ => ce_debt hc) (Nat.le_of_ble_eq_true rfl) (fun _ _ => pe_debt7 hc) dX0_cutIn_17 (V_name fun h4 => ?_)
  exact V_vret hO hR rfl dX0_cutIn_20
set_option maxHeartbeats 4000000 in
set_option maxRecDepth 100000 in
theorem C_X0_cutIn (α : Nat → Nat) {c : Nat} (hc : c < 30) (p1 : Int32) (p2 : Int32) (σ : Hp) : Ct yX0_cutIn cX0_cutIn 3 none 0 0 α [.ref (α (c)), .int p1, .int p2] σ (kTV (F_X0_cutIn c p1 p2 σ)) := ct_of_V (own := RX0) rfl (by decide +kernel) (Nat.le_of_ble_eq_true rfl) fun _ hO hR => T_X0_cutIn hO hR hc p1 p2 σ
/-! X0_keepBlock -/
noncomputable def F_X0_keepBlock (c : Nat) (p1 : Int32) (σ : Hp) : Hp :=
  lt (up σ c 6 (1 : Int32)) fun h1 =>
  lt (up h1 c 7 p1) fun h2 =>
  h2
set_option maxHeartbeats 4000000 in
set_option maxRecDepth 100000 in
theorem T_X0_keepBlock {G : Gm} {α : Nat → Nat} {c : Nat} (hO : Ok G α cX0_keepBlock 2 RX0 0 0) (hR : Rt G α none) (hc : c < 30) (p1 : Int32) (σ : Hp) : V G α 2 (kTV) 0 [(0, .ref (α (c))), (1, .int p1)] [] σ (F_X0_keepBlock c p1 σ) := by
  rw [F_X0_keepBlock]
  refine V_aload_n hO 0 dX0_keepBlock_0 rfl rfl ?_
  refine V_iconst hO 1 dX0_keepBlock_1 (by decide) ?_
  refine V_putz hO fp_X0_36 (Nat.lt_trans hc (by decide)) (fun _ _ => ce_debt hc) (Nat.le_of_ble_eq_true rfl) (by decide) (fun _ _ => pe_debt6 hc) dX0_keepBlock_2 (V_name fun h1 => ?_)
  refine V_aload_n hO 0 dX0_keepBlock_5 rfl rfl ?_
  refine V_iload_n hO 1 dX0_keepBlock_6 rfl rfl ?_
  refine V_puti hO fp_X0_40 (Nat.lt_trans hc (by decide)) (fun _ _ => ce_debt hc) (Nat.le_of_ble_eq_true rfl) (fun _ _ => pe_debt7 hc) dX0_keepBlock_7 (V_name fun h2 => ?_)
  exact V_vret hO hR rfl dX0_keepBlock_10
set_option maxHeartbeats 4000000 in
set_option maxRecDepth 100000 in
theorem C_X0_keepBlock (α : Nat → Nat) {c : Nat} (hc : c < 30) (p1 : Int32) (σ : Hp) : Ct yX0_keepBlock cX0_keepBlock 2 none 0 0 α [.ref (α (c)), .int p1] σ (kTV (F_X0_keepBlock c p1 σ)) := ct_of_V (own := RX0) rfl (by decide +kernel) (Nat.le_of_ble_eq_true rfl) fun _ hO hR => T_X0_keepBlock hO hR hc p1 σ
/-! X0_copyFrom -/
noncomputable def F_X0_copyFrom (c : Nat) (d : Nat) (σ : Hp) : Option Hp :=
  lt (F_X0_concern c (σ.1 d 0) (σ.1 d 1) (σ.1 d 2) (σ.1 d 3) σ) fun q1 =>
  lt (F_X0_cutIn c (q1.1 d 4) (q1.1 d 5) q1) fun q2 =>
  if isB (q2.1 d 6) = true then
  lt (up q2 c 6 (q2.1 d 6)) fun h3 =>
  lt (up h3 c 7 (h3.1 d 7)) fun h4 =>
  some h4
  else none
set_option maxHeartbeats 4000000 in
set_option maxRecDepth 100000 in
theorem T_X0_copyFrom {G : Gm} {α : Nat → Nat} {c : Nat} {d : Nat} (hO : Ok G α cX0_copyFrom 2 RX0 1 24) (hR : Rt G α none) (hc : c < 30) (hd : d < 30) (σ : Hp) : V G α 2 (kSV) 0 [(0, .ref (α (c))), (1, .ref (α (d)))] [] σ (F_X0_copyFrom c d σ) := by
  rw [F_X0_copyFrom]
  refine V_aload_n hO 0 dX0_copyFrom_0 rfl rfl ?_
  refine V_aload_n hO 1 dX0_copyFrom_1 rfl rfl ?_
  refine V_get hO (v := .int (σ.1 d 0)) fl_X0_15 (Nat.lt_trans hd (by decide)) (fun _ _ => ce_debt hd) rfl dX0_copyFrom_2 ?_
  refine V_aload_n hO 1 dX0_copyFrom_5 rfl rfl ?_
  refine V_get hO (v := .int (σ.1 d 1)) fl_X0_21 (Nat.lt_trans hd (by decide)) (fun _ _ => ce_debt hd) rfl dX0_copyFrom_6 ?_
  refine V_aload_n hO 1 dX0_copyFrom_9 rfl rfl ?_
  refine V_get hO (v := .int (σ.1 d 2)) fl_X0_24 (Nat.lt_trans hd (by decide)) (fun _ _ => ce_debt hd) rfl dX0_copyFrom_10 ?_
  refine V_aload_n hO 1 dX0_copyFrom_13 rfl rfl ?_
  refine V_get hO (v := .int (σ.1 d 3)) fl_X0_27 (Nat.lt_trans hd (by decide)) (fun _ _ => ce_debt hd) rfl dX0_copyFrom_14 ?_
  refine V_callV hO ml_X0_43 (C_X0_concern α (c := c) hc (σ.1 d 0) (σ.1 d 1) (σ.1 d 2) (σ.1 d 3) σ) (Nat.lt_trans hc (by decide)) (fun _ _ => ce_debt hc) rfl rfl (rest := []) rfl rfl (Nat.le_of_ble_eq_true rfl) ⟨Nat.le_of_ble_eq_true rfl, Nat.le_of_ble_eq_true rfl⟩ dX0_copyFrom_17 (kc_TV fun q1 => ?_)
  refine V_aload_n hO 0 dX0_copyFrom_20 rfl rfl ?_
  refine V_aload_n hO 1 dX0_copyFrom_21 rfl rfl ?_
  refine V_get hO (v := .int (q1.1 d 4)) fl_X0_30 (Nat.lt_trans hd (by decide)) (fun _ _ => ce_debt hd) rfl dX0_copyFrom_22 ?_
  refine V_aload_n hO 1 dX0_copyFrom_25 rfl rfl ?_
  refine V_get hO (v := .int (q1.1 d 5)) fl_X0_33 (Nat.lt_trans hd (by decide)) (fun _ _ => ce_debt hd) rfl dX0_copyFrom_26 ?_
  refine V_callV hO ml_X0_47 (C_X0_cutIn α (c := c) hc (q1.1 d 4) (q1.1 d 5) q1) (Nat.lt_trans hc (by decide)) (fun _ _ => ce_debt hc) rfl rfl (rest := []) rfl rfl (Nat.le_of_ble_eq_true rfl) ⟨Nat.le_of_ble_eq_true rfl, Nat.le_of_ble_eq_true rfl⟩ dX0_copyFrom_29 (kc_TV fun q2 => ?_)
  refine V_aload_n hO 0 dX0_copyFrom_32 rfl rfl ?_
  refine V_aload_n hO 1 dX0_copyFrom_33 rfl rfl ?_
  refine V_get hO (v := .int (q2.1 d 6)) fl_X0_36 (Nat.lt_trans hd (by decide)) (fun _ _ => ce_debt hd) rfl dX0_copyFrom_34 ?_
  refine V_chk rfl fun c5 => ?_
  refine V_putz hO fp_X0_36 (Nat.lt_trans hc (by decide)) (fun _ _ => ce_debt hc) (Nat.le_of_ble_eq_true rfl) (isB_01 c5) (fun _ _ => pe_debt6 hc) dX0_copyFrom_37 (V_name fun h3 => ?_)
  refine V_aload_n hO 0 dX0_copyFrom_40 rfl rfl ?_
  refine V_aload_n hO 1 dX0_copyFrom_41 rfl rfl ?_
  refine V_get hO (v := .int (h3.1 d 7)) fl_X0_40 (Nat.lt_trans hd (by decide)) (fun _ _ => ce_debt hd) rfl dX0_copyFrom_42 ?_
  refine V_puti hO fp_X0_40 (Nat.lt_trans hc (by decide)) (fun _ _ => ce_debt hc) (Nat.le_of_ble_eq_true rfl) (fun _ _ => pe_debt7 hc) dX0_copyFrom_45 (V_name fun h4 => ?_)
  exact V_vret hO hR rfl dX0_copyFrom_48
set_option maxHeartbeats 4000000 in
set_option maxRecDepth 100000 in
theorem C_X0_copyFrom (α : Nat → Nat) {c : Nat} {d : Nat} (hc : c < 30) (hd : d < 30) (σ : Hp) : Ct yX0_copyFrom cX0_copyFrom 2 none 1 24 α [.ref (α (c)), .ref (α (d))] σ (kSV (F_X0_copyFrom c d σ)) := ct_of_V (own := RX0) rfl (by decide +kernel) (Nat.le_of_ble_eq_true rfl) fun _ hO hR => T_X0_copyFrom hO hR hc hd σ
/-! X0_isThere -/
noncomputable def F_X0_isThere (c : Nat) (σ : Hp) : Bool :=
  if (σ.1 c 5) ≤ 0 then
  false
  else
  if (σ.1 c 6) = 0 then
  true
  else
  false
set_option maxHeartbeats 4000000 in
set_option maxRecDepth 100000 in
theorem T_X0_isThere {G : Gm} {α : Nat → Nat} {c : Nat} (hO : Ok G α cX0_isThere 1 RX0 0 0) (hR : Rt G α (some .boolean)) (hc : c < 30) (σ : Hp) : V G α 1 (kZ σ) 0 [(0, .ref (α (c)))] [] σ (F_X0_isThere c σ) := by
  rw [F_X0_isThere]
  refine V_aload_n hO 0 dX0_isThere_0 rfl rfl ?_
  refine V_get hO (v := .int (σ.1 c 5)) fl_X0_33 (Nat.lt_trans hc (by decide)) (fun _ _ => ce_debt hc) rfl dX0_isThere_1 ?_
  refine V_if_le hO 18 dX0_isThere_4 (by decide) ?_ ?_
  · refine V_iconst hO 0 dX0_isThere_18 (by decide) ?_
    exact V_zret hO hR (by decide) rfl dX0_isThere_19
  · refine V_aload_n hO 0 dX0_isThere_7 rfl rfl ?_
    refine V_get hO (v := .int (σ.1 c 6)) fl_X0_36 (Nat.lt_trans hc (by decide)) (fun _ _ => ce_debt hc) rfl dX0_isThere_8 ?_
    refine V_if_ne hO 18 dX0_isThere_11 (by decide) ?_ ?_
    · refine V_iconst hO 0 dX0_isThere_18 (by decide) ?_
      exact V_zret hO hR (by decide) rfl dX0_isThere_19
    · refine V_iconst hO 1 dX0_isThere_14 (by decide) ?_
      refine V_goto hO 19 dX0_isThere_15 (by decide) ?_
      exact V_zret hO hR (by decide) rfl dX0_isThere_19
set_option maxHeartbeats 4000000 in
set_option maxRecDepth 100000 in
theorem C_X0_isThere (α : Nat → Nat) {c : Nat} (hc : c < 30) (σ : Hp) : Ct yX0_isThere cX0_isThere 1 (some .boolean) 0 0 α [.ref (α (c))] σ (kZ σ (F_X0_isThere c σ)) := ct_of_V (own := RX0) rfl (by decide +kernel) (Nat.le_of_ble_eq_true rfl) fun _ hO hR => T_X0_isThere hO hR hc σ
/-! X0_worthOn -/
noncomputable def F_X0_worthOn_24 (c : Nat) (σ : Hp) (s0 : Int32) : Int32 :=
  if (F_X0_isOfKind (σ.1 c 0) (2 : Int32) σ) = true then
  ((σ.1 c 4) + (s0 / (10 : Int32)))
  else
  (σ.1 c 4)
noncomputable def F_X0_worthOn (c : Nat) (p1 : Int32) (σ : Hp) : Int32 :=
  if (σ.1 c 5) = 0 then
  (0 : Int32)
  else
  if (σ.1 c 6) = 0 then
  F_X0_worthOn_24 c σ p1
  else
  F_X0_worthOn_24 c σ (σ.1 c 7)
set_option maxHeartbeats 4000000 in
set_option maxRecDepth 100000 in
theorem T_X0_worthOn_24 {G : Gm} {α : Nat → Nat} {c : Nat} (hO : Ok G α cX0_worthOn 3 RX0 1 21) (hR : Rt G α (some .int)) (hc : c < 30) (σ : Hp) : ∀ (s0 : Int32), V G α 3 (kI σ) 24 [(0, .ref (α (c)))] [.int s0] σ (F_X0_worthOn_24 c σ s0) := by
  intro s0
  rw [F_X0_worthOn_24]
  refine V_istore_n hO (ls2 := [(2, .int s0), (0, .ref (α (c)))]) dX0_worthOn_24 rfl (by decide) rfl ?_
  refine V_aload_n hO 1 dX0_worthOn_25 rfl rfl ?_
  refine V_get hO (v := .int (σ.1 c 0)) fl_X0_15 (Nat.lt_trans hc (by decide)) (fun _ _ => ce_debt hc) rfl dX0_worthOn_26 ?_
  refine V_iconst hO 2 dX0_worthOn_29 (by decide) ?_
  refine V_callS hO ml_X0_51 (C_X0_isOfKind α (σ.1 c 0) (2 : Int32) σ) (rest := []) rfl rfl (Nat.le_of_ble_eq_true rfl) ⟨Nat.le_of_ble_eq_true rfl, Nat.le_of_ble_eq_true rfl⟩ dX0_worthOn_30 (kc_Z ?_)
  refine V_ifeqZ hO 48 dX0_worthOn_33 (by decide) ?_ ?_
  · refine V_aload_n hO 1 dX0_worthOn_48 rfl rfl ?_
    refine V_get hO (v := .int (σ.1 c 4)) fl_X0_30 (Nat.lt_trans hc (by decide)) (fun _ _ => ce_debt hc) rfl dX0_worthOn_49 ?_
    exact V_iret hO hR rfl dX0_worthOn_52
  · refine V_aload_n hO 1 dX0_worthOn_36 rfl rfl ?_
    refine V_get hO (v := .int (σ.1 c 4)) fl_X0_30 (Nat.lt_trans hc (by decide)) (fun _ _ => ce_debt hc) rfl dX0_worthOn_37 ?_
    refine V_iload_n hO 0 dX0_worthOn_40 rfl rfl ?_
    refine V_bipush hO 10 dX0_worthOn_41 (by decide) ?_
    refine V_idiv hO dX0_worthOn_43 (by decide) ?_
    refine V_iadd hO dX0_worthOn_44 ?_
    refine V_goto hO 52 dX0_worthOn_45 (by decide) ?_
    exact V_iret hO hR rfl dX0_worthOn_52
set_option maxHeartbeats 4000000 in
set_option maxRecDepth 100000 in
theorem T_X0_worthOn {G : Gm} {α : Nat → Nat} {c : Nat} (hO : Ok G α cX0_worthOn 3 RX0 1 21) (hR : Rt G α (some .int)) (hc : c < 30) (p1 : Int32) (σ : Hp) : V G α 3 (kI σ) 0 [(0, .ref (α (c))), (1, .int p1)] [] σ (F_X0_worthOn c p1 σ) := by
  rw [F_X0_worthOn]
  refine V_aload_n hO 0 dX0_worthOn_0 rfl rfl ?_
  refine V_get hO (v := .int (σ.1 c 5)) fl_X0_33 (Nat.lt_trans hc (by decide)) (fun _ _ => ce_debt hc) rfl dX0_worthOn_1 ?_
  refine V_if_ne hO 9 dX0_worthOn_4 (by decide) ?_ ?_
  · refine V_aload_n hO 0 dX0_worthOn_9 rfl rfl ?_
    refine V_get hO (v := .int (σ.1 c 6)) fl_X0_36 (Nat.lt_trans hc (by decide)) (fun _ _ => ce_debt hc) rfl dX0_worthOn_10 ?_
    refine V_if_eq hO 23 dX0_worthOn_13 (by decide) ?_ ?_
    · refine V_iload_n hO 1 dX0_worthOn_23 rfl rfl ?_
      exact V_sub [0] rfl (T_X0_worthOn_24 hO hR hc σ p1 )
    · refine V_aload_n hO 0 dX0_worthOn_16 rfl rfl ?_
      refine V_get hO (v := .int (σ.1 c 7)) fl_X0_40 (Nat.lt_trans hc (by decide)) (fun _ _ => ce_debt hc) rfl dX0_worthOn_17 ?_
      refine V_goto hO 24 dX0_worthOn_20 (by decide) ?_
      exact V_sub [0] rfl (T_X0_worthOn_24 hO hR hc σ (σ.1 c 7) )
  · refine V_iconst hO 0 dX0_worthOn_7 (by decide) ?_
    exact V_iret hO hR rfl dX0_worthOn_8
set_option maxHeartbeats 4000000 in
set_option maxRecDepth 100000 in
theorem C_X0_worthOn (α : Nat → Nat) {c : Nat} (hc : c < 30) (p1 : Int32) (σ : Hp) : Ct yX0_worthOn cX0_worthOn 3 (some .int) 1 21 α [.ref (α (c)), .int p1] σ (kI σ (F_X0_worthOn c p1 σ)) := ct_of_V (own := RX0) rfl (by decide +kernel) (Nat.le_of_ble_eq_true rfl) fun _ hO hR => T_X0_worthOn hO hR hc p1 σ
/-! X5_hasSquare -/
noncomputable def F_X5_hasSquare (t : Nat) (p1 : Int32) (σ : Hp) : Bool :=
  if p1 < 0 then
  false
  else
  if (σ.1 (30 + t) 1) ≤ p1 then
  false
  else
  true
set_option maxHeartbeats 4000000 in
set_option maxRecDepth 100000 in
theorem T_X5_hasSquare {G : Gm} {α : Nat → Nat} {t : Nat} (hO : Ok G α cX5_hasSquare 2 RX5 0 0) (hR : Rt G α (some .boolean)) (ht : t < 3) (p1 : Int32) (σ : Hp) : V G α 2 (kZ σ) 0 [(0, .ref (α (30 + t))), (1, .int p1)] [] σ (F_X5_hasSquare t p1 σ) := by
  rw [F_X5_hasSquare]
  refine V_iload_n hO 1 dX5_hasSquare_0 rfl rfl ?_
  refine V_if_lt hO 16 dX5_hasSquare_1 (by decide) ?_ ?_
  · refine V_iconst hO 0 dX5_hasSquare_16 (by decide) ?_
    exact V_zret hO hR (by decide) rfl dX5_hasSquare_17
  · refine V_iload_n hO 1 dX5_hasSquare_4 rfl rfl ?_
    refine V_aload_n hO 0 dX5_hasSquare_5 rfl rfl ?_
    refine V_get hO (v := .int (σ.1 (30 + t) 1)) fl_X5_26 (tw_X5 ht) (fun _ _ => ce_town ht) rfl dX5_hasSquare_6 ?_
    refine V_icmp_ge hO 16 dX5_hasSquare_9 (by decide) ?_ ?_
    · refine V_iconst hO 0 dX5_hasSquare_16 (by decide) ?_
      exact V_zret hO hR (by decide) rfl dX5_hasSquare_17
    · refine V_iconst hO 1 dX5_hasSquare_12 (by decide) ?_
      refine V_goto hO 17 dX5_hasSquare_13 (by decide) ?_
      exact V_zret hO hR (by decide) rfl dX5_hasSquare_17
set_option maxHeartbeats 4000000 in
set_option maxRecDepth 100000 in
theorem C_X5_hasSquare (α : Nat → Nat) {t : Nat} (ht : t < 3) (p1 : Int32) (σ : Hp) : Ct yX5_hasSquare cX5_hasSquare 2 (some .boolean) 0 0 α [.ref (α (30 + t)), .int p1] σ (kZ σ (F_X5_hasSquare t p1 σ)) := ct_of_V (own := RX5) rfl (by decide +kernel) (Nat.le_of_ble_eq_true rfl) fun _ hO hR => T_X5_hasSquare hO hR ht p1 σ
/-! X5_iceUnder -/
noncomputable def F_X5_iceUnder (t : Nat) (p1 : Int32) (σ : Hp) : Option Int32 :=
  if inb p1 10 = true then
  lt (σ.1 ((10 * t + (Int32.toNatClampNeg p1))) 1) fun v2 =>
  if (F_X5_hasSquare t v2 σ) = true then
  if inb v2 16 = true then
  some (σ.1 (33 + t) (Int32.toNatClampNeg v2))
  else none
  else
  some (0 : Int32)
  else none
set_option maxHeartbeats 4000000 in
set_option maxRecDepth 100000 in
theorem T_X5_iceUnder {G : Gm} {α : Nat → Nat} {t : Nat} (hO : Ok G α cX5_iceUnder 3 RX5 1 21) (hR : Rt G α (some .int)) (ht : t < 3) (p1 : Int32) (σ : Hp) : V G α 3 (kOI σ) 0 [(0, .ref (α (30 + t))), (1, .int p1)] [] σ (F_X5_iceUnder t p1 σ) := by
  rw [F_X5_iceUnder]
  refine V_aload_n hO 0 dX5_iceUnder_0 rfl rfl ?_
  refine V_get hO (v := .ref (α (36 + t))) fl_X5_17 (tw_X5 ht) (fun _ _ => ce_town ht) rfl dX5_iceUnder_1 ?_
  refine V_iload_n hO 1 dX5_iceUnder_4 rfl rfl ?_
  refine V_chk rfl fun c1 => ?_
  refine V_aald hO (tw_darr ht) (fun _ _ => ce_da ht) (inb_in c1) dX5_iceUnder_5 ?_
  refine V_get hO (v := .int (σ.1 ((10 * t + (Int32.toNatClampNeg p1))) 1)) fl_X5_46 (Nat.lt_trans (cd_lt ht (inb_in c1)) (by decide)) (fun _ _ => ce_debt (cd_lt ht (inb_in c1))) rfl dX5_iceUnder_6 ?_
  refine V_istore_nN hO (ls2 := fun v2 => [(2, .int v2), (0, .ref (α (30 + t))), (1, .int p1)]) dX5_iceUnder_9 rfl (by decide) (fun _ => rfl) (fun v2 => ?_)
  refine V_aload_n hO 1 dX5_iceUnder_10 rfl rfl ?_
  refine V_iload_n hO 0 dX5_iceUnder_11 rfl rfl ?_
  refine V_callV hO ml_X5_42 (C_X5_hasSquare α (t := t) ht v2 σ) (tw_X5 ht) (fun _ _ => ce_town ht) rfl rfl (rest := []) rfl rfl (Nat.le_of_ble_eq_true rfl) ⟨Nat.le_of_ble_eq_true rfl, Nat.le_of_ble_eq_true rfl⟩ dX5_iceUnder_12 (kc_Z ?_)
  refine V_ifeqZ hO 27 dX5_iceUnder_15 (by decide) ?_ ?_
  · refine V_iconst hO 0 dX5_iceUnder_27 (by decide) ?_
    exact V_iret hO hR rfl dX5_iceUnder_28
  · refine V_aload_n hO 1 dX5_iceUnder_18 rfl rfl ?_
    refine V_get hO (v := .ref (α (33 + t))) fl_X5_9 (tw_X5 ht) (fun _ _ => ce_town ht) rfl dX5_iceUnder_19 ?_
    refine V_iload_n hO 0 dX5_iceUnder_22 rfl rfl ?_
    refine V_chk rfl fun c3 => ?_
    refine V_iald hO (tw_ice ht) (fun _ _ => ce_ice ht) (inb_in c3) dX5_iceUnder_23 ?_
    refine V_goto hO 28 dX5_iceUnder_24 (by decide) ?_
    exact V_iret hO hR rfl dX5_iceUnder_28
set_option maxHeartbeats 4000000 in
set_option maxRecDepth 100000 in
theorem C_X5_iceUnder (α : Nat → Nat) {t : Nat} (ht : t < 3) (p1 : Int32) (σ : Hp) : Ct yX5_iceUnder cX5_iceUnder 3 (some .int) 1 21 α [.ref (α (30 + t)), .int p1] σ (kOI σ (F_X5_iceUnder t p1 σ)) := ct_of_V (own := RX5) rfl (by decide +kernel) (Nat.le_of_ble_eq_true rfl) fun _ hO hR => T_X5_iceUnder hO hR ht p1 σ
/-! X5_worthOf -/
noncomputable def F_X5_worthOf (t : Nat) (p1 : Int32) (σ : Hp) : Option Int32 :=
  if inb p1 10 = true then
  (F_X5_iceUnder t p1 σ).bind fun v2 =>
  some (F_X0_worthOn (10 * t + (Int32.toNatClampNeg p1)) v2 σ)
  else none
set_option maxHeartbeats 4000000 in
set_option maxRecDepth 100000 in
theorem T_X5_worthOf {G : Gm} {α : Nat → Nat} {t : Nat} (hO : Ok G α cX5_worthOf 2 RX5 2 43) (hR : Rt G α (some .int)) (ht : t < 3) (p1 : Int32) (σ : Hp) : V G α 2 (kOI σ) 0 [(0, .ref (α (30 + t))), (1, .int p1)] [] σ (F_X5_worthOf t p1 σ) := by
  rw [F_X5_worthOf]
  refine V_aload_n hO 0 dX5_worthOf_0 rfl rfl ?_
  refine V_get hO (v := .ref (α (36 + t))) fl_X5_17 (tw_X5 ht) (fun _ _ => ce_town ht) rfl dX5_worthOf_1 ?_
  refine V_iload_n hO 1 dX5_worthOf_4 rfl rfl ?_
  refine V_chk rfl fun c1 => ?_
  refine V_aald hO (tw_darr ht) (fun _ _ => ce_da ht) (inb_in c1) dX5_worthOf_5 ?_
  refine V_aload_n hO 0 dX5_worthOf_6 rfl rfl ?_
  refine V_iload_n hO 1 dX5_worthOf_7 rfl rfl ?_
  refine V_callV hO ml_X5_49 (C_X5_iceUnder α (t := t) ht p1 σ) (tw_X5 ht) (fun _ _ => ce_town ht) rfl rfl (rest := [.ref (α ((10 * t + (Int32.toNatClampNeg p1))))]) rfl rfl (Nat.le_of_ble_eq_true rfl) ⟨Nat.le_of_ble_eq_true rfl, Nat.le_of_ble_eq_true rfl⟩ dX5_worthOf_8 (kc_OI rfl fun v2 => ?_)
  refine V_callV hO ml_X5_53 (C_X0_worthOn α (c := (10 * t + (Int32.toNatClampNeg p1))) (cd_lt ht (inb_in c1)) v2 σ) (Nat.lt_trans (cd_lt ht (inb_in c1)) (by decide)) (fun _ _ => ce_debt (cd_lt ht (inb_in c1))) rfl rfl (rest := []) rfl rfl (Nat.le_of_ble_eq_true rfl) ⟨Nat.le_of_ble_eq_true rfl, Nat.le_of_ble_eq_true rfl⟩ dX5_worthOf_11 (kc_I ?_)
  exact V_iret hO hR rfl dX5_worthOf_14
set_option maxHeartbeats 4000000 in
set_option maxRecDepth 100000 in
theorem C_X5_worthOf (α : Nat → Nat) {t : Nat} (ht : t < 3) (p1 : Int32) (σ : Hp) : Ct yX5_worthOf cX5_worthOf 2 (some .int) 2 43 α [.ref (α (30 + t)), .int p1] σ (kOI σ (F_X5_worthOf t p1 σ)) := ct_of_V (own := RX5) rfl (by decide +kernel) (Nat.le_of_ble_eq_true rfl) fun _ hO hR => T_X5_worthOf hO hR ht p1 σ
/-! X1_weigh -/
noncomputable def F_X1_weigh_51 (k15 : Int32 → Hp → (Option Hp)) (w2 : Int32) (s0 : Int32) (s1 : Int32) (h : Hp) : Option Hp :=
  if inb s1 10 = true then
  lt (up h 47 (Int32.toNatClampNeg s1) s0) fun h2 =>
  (F_X5_worthOf 0 w2 h2).bind fun v3 =>
  if inb w2 10 = true then
  lt (up h2 48 (Int32.toNatClampNeg w2) v3) fun h5 =>
  k15 (w2 + 1) h5
  else none
  else none
noncomputable def F_X1_weigh_15  : Nat → Int32 → Hp → Option Hp
  | 0, _, _ => none
  | n + 1, w2, h =>
    if (h.1 46 2) ≤ w2 then
    some h
    else
    if inb w2 10 = true then
    if (F_X0_isThere (10 * 0 + (Int32.toNatClampNeg w2)) h) = true then
    (F_X5_iceUnder 0 w2 h).bind fun v7 =>
    F_X1_weigh_51 (F_X1_weigh_15 n) w2 v7 w2 h
    else
    F_X1_weigh_51 (F_X1_weigh_15 n) w2 (201 : Int32) w2 h
    else none
noncomputable def F_X1_weigh  (σ : Hp) : Option Hp :=
  lt (up σ 46 2 (imin (σ.1 30 4) (10 : Int32))) fun h8 =>
  F_X1_weigh_15 fuel (0 : Int32) h8
set_option maxHeartbeats 4000000 in
set_option maxRecDepth 100000 in
theorem T_X1_weigh_51 {G : Gm} {α : Nat → Nat} (hO : Ok G α cX1_weigh 3 RX1 3 64) (hR : Rt G α none) (k15 : Int32 → Hp → (Option Hp)) (hk15 : ∀ (w2 : Int32) (h : Hp), V G α 3 (kSV) 15 [(0, .ref (α (46))), (1, .ref (α (30))), (2, .int w2)] [] h (k15 w2 h)) : ∀ (w2 : Int32) (s0 : Int32) (s1 : Int32) (h : Hp), V G α 3 (kSV) 51 [(0, .ref (α (46))), (1, .ref (α (30))), (2, .int w2)] [.int s0, .int s1, .ref (α (47))] h (F_X1_weigh_51 k15 w2 s0 s1 h) := by
  intro w2 s0 s1 h
  rw [F_X1_weigh_51]
  refine V_chk rfl fun c1 => ?_
  refine V_iast hO (by decide) (fun _ _ _ => ce_47) (inb_in c1) dX1_weigh_51 (V_name fun h2 => ?_)
  refine V_aload_n hO 0 dX1_weigh_52 rfl rfl ?_
  refine V_get hO (v := .ref (α (48))) fl_X1_15 (by decide) (fun _ _ => ce_46) rfl dX1_weigh_53 ?_
  refine V_iload_n hO 2 dX1_weigh_56 rfl rfl ?_
  refine V_aload_n hO 1 dX1_weigh_57 rfl rfl ?_
  refine V_iload_n hO 2 dX1_weigh_58 rfl rfl ?_
  refine V_callV hO ml_X1_65 (C_X5_worthOf α (t := 0) (by decide) w2 h2) (by decide) (fun _ _ => ce_town (t := 0) (by decide)) rfl rfl (rest := [.int w2, .ref (α (48))]) rfl rfl (Nat.le_of_ble_eq_true rfl) ⟨Nat.le_of_ble_eq_true rfl, Nat.le_of_ble_eq_true rfl⟩ dX1_weigh_59 (kc_OI rfl fun v3 => ?_)
  refine V_chk rfl fun c4 => ?_
  refine V_iast hO (by decide) (fun _ _ _ => ce_48) (inb_in c4) dX1_weigh_62 (V_name fun h5 => ?_)
  refine V_iinc hO (ls2 := [(2, .int (w2 + 1)), (0, .ref (α (46))), (1, .ref (α (30)))]) (z := 1) 2 dX1_weigh_63 rfl (by decide) (by decide) rfl ?_
  refine V_goto hO 15 dX1_weigh_66 (by decide) ?_
  exact V_sub [1, 2, 0] rfl (hk15 (w2 + 1) h5 )
set_option maxHeartbeats 4000000 in
set_option maxRecDepth 100000 in
theorem T_X1_weigh_15 {G : Gm} {α : Nat → Nat} (hO : Ok G α cX1_weigh 3 RX1 3 64) (hR : Rt G α none) : ∀ (fuel : Nat) (w2 : Int32) (h : Hp), V G α 3 (kSV) 15 [(0, .ref (α (46))), (1, .ref (α (30))), (2, .int w2)] [] h (F_X1_weigh_15 fuel w2 h) := by
  intro fuel
  induction fuel with
  | zero => intro w2 h; exact V_none rfl
  | succ n ih =>
    intro w2 h
    rw [F_X1_weigh_15]
    refine V_iload_n hO 2 dX1_weigh_15 rfl rfl ?_
    refine V_aload_n hO 0 dX1_weigh_16 rfl rfl ?_
    refine V_get hO (v := .int (h.1 46 2)) fl_X1_32 (by decide) (fun _ _ => ce_46) rfl dX1_weigh_17 ?_
    refine V_icmp_ge hO 69 dX1_weigh_20 (by decide) ?_ ?_
    · exact V_vret hO hR rfl dX1_weigh_69
    · refine V_aload_n hO 0 dX1_weigh_23 rfl rfl ?_
      refine V_get hO (v := .ref (α (47))) fl_X1_9 (by decide) (fun _ _ => ce_46) rfl dX1_weigh_24 ?_
      refine V_iload_n hO 2 dX1_weigh_27 rfl rfl ?_
      refine V_aload_n hO 1 dX1_weigh_28 rfl rfl ?_
      refine V_get hO (v := .ref (α (36))) fl_X1_51 (by decide) (fun _ _ => ce_town (t := 0) (by decide)) rfl dX1_weigh_29 ?_
      refine V_iload_n hO 2 dX1_weigh_32 rfl rfl ?_
      refine V_chk rfl fun c6 => ?_
      refine V_aald hO (by decide) (fun _ _ => ce_da (t := 0) (by decide)) (inb_in c6) dX1_weigh_33 ?_
      refine V_callV hO ml_X1_55 (C_X0_isThere α (c := (10 * 0 + (Int32.toNatClampNeg w2))) (cd_lt (t := 0) (by decide) (inb_in c6)) h) (Nat.lt_trans (cd_lt (t := 0) (by decide) (inb_in c6)) (by decide)) (fun _ _ => ce_debt (cd_lt (t := 0) (by decide) (inb_in c6))) rfl rfl (rest := [.int w2, .ref (α (47))]) rfl rfl (Nat.le_of_ble_eq_true rfl) ⟨Nat.le_of_ble_eq_true rfl, Nat.le_of_ble_eq_true rfl⟩ dX1_weigh_34 (kc_Z ?_)
      refine V_ifeqZ hO 48 dX1_weigh_37 (by decide) ?_ ?_
      · refine V_sipush hO 201 dX1_weigh_48 (by decide) ?_
        exact V_sub [0, 1, 2] rfl (T_X1_weigh_51 hO hR (F_X1_weigh_15 n) ih w2 (201 : Int32) w2 h )
      · refine V_aload_n hO 1 dX1_weigh_40 rfl rfl ?_
        refine V_iload_n hO 2 dX1_weigh_41 rfl rfl ?_
        refine V_callV hO ml_X1_61 (C_X5_iceUnder α (t := 0) (by decide) w2 h) (by decide) (fun _ _ => ce_town (t := 0) (by decide)) rfl rfl (rest := [.int w2, .ref (α (47))]) rfl rfl (Nat.le_of_ble_eq_true rfl) ⟨Nat.le_of_ble_eq_true rfl, Nat.le_of_ble_eq_true rfl⟩ dX1_weigh_42 (kc_OI rfl fun v7 => ?_)
        refine V_goto hO 51 dX1_weigh_45 (by decide) ?_
        exact V_sub [0, 1, 2] rfl (T_X1_weigh_51 hO hR (F_X1_weigh_15 n) ih w2 v7 w2 h )
set_option maxHeartbeats 4000000 in
set_option maxRecDepth 100000 in
theorem T_X1_weigh {G : Gm} {α : Nat → Nat} (hO : Ok G α cX1_weigh 3 RX1 3 64) (hR : Rt G α none) (σ : Hp) : V G α 3 (kSV) 0 [(0, .ref (α (46))), (1, .ref (α (30)))] [] σ (F_X1_weigh σ) := by
  rw [F_X1_weigh]
  refine V_aload_n hO 0 dX1_weigh_0 rfl rfl ?_
  refine V_aload_n hO 1 dX1_weigh_1 rfl rfl ?_
  refine V_get hO (v := .int (σ.1 30 4)) fl_X1_43 (by decide) (fun _ _ => ce_town (t := 0) (by decide)) rfl dX1_weigh_2 ?_
  refine V_bipush hO 10 dX1_weigh_5 (by decide) ?_
  refine V_mmin hO mm_X1_46 (Nat.le_of_ble_eq_true rfl) ⟨by decide, by decide⟩ dX1_weigh_7 ?_
  refine V_puti hO fp_X1_32 (by decide) (fun _ _ => ce_46) (Nat.le_of_ble_eq_true rfl) (fun _ _ => pe_46_2) dX1_weigh_10 (V_name fun h8 => ?_)
  refine V_iconst hO 0 dX1_weigh_13 (by decide) ?_
  refine V_istore_n hO (ls2 := [(2, .int 0), (0, .ref (α (46))), (1, .ref (α (30)))]) dX1_weigh_14 rfl (by decide) rfl ?_
  exact V_sub [1, 2, 0] rfl (T_X1_weigh_15 hO hR fuel (0 : Int32) h8 )
set_option maxHeartbeats 4000000 in
set_option maxRecDepth 100000 in
theorem C_X1_weigh (α : Nat → Nat) (σ : Hp) : Ct yX1_weigh cX1_weigh 3 none 3 64 α [.ref (α (46)), .ref (α (30))] σ (kSV (F_X1_weigh σ)) := ct_of_V (own := RX1) rfl (by decide +kernel) (Nat.le_of_ble_eq_true rfl) fun _ hO hR => T_X1_weigh hO hR σ
/-! X1_layOn -/
noncomputable def F_X1_layOn  (p1 : Int32) (p2 : Int32) (p3 : Int32) (σ : Hp) : Int32 :=
  if p1 = (1048576 : Int32) then
  (1048576 : Int32)
  else
  if p2 ≤ p3 then
  if p3 < ((p1 &&& (255 : Int32)) + p2) then
  ((((p1 >>> ((8 : Int32) &&& 31)) + (1 : Int32)) <<< ((8 : Int32) &&& 31)) + p2)
  else
  (p1 + p2)
  else
  (1048576 : Int32)
set_option maxHeartbeats 4000000 in
set_option maxRecDepth 100000 in
theorem T_X1_layOn {G : Gm} {α : Nat → Nat} (hO : Ok G α cX1_layOn 3 RX1 0 0) (hR : Rt G α (some .int)) (p1 : Int32) (p2 : Int32) (p3 : Int32) (σ : Hp) : V G α 3 (kI σ) 0 [(0, .int p1), (1, .int p2), (2, .int p3)] [] σ (F_X1_layOn p1 p2 p3 σ) := by
  rw [F_X1_layOn]
  refine V_iload_n hO 0 dX1_layOn_0 rfl rfl ?_
  refine V_ldc hO (v := 1048576) dX1_layOn_1 cn_X1_68 ?_
  refine V_icmp_eq hO 11 dX1_layOn_3 (by decide) ?_ ?_
  · refine V_ldc hO (v := 1048576) dX1_layOn_11 cn_X1_68 ?_
    exact V_iret hO hR rfl dX1_layOn_13
  · refine V_iload_n hO 1 dX1_layOn_6 rfl rfl ?_
    refine V_iload_n hO 2 dX1_layOn_7 rfl rfl ?_
    refine V_icmp_le hO 14 dX1_layOn_8 (by decide) ?_ ?_
    · refine V_iload_n hO 0 dX1_layOn_14 rfl rfl ?_
      refine V_sipush hO 255 dX1_layOn_15 (by decide) ?_
      refine V_iand hO dX1_layOn_18 ?_
      refine V_iload_n hO 1 dX1_layOn_19 rfl rfl ?_
      refine V_iadd hO dX1_layOn_20 ?_
      refine V_iload_n hO 2 dX1_layOn_21 rfl rfl ?_
      refine V_icmp_gt hO 29 dX1_layOn_22 (by decide) ?_ ?_
      · refine V_iload_n hO 0 dX1_layOn_29 rfl rfl ?_
        refine V_bipush hO 8 dX1_layOn_30 (by decide) ?_
        refine V_ishr hO dX1_layOn_32 ?_
        refine V_iconst hO 1 dX1_layOn_33 (by decide) ?_
        refine V_iadd hO dX1_layOn_34 ?_
        refine V_bipush hO 8 dX1_layOn_35 (by decide) ?_
        refine V_ishl hO dX1_layOn_37 ?_
        refine V_iload_n hO 1 dX1_layOn_38 rfl rfl ?_
        refine V_iadd hO dX1_layOn_39 ?_
        exact V_iret hO hR rfl dX1_layOn_40
      · refine V_iload_n hO 0 dX1_layOn_25 rfl rfl ?_
        refine V_iload_n hO 1 dX1_layOn_26 rfl rfl ?_
        refine V_iadd hO dX1_layOn_27 ?_
        exact V_iret hO hR rfl dX1_layOn_28
    · refine V_ldc hO (v := 1048576) dX1_layOn_11 cn_X1_68 ?_
      exact V_iret hO hR rfl dX1_layOn_13
set_option maxHeartbeats 4000000 in
set_option maxRecDepth 100000 in
theorem C_X1_layOn (α : Nat → Nat) (p1 : Int32) (p2 : Int32) (p3 : Int32) (σ : Hp) : Ct yX1_layOn cX1_layOn 3 (some .int) 0 0 α [.int p1, .int p2, .int p3] σ (kI σ (F_X1_layOn p1 p2 p3 σ)) := ct_of_V (own := RX1) rfl (by decide +kernel) (Nat.le_of_ble_eq_true rfl) fun _ hO hR => T_X1_layOn hO hR p1 p2 p3 σ
/-! X1_pack -/
noncomputable def F_X1_pack_51 (σ : Hp) (k6 : Int32 → Int32 → Int32 → Int32 → (Option Int32)) (w1 : Int32) (w2 : Int32) (w3 : Int32) (w4 : Int32) : Option Int32 :=
  k6 w1 w2 w3 (w4 + 1)
noncomputable def F_X1_pack_6 (σ : Hp) : Nat → Int32 → Int32 → Int32 → Int32 → Option Int32
  | 0, _, _, _, _ => none
  | n + 1, w1, w2, w3, w4 =>
    if (σ.1 46 2) ≤ w4 then
    some w3
    else
    if ((w1 >>> (w4 &&& 31)) &&& (1 : Int32)) = 0 then
    F_X1_pack_51 σ (F_X1_pack_6 σ n) w1 w2 w3 w4
    else
    if inb (w1 ^^^ ((1 : Int32) <<< (w4 &&& 31))) 1024 = true then
    if inb w4 10 = true then
    lt (imin w3 (F_X1_layOn (σ.1 49 (Int32.toNatClampNeg (w1 ^^^ ((1 : Int32) <<< (w4 &&& 31))))) (σ.1 47 (Int32.toNatClampNeg w4)) w2 σ)) fun v3 =>
    F_X1_pack_51 σ (F_X1_pack_6 σ n) w1 w2 v3 w4
    else none
    else none
noncomputable def F_X1_pack  (p1 : Int32) (p2 : Int32) (σ : Hp) : Option Int32 :=
  F_X1_pack_6 σ fuel p1 p2 (1048576 : Int32) (0 : Int32)
set_option maxHeartbeats 4000000 in
set_option maxRecDepth 100000 in
theorem T_X1_pack_51 {G : Gm} {α : Nat → Nat} (hO : Ok G α cX1_pack 5 RX1 1 22) (hR : Rt G α (some .int)) (σ : Hp) (k6 : Int32 → Int32 → Int32 → Int32 → (Option Int32)) (hk6 : ∀ (w1 : Int32) (w2 : Int32) (w3 : Int32) (w4 : Int32), V G α 5 (kOI σ) 6 [(0, .ref (α (46))), (1, .int w1), (2, .int w2), (3, .int w3), (4, .int w4)] [] σ (k6 w1 w2 w3 w4)) : ∀ (w1 : Int32) (w2 : Int32) (w3 : Int32) (w4 : Int32), V G α 5 (kOI σ) 51 [(0, .ref (α (46))), (1, .int w1), (2, .int w2), (3, .int w3), (4, .int w4)] [] σ (F_X1_pack_51 σ k6 w1 w2 w3 w4) := by
  intro w1 w2 w3 w4
  rw [F_X1_pack_51]
  refine V_iinc hO (ls2 := [(4, .int (w4 + 1)), (0, .ref (α (46))), (1, .int w1), (2, .int w2), (3, .int w3)]) (z := 1) 4 dX1_pack_51 rfl (by decide) (by decide) rfl ?_
  refine V_goto hO 6 dX1_pack_54 (by decide) ?_
  exact V_sub [1, 2, 3, 4, 0] rfl (hk6 w1 w2 w3 (w4 + 1) )
set_option maxHeartbeats 4000000 in
set_option maxRecDepth 100000 in
theorem T_X1_pack_6 {G : Gm} {α : Nat → Nat} (hO : Ok G α cX1_pack 5 RX1 1 22) (hR : Rt G α (some .int)) (σ : Hp) : ∀ (fuel : Nat) (w1 : Int32) (w2 : Int32) (w3 : Int32) (w4 : Int32), V G α 5 (kOI σ) 6 [(0, .ref (α (46))), (1, .int w1), (2, .int w2), (3, .int w3), (4, .int w4)] [] σ (F_X1_pack_6 σ fuel w1 w2 w3 w4) := by
  intro fuel
  induction fuel with
  | zero => intro w1 w2 w3 w4; exact V_none rfl
  | succ n ih =>
    intro w1 w2 w3 w4
    rw [F_X1_pack_6]
    refine V_iload hO 4 dX1_pack_6 rfl ?_
    refine V_aload_n hO 0 dX1_pack_8 rfl rfl ?_
    refine V_get hO (v := .int (σ.1 46 2)) fl_X1_32 (by decide) (fun _ _ => ce_46) rfl dX1_pack_9 ?_
    refine V_icmp_ge hO 57 dX1_pack_12 (by decide) ?_ ?_
    · refine V_iload_n hO 3 dX1_pack_57 rfl rfl ?_
      exact V_iret hO hR rfl dX1_pack_58
    · refine V_iload_n hO 1 dX1_pack_15 rfl rfl ?_
      refine V_iload hO 4 dX1_pack_16 rfl ?_
      refine V_ishr hO dX1_pack_18 ?_
      refine V_iconst hO 1 dX1_pack_19 (by decide) ?_
      refine V_iand hO dX1_pack_20 ?_
      refine V_if_eq hO 51 dX1_pack_21 (by decide) ?_ ?_
      · exact V_sub [0, 1, 2, 3, 4] rfl (T_X1_pack_51 hO hR σ (F_X1_pack_6 σ n) ih w1 w2 w3 w4 )
      · refine V_iload_n hO 3 dX1_pack_24 rfl rfl ?_
        refine V_aload_n hO 0 dX1_pack_25 rfl rfl ?_
        refine V_get hO (v := .ref (α (49))) fl_X1_18 (by decide) (fun _ _ => ce_46) rfl dX1_pack_26 ?_
        refine V_iload_n hO 1 dX1_pack_29 rfl rfl ?_
        refine V_iconst hO 1 dX1_pack_30 (by decide) ?_
        refine V_iload hO 4 dX1_pack_31 rfl ?_
        refine V_ishl hO dX1_pack_33 ?_
        refine V_ixor hO dX1_pack_34 ?_
        refine V_chk rfl fun c1 => ?_
        refine V_iald hO (by decide) (fun _ _ => ce_49) (inb_in c1) dX1_pack_35 ?_
        refine V_aload_n hO 0 dX1_pack_36 rfl rfl ?_
        refine V_get hO (v := .ref (α (47))) fl_X1_9 (by decide) (fun _ _ => ce_46) rfl dX1_pack_37 ?_
        refine V_iload hO 4 dX1_pack_40 rfl ?_
        refine V_chk rfl fun c2 => ?_
        refine V_iald hO (by decide) (fun _ _ => ce_47) (inb_in c2) dX1_pack_42 ?_
        refine V_iload_n hO 2 dX1_pack_43 rfl rfl ?_
        refine V_callS hO ml_X1_69 (C_X1_layOn α (σ.1 49 (Int32.toNatClampNeg (w1 ^^^ ((1 : Int32) <<< (w4 &&& 31))))) (σ.1 47 (Int32.toNatClampNeg w4)) w2 σ) (rest := [.int w3]) rfl rfl (Nat.le_of_ble_eq_true rfl) ⟨Nat.le_of_ble_eq_true rfl, Nat.le_of_ble_eq_true rfl⟩ dX1_pack_44 (kc_I ?_)
        refine V_mmin hO mm_X1_46 (Nat.le_of_ble_eq_true rfl) ⟨by decide, by decide⟩ dX1_pack_47 ?_
        refine V_istore_nN hO (ls2 := fun v3 => [(3, .int v3), (0, .ref (α (46))), (1, .int w1), (2, .int w2), (4, .int w4)]) dX1_pack_50 rfl (by decide) (fun _ => rfl) (fun v3 => ?_)
        exact V_sub [1, 2, 3, 0, 4] rfl (T_X1_pack_51 hO hR σ (F_X1_pack_6 σ n) ih w1 w2 v3 w4 )
set_option maxHeartbeats 4000000 in
set_option maxRecDepth 100000 in
theorem T_X1_pack {G : Gm} {α : Nat → Nat} (hO : Ok G α cX1_pack 5 RX1 1 22) (hR : Rt G α (some .int)) (p1 : Int32) (p2 : Int32) (σ : Hp) : V G α 5 (kOI σ) 0 [(0, .ref (α (46))), (1, .int p1), (2, .int p2)] [] σ (F_X1_pack p1 p2 σ) := by
  rw [F_X1_pack]
  refine V_ldc hO (v := 1048576) dX1_pack_0 cn_X1_68 ?_
  refine V_istore_n hO (ls2 := [(3, .int 1048576), (0, .ref (α (46))), (1, .int p1), (2, .int p2)]) dX1_pack_2 rfl (by decide) rfl ?_
  refine V_iconst hO 0 dX1_pack_3 (by decide) ?_
  refine V_istore hO (ls2 := [(4, .int 0), (3, .int 1048576), (0, .ref (α (46))), (1, .int p1), (2, .int p2)]) dX1_pack_4 (by decide) rfl ?_
  exact V_sub [2, 3, 4, 1, 0] rfl (T_X1_pack_6 hO hR σ fuel p1 p2 (1048576 : Int32) (0 : Int32) )
set_option maxHeartbeats 4000000 in
set_option maxRecDepth 100000 in
theorem C_X1_pack (α : Nat → Nat) (p1 : Int32) (p2 : Int32) (σ : Hp) : Ct yX1_pack cX1_pack 5 (some .int) 1 22 α [.ref (α (46)), .int p1, .int p2] σ (kOI σ (F_X1_pack p1 p2 σ)) := ct_of_V (own := RX1) rfl (by decide +kernel) (Nat.le_of_ble_eq_true rfl) fun _ hO hR => T_X1_pack hO hR p1 p2 σ
/-! J6_bitCount_0f7a4 -/
noncomputable def F_J6_bitCount_0f7a4  (p1 : Int32) (σ : Hp) : Int32 :=
  lt (p1 - ((jushr p1 (1 : Int32)) &&& (1431655765 : Int32))) fun v1 =>
  lt ((v1 &&& (858993459 : Int32)) + ((jushr v1 (2 : Int32)) &&& (858993459 : Int32))) fun v2 =>
  lt ((v2 + (jushr v2 (4 : Int32))) &&& (252645135 : Int32)) fun v3 =>
  lt (v3 + (jushr v3 (8 : Int32))) fun v4 =>
  lt (v4 + (jushr v4 (16 : Int32))) fun v5 =>
  (v5 &&& (63 : Int32))
set_option maxHeartbeats 4000000 in
set_option maxRecDepth 100000 in
theorem T_J6_bitCount_0f7a4 {G : Gm} {α : Nat → Nat} (hO : Ok G α cJ6_bitCount_0f7a4 1 RJ6 0 0) (hR : Rt G α (some .int)) (p1 : Int32) (σ : Hp) : V G α 1 (kI σ) 0 [(0, .int p1)] [] σ (F_J6_bitCount_0f7a4 p1 σ) := by
  rw [F_J6_bitCount_0f7a4]
  refine V_iload_n hO 0 dJ6_bitCount_0f7a4_0 rfl rfl ?_
  refine V_iload_n hO 0 dJ6_bitCount_0f7a4_1 rfl rfl ?_
  refine V_iconst hO 1 dJ6_bitCount_0f7a4_2 (by decide) ?_
  refine V_iushr hO dJ6_bitCount_0f7a4_3 ?_
  refine V_ldcw hO (v := 1431655765) dJ6_bitCount_0f7a4_4 cn_J6_265 ?_
  refine V_iand hO dJ6_bitCount_0f7a4_7 ?_
  refine V_isub hO dJ6_bitCount_0f7a4_8 ?_
  refine V_istore_nN hO (ls2 := fun v1 => [(0, .int v1)]) dJ6_bitCount_0f7a4_9 rfl (by decide) (fun _ => rfl) (fun v1 => ?_)
  refine V_iload_n hO 0 dJ6_bitCount_0f7a4_10 rfl rfl ?_
  refine V_ldcw hO (v := 858993459) dJ6_bitCount_0f7a4_11 cn_J6_266 ?_
  refine V_iand hO dJ6_bitCount_0f7a4_14 ?_
  refine V_iload_n hO 0 dJ6_bitCount_0f7a4_15 rfl rfl ?_
  refine V_iconst hO 2 dJ6_bitCount_0f7a4_16 (by decide) ?_
  refine V_iushr hO dJ6_bitCount_0f7a4_17 ?_
  refine V_ldcw hO (v := 858993459) dJ6_bitCount_0f7a4_18 cn_J6_266 ?_
  refine V_iand hO dJ6_bitCount_0f7a4_21 ?_
  refine V_iadd hO dJ6_bitCount_0f7a4_22 ?_
  refine V_istore_nN hO (ls2 := fun v2 => [(0, .int v2)]) dJ6_bitCount_0f7a4_23 rfl (by decide) (fun _ => rfl) (fun v2 => ?_)
  refine V_iload_n hO 0 dJ6_bitCount_0f7a4_24 rfl rfl ?_
  refine V_iload_n hO 0 dJ6_bitCount_0f7a4_25 rfl rfl ?_
  refine V_iconst hO 4 dJ6_bitCount_0f7a4_26 (by decide) ?_
  refine V_iushr hO dJ6_bitCount_0f7a4_27 ?_
  refine V_iadd hO dJ6_bitCount_0f7a4_28 ?_
  refine V_ldcw hO (v := 252645135) dJ6_bitCount_0f7a4_29 cn_J6_267 ?_
  refine V_iand hO dJ6_bitCount_0f7a4_32 ?_
  refine V_istore_nN hO (ls2 := fun v3 => [(0, .int v3)]) dJ6_bitCount_0f7a4_33 rfl (by decide) (fun _ => rfl) (fun v3 => ?_)
  refine V_iload_n hO 0 dJ6_bitCount_0f7a4_34 rfl rfl ?_
  refine V_iload_n hO 0 dJ6_bitCount_0f7a4_35 rfl rfl ?_
  refine V_bipush hO 8 dJ6_bitCount_0f7a4_36 (by decide) ?_
  refine V_iushr hO dJ6_bitCount_0f7a4_38 ?_
  refine V_iadd hO dJ6_bitCount_0f7a4_39 ?_
  refine V_istore_nN hO (ls2 := fun v4 => [(0, .int v4)]) dJ6_bitCount_0f7a4_40 rfl (by decide) (fun _ => rfl) (fun v4 => ?_)
  refine V_iload_n hO 0 dJ6_bitCount_0f7a4_41 rfl rfl ?_
  refine V_iload_n hO 0 dJ6_bitCount_0f7a4_42 rfl rfl ?_
  refine V_bipush hO 16 dJ6_bitCount_0f7a4_43 (by decide) ?_
  refine V_iushr hO dJ6_bitCount_0f7a4_45 ?_
  refine V_iadd hO dJ6_bitCount_0f7a4_46 ?_
  refine V_istore_nN hO (ls2 := fun v5 => [(0, .int v5)]) dJ6_bitCount_0f7a4_47 rfl (by decide) (fun _ => rfl) (fun v5 => ?_)
  refine V_iload_n hO 0 dJ6_bitCount_0f7a4_48 rfl rfl ?_
  refine V_bipush hO 63 dJ6_bitCount_0f7a4_49 (by decide) ?_
  refine V_iand hO dJ6_bitCount_0f7a4_51 ?_
  exact V_iret hO hR rfl dJ6_bitCount_0f7a4_52
set_option maxHeartbeats 4000000 in
set_option maxRecDepth 100000 in
theorem C_J6_bitCount_0f7a4 (α : Nat → Nat) (p1 : Int32) (σ : Hp) : Ct yJ6_bitCount_0f7a4 cJ6_bitCount_0f7a4 1 (some .int) 0 0 α [.int p1] σ (kI σ (F_J6_bitCount_0f7a4 p1 σ)) := ct_of_V (own := RJ6) rfl (by decide +kernel) (Nat.le_of_ble_eq_true rfl) fun _ hO hR => T_J6_bitCount_0f7a4 hO hR p1 σ
/-! X1_keepBetter -/
noncomputable def F_X1_keepBetter_29 (k4 : Int32 → Int32 → Int32 → Hp → (Option Hp)) (w1 : Int32) (w2 : Int32) (w3 : Int32) (h : Hp) : Option Hp :=
  k4 w1 w2 (w3 + 1) h
noncomputable def F_X1_keepBetter_75  (w1 : Int32) (w2 : Int32) (h : Hp) : Option Hp :=
  lt (up h 46 0 w2) fun h1 =>
  lt (up h1 46 1 w1) fun h2 =>
  some h2
noncomputable def F_X1_keepBetter_54  (w1 : Int32) (w2 : Int32) (s0 : Bool) (h : Hp) : Option Hp :=
  if (h.1 46 0) < w2 then
  F_X1_keepBetter_75 w1 w2 h
  else
  if w2 = (h.1 46 0) then
  if s0 = true then
  F_X1_keepBetter_75 w1 w2 h
  else
  some h
  else
  some h
noncomputable def F_X1_keepBetter_4  : Nat → Int32 → Int32 → Int32 → Hp → Option Hp
  | 0, _, _, _, _ => none
  | n + 1, w1, w2, w3, h =>
    if (h.1 46 2) ≤ w3 then
    if (F_J6_bitCount_0f7a4 (h.1 46 1) h) ≤ (F_J6_bitCount_0f7a4 w1 h) then
    F_X1_keepBetter_54 w1 w2 false h
    else
    F_X1_keepBetter_54 w1 w2 true h
    else
    if ((w1 >>> (w3 &&& 31)) &&& (1 : Int32)) = 0 then
    F_X1_keepBetter_29 (F_X1_keepBetter_4 n) w1 w2 w3 h
    else
    if inb w3 10 = true then
    lt (w2 + (h.1 48 (Int32.toNatClampNeg w3))) fun v4 =>
    F_X1_keepBetter_29 (F_X1_keepBetter_4 n) w1 v4 w3 h
    else none
noncomputable def F_X1_keepBetter  (p1 : Int32) (σ : Hp) : Option Hp :=
  F_X1_keepBetter_4 fuel p1 (0 : Int32) (0 : Int32) σ
set_option maxHeartbeats 4000000 in
set_option maxRecDepth 100000 in
theorem T_X1_keepBetter_29 {G : Gm} {α : Nat → Nat} (hO : Ok G α cX1_keepBetter 4 RX1 1 20) (hR : Rt G α none) (k4 : Int32 → Int32 → Int32 → Hp → (Option Hp)) (hk4 : ∀ (w1 : Int32) (w2 : Int32) (w3 : Int32) (h : Hp), V G α 4 (kSV) 4 [(0, .ref (α (46))), (1, .int w1), (2, .int w2), (3, .int w3)] [] h (k4 w1 w2 w3 h)) : ∀ (w1 : Int32) (w2 : Int32) (w3 : Int32) (h : Hp), V G α 4 (kSV) 29 [(0, .ref (α (46))), (1, .int w1), (2, .int w2), (3, .int w3)] [] h (F_X1_keepBetter_29 k4 w1 w2 w3 h) := by
  intro w1 w2 w3 h
  rw [F_X1_keepBetter_29]
  refine V_iinc hO (ls2 := [(3, .int (w3 + 1)), (0, .ref (α (46))), (1, .int w1), (2, .int w2)]) (z := 1) 3 dX1_keepBetter_29 rfl (by decide) (by decide) rfl ?_
  refine V_goto hO 4 dX1_keepBetter_32 (by decide) ?_
  exact V_sub [1, 2, 3, 0] rfl (hk4 w1 w2 (w3 + 1) h )
set_option maxHeartbeats 4000000 in
set_option maxRecDepth 100000 in
theorem T_X1_keepBetter_75 {G : Gm} {α : Nat → Nat} (hO : Ok G α cX1_keepBetter 4 RX1 1 20) (hR : Rt G α none) : ∀ (w1 : Int32) (w2 : Int32) (h : Hp), V G α 4 (kSV) 75 [(0, .ref (α (46))), (1, .int w1), (2, .int w2)] [] h (F_X1_keepBetter_75 w1 w2 h) := by
  intro w1 w2 h
  rw [F_X1_keepBetter_75]
  refine V_aload_n hO 0 dX1_keepBetter_75 rfl rfl ?_
  refine V_iload_n hO 2 dX1_keepBetter_76 rfl rfl ?_
  refine V_puti hO fp_X1_25 (by decide) (fun _ _ => ce_46) (Nat.le_of_ble_eq_true rfl) (fun _ _ => pe_46_0) dX1_keepBetter_77 (V_name fun h1 => ?_)
  refine V_aload_n hO 0 dX1_keepBetter_80 rfl rfl ?_
  refine V_iload_n hO 1 dX1_keepBetter_81 rfl rfl ?_
  refine V_puti hO fp_X1_29 (by decide) (fun _ _ => ce_46) (Nat.le_of_ble_eq_true rfl) (fun _ _ => pe_46_1) dX1_keepBetter_82 (V_name fun h2 => ?_)
  exact V_vret hO hR rfl dX1_keepBetter_85
set_option maxHeartbeats 4000000 in
set_option maxRecDepth 100000 in
theorem T_X1_keepBetter_54 {G : Gm} {α : Nat → Nat} (hO : Ok G α cX1_keepBetter 4 RX1 1 20) (hR : Rt G α none) : ∀ (w1 : Int32) (w2 : Int32) (s0 : Bool) (h : Hp), V G α 4 (kSV) 54 [(0, .ref (α (46))), (1, .int w1), (2, .int w2)] [.int (b2i s0)] h (F_X1_keepBetter_54 w1 w2 s0 h) := by
  intro w1 w2 s0 h
  rw [F_X1_keepBetter_54]
  refine V_istore_n hO (ls2 := [(3, .int (b2i s0)), (0, .ref (α (46))), (1, .int w1), (2, .int w2)]) dX1_keepBetter_54 rfl (by decide) rfl ?_
  refine V_iload_n hO 3 dX1_keepBetter_55 rfl rfl ?_
  refine V_aload_n hO 1 dX1_keepBetter_56 rfl rfl ?_
  refine V_get hO (v := .int (h.1 46 0)) fl_X1_25 (by decide) (fun _ _ => ce_46) rfl dX1_keepBetter_57 ?_
  refine V_icmp_gt hO 75 dX1_keepBetter_60 (by decide) ?_ ?_
  · exact V_sub [1, 2, 3] rfl (T_X1_keepBetter_75 hO hR w1 w2 h )
  · refine V_iload_n hO 3 dX1_keepBetter_63 rfl rfl ?_
    refine V_aload_n hO 1 dX1_keepBetter_64 rfl rfl ?_
    refine V_get hO (v := .int (h.1 46 0)) fl_X1_25 (by decide) (fun _ _ => ce_46) rfl dX1_keepBetter_65 ?_
    refine V_icmp_ne hO 85 dX1_keepBetter_68 (by decide) ?_ ?_
    · exact V_vret hO hR rfl dX1_keepBetter_85
    · refine V_iload_n hO 0 dX1_keepBetter_71 rfl rfl ?_
      refine V_ifeqZ hO 85 dX1_keepBetter_72 (by decide) ?_ ?_
      · exact V_vret hO hR rfl dX1_keepBetter_85
      · exact V_sub [1, 2, 3] rfl (T_X1_keepBetter_75 hO hR w1 w2 h )
set_option maxHeartbeats 4000000 in
set_option maxRecDepth 100000 in
theorem T_X1_keepBetter_4 {G : Gm} {α : Nat → Nat} (hO : Ok G α cX1_keepBetter 4 RX1 1 20) (hR : Rt G α none) : ∀ (fuel : Nat) (w1 : Int32) (w2 : Int32) (w3 : Int32) (h : Hp), V G α 4 (kSV) 4 [(0, .ref (α (46))), (1, .int w1), (2, .int w2), (3, .int w3)] [] h (F_X1_keepBetter_4 fuel w1 w2 w3 h) := by
  intro fuel
  induction fuel with
  | zero => intro w1 w2 w3 h; exact V_none rfl
  | succ n ih =>
    intro w1 w2 w3 h
    rw [F_X1_keepBetter_4]
    refine V_iload_n hO 3 dX1_keepBetter_4 rfl rfl ?_
    refine V_aload_n hO 0 dX1_keepBetter_5 rfl rfl ?_
    refine V_get hO (v := .int (h.1 46 2)) fl_X1_32 (by decide) (fun _ _ => ce_46) rfl dX1_keepBetter_6 ?_
    refine V_icmp_ge hO 35 dX1_keepBetter_9 (by decide) ?_ ?_
    · refine V_iload_n hO 1 dX1_keepBetter_35 rfl rfl ?_
      refine V_callS hO ml_X1_73 (C_J6_bitCount_0f7a4 α w1 h) (rest := []) rfl rfl (Nat.le_of_ble_eq_true rfl) ⟨Nat.le_of_ble_eq_true rfl, Nat.le_of_ble_eq_true rfl⟩ dX1_keepBetter_36 (kc_I ?_)
      refine V_aload_n hO 0 dX1_keepBetter_39 rfl rfl ?_
      refine V_get hO (v := .int (h.1 46 1)) fl_X1_29 (by decide) (fun _ _ => ce_46) rfl dX1_keepBetter_40 ?_
      refine V_callS hO ml_X1_73 (C_J6_bitCount_0f7a4 α (h.1 46 1) h) (rest := [.int (F_J6_bitCount_0f7a4 w1 h)]) rfl rfl (Nat.le_of_ble_eq_true rfl) ⟨Nat.le_of_ble_eq_true rfl, Nat.le_of_ble_eq_true rfl⟩ dX1_keepBetter_43 (kc_I ?_)
      refine V_icmp_ge hO 53 dX1_keepBetter_46 (by decide) ?_ ?_
      · refine V_iconst hO 0 dX1_keepBetter_53 (by decide) ?_
        exact V_sub [0, 1, 2] rfl (T_X1_keepBetter_54 hO hR w1 w2 false h )
      · refine V_iconst hO 1 dX1_keepBetter_49 (by decide) ?_
        refine V_goto hO 54 dX1_keepBetter_50 (by decide) ?_
        exact V_sub [0, 1, 2] rfl (T_X1_keepBetter_54 hO hR w1 w2 true h )
    · refine V_iload_n hO 1 dX1_keepBetter_12 rfl rfl ?_
      refine V_iload_n hO 3 dX1_keepBetter_13 rfl rfl ?_
      refine V_ishr hO dX1_keepBetter_14 ?_
      refine V_iconst hO 1 dX1_keepBetter_15 (by decide) ?_
      refine V_iand hO dX1_keepBetter_16 ?_
      refine V_if_eq hO 29 dX1_keepBetter_17 (by decide) ?_ ?_
      · exact V_sub [0, 1, 2, 3] rfl (T_X1_keepBetter_29 hO hR (F_X1_keepBetter_4 n) ih w1 w2 w3 h )
      · refine V_iload_n hO 2 dX1_keepBetter_20 rfl rfl ?_
        refine V_aload_n hO 0 dX1_keepBetter_21 rfl rfl ?_
        refine V_get hO (v := .ref (α (48))) fl_X1_15 (by decide) (fun _ _ => ce_46) rfl dX1_keepBetter_22 ?_
        refine V_iload_n hO 3 dX1_keepBetter_25 rfl rfl ?_
        refine V_chk rfl fun c3 => ?_
        refine V_iald hO (by decide) (fun _ _ => ce_48) (inb_in c3) dX1_keepBetter_26 ?_
        refine V_iadd hO dX1_keepBetter_27 ?_
        refine V_istore_nN hO (ls2 := fun v4 => [(2, .int v4), (0, .ref (α (46))), (1, .int w1), (3, .int w3)]) dX1_keepBetter_28 rfl (by decide) (fun _ => rfl) (fun v4 => ?_)
        exact V_sub [1, 2, 0, 3] rfl (T_X1_keepBetter_29 hO hR (F_X1_keepBetter_4 n) ih w1 v4 w3 h )
set_option maxHeartbeats 4000000 in
set_option maxRecDepth 100000 in
theorem T_X1_keepBetter {G : Gm} {α : Nat → Nat} (hO : Ok G α cX1_keepBetter 4 RX1 1 20) (hR : Rt G α none) (p1 : Int32) (σ : Hp) : V G α 4 (kSV) 0 [(0, .ref (α (46))), (1, .int p1)] [] σ (F_X1_keepBetter p1 σ) := by
  rw [F_X1_keepBetter]
  refine V_iconst hO 0 dX1_keepBetter_0 (by decide) ?_
  refine V_istore_n hO (ls2 := [(2, .int 0), (0, .ref (α (46))), (1, .int p1)]) dX1_keepBetter_1 rfl (by decide) rfl ?_
  refine V_iconst hO 0 dX1_keepBetter_2 (by decide) ?_
  refine V_istore_n hO (ls2 := [(3, .int 0), (2, .int 0), (0, .ref (α (46))), (1, .int p1)]) dX1_keepBetter_3 rfl (by decide) rfl ?_
  exact V_sub [2, 3, 1, 0] rfl (T_X1_keepBetter_4 hO hR fuel p1 (0 : Int32) (0 : Int32) σ )
set_option maxHeartbeats 4000000 in
set_option maxRecDepth 100000 in
theorem C_X1_keepBetter (α : Nat → Nat) (p1 : Int32) (σ : Hp) : Ct yX1_keepBetter cX1_keepBetter 4 none 1 20 α [.ref (α (46)), .int p1] σ (kSV (F_X1_keepBetter p1 σ)) := ct_of_V (own := RX1) rfl (by decide +kernel) (Nat.le_of_ble_eq_true rfl) fun _ hO hR => T_X1_keepBetter hO hR p1 σ
/-! X1_choose -/
noncomputable def F_X1_choose_72 (k27 : Int32 → Int32 → Int32 → Hp → (Option Hp)) (w2 : Int32) (w3 : Int32) (w4 : Int32) (h : Hp) : Option Hp :=
  k27 w2 w3 (w4 + 1) h
noncomputable def F_X1_choose_27  : Nat → Int32 → Int32 → Int32 → Hp → Option Hp
  | 0, _, _, _, _ => none
  | n + 1, w2, w3, w4, h =>
    if ((1 : Int32) <<< ((h.1 46 2) &&& 31)) ≤ w4 then
    some h
    else
    (F_X1_pack w4 w3 h).bind fun v1 =>
    if inb w4 1024 = true then
    lt (up h 49 (Int32.toNatClampNeg w4) v1) fun h3 =>
    if inb w4 1024 = true then
    if w2 < ((h3.1 49 (Int32.toNatClampNeg w4)) >>> ((8 : Int32) &&& 31)) then
    F_X1_choose_72 (F_X1_choose_27 n) w2 w3 w4 h3
    else
    (F_X1_keepBetter w4 h3).bind fun q5 =>
    F_X1_choose_72 (F_X1_choose_27 n) w2 w3 w4 q5
    else none
    else none
noncomputable def F_X1_choose  (p2 : Int32) (p3 : Int32) (σ : Hp) : Option Hp :=
  (F_X1_weigh σ).bind fun q6 =>
  lt (up q6 46 0 (0 : Int32)) fun h7 =>
  lt (up h7 46 1 (0 : Int32)) fun h8 =>
  lt (up h8 49 (Int32.toNatClampNeg (0 : Int32)) (256 : Int32)) fun h10 =>
  F_X1_choose_27 fuel p2 p3 (1 : Int32) h10
set_option maxHeartbeats 4000000 in
set_option maxRecDepth 100000 in
theorem T_X1_choose_72 {G : Gm} {α : Nat → Nat} (hO : Ok G α cX1_choose 5 RX1 4 86) (hR : Rt G α none) (k27 : Int32 → Int32 → Int32 → Hp → (Option Hp)) (hk27 : ∀ (w2 : Int32) (w3 : Int32) (w4 : Int32) (h : Hp), V G α 5 (kSV) 27 [(0, .ref (α (46))), (2, .int w2), (3, .int w3), (4, .int w4)] [] h (k27 w2 w3 w4 h)) : ∀ (w2 : Int32) (w3 : Int32) (w4 : Int32) (h : Hp), V G α 5 (kSV) 72 [(0, .ref (α (46))), (2, .int w2), (3, .int w3), (4, .int w4)] [] h (F_X1_choose_72 k27 w2 w3 w4 h) := by
  intro w2 w3 w4 h
  rw [F_X1_choose_72]
  refine V_iinc hO (ls2 := [(4, .int (w4 + 1)), (0, .ref (α (46))), (2, .int w2), (3, .int w3)]) (z := 1) 3 dX1_choose_72 rfl (by decide) (by decide) rfl ?_
  refine V_goto hO 27 dX1_choose_75 (by decide) ?_
  exact V_sub [1, 2, 3, 0] rfl (hk27 w2 w3 (w4 + 1) h )
set_option maxHeartbeats 4000000 in
set_option maxRecDepth 100000 in
theorem T_X1_choose_27 {G : Gm} {α : Nat → Nat} (hO : Ok G α cX1_choose 5 RX1 4 86) (hR : Rt G α none) : ∀ (fuel : Nat) (w2 : Int32) (w3 : Int32) (w4 : Int32) (h : Hp), V G α 5 (kSV) 27 [(0, .ref (α (46))), (2, .int w2), (3, .int w3), (4, .int w4)] [] h (F_X1_choose_27 fuel w2 w3 w4 h) := by
  intro fuel
  induction fuel with
  | zero => intro w2 w3 w4 h; exact V_none rfl
  | succ n ih =>
    intro w2 w3 w4 h
    rw [F_X1_choose_27]
    refine V_iload hO 3 dX1_choose_27 rfl ?_
    refine V_iconst hO 1 dX1_choose_29 (by decide) ?_
    refine V_aload_n hO 0 dX1_choose_30 rfl rfl ?_
    refine V_get hO (v := .int (h.1 46 2)) fl_X1_32 (by decide) (fun _ _ => ce_46) rfl dX1_choose_31 ?_
    refine V_ishl hO dX1_choose_34 ?_
    refine V_icmp_ge hO 78 dX1_choose_35 (by decide) ?_ ?_
    · exact V_vret hO hR rfl dX1_choose_78
    · refine V_aload_n hO 0 dX1_choose_38 rfl rfl ?_
      refine V_get hO (v := .ref (α (49))) fl_X1_18 (by decide) (fun _ _ => ce_46) rfl dX1_choose_39 ?_
      refine V_iload hO 3 dX1_choose_42 rfl ?_
      refine V_aload_n hO 0 dX1_choose_44 rfl rfl ?_
      refine V_iload hO 3 dX1_choose_45 rfl ?_
      refine V_iload_n hO 2 dX1_choose_47 rfl rfl ?_
      refine V_callV hO ml_X1_35 (C_X1_pack α w4 w3 h) (by decide) (fun _ _ => ce_46) rfl rfl (rest := [.int w4, .ref (α (49))]) rfl rfl (Nat.le_of_ble_eq_true rfl) ⟨Nat.le_of_ble_eq_true rfl, Nat.le_of_ble_eq_true rfl⟩ dX1_choose_48 (kc_OI rfl fun v1 => ?_)
      refine V_chk rfl fun c2 => ?_
      refine V_iast hO (by decide) (fun _ _ _ => ce_49) (inb_in c2) dX1_choose_51 (V_name fun h3 => ?_)
      refine V_aload_n hO 0 dX1_choose_52 rfl rfl ?_
      refine V_get hO (v := .ref (α (49))) fl_X1_18 (by decide) (fun _ _ => ce_46) rfl dX1_choose_53 ?_
      refine V_iload hO 3 dX1_choose_56 rfl ?_
      refine V_chk rfl fun c4 => ?_
      refine V_iald hO (by decide) (fun _ _ => ce_49) (inb_in c4) dX1_choose_58 ?_
      refine V_bipush hO 8 dX1_choose_59 (by decide) ?_
      refine V_ishr hO dX1_choose_61 ?_
      refine V_iload_n hO 1 dX1_choose_62 rfl rfl ?_
      refine V_icmp_gt hO 72 dX1_choose_63 (by decide) ?_ ?_
      · exact V_sub [0, 1, 2, 3] rfl (T_X1_choose_72 hO hR (F_X1_choose_27 n) ih w2 w3 w4 h3 )
      · refine V_aload_n hO 0 dX1_choose_66 rfl rfl ?_
        refine V_iload hO 3 dX1_choose_67 rfl ?_
        refine V_callV hO ml_X1_39 (C_X1_keepBetter α w4 h3) (by decide) (fun _ _ => ce_46) rfl rfl (rest := []) rfl rfl (Nat.le_of_ble_eq_true rfl) ⟨Nat.le_of_ble_eq_true rfl, Nat.le_of_ble_eq_true rfl⟩ dX1_choose_69 (kc_SV rfl fun q5 => ?_)
        exact V_sub [0, 1, 2, 3] rfl (T_X1_choose_72 hO hR (F_X1_choose_27 n) ih w2 w3 w4 q5 )
set_option maxHeartbeats 4000000 in
set_option maxRecDepth 100000 in
theorem T_X1_choose {G : Gm} {α : Nat → Nat} (hO : Ok G α cX1_choose 5 RX1 4 86) (hR : Rt G α none) (p2 : Int32) (p3 : Int32) (σ : Hp) : V G α 5 (kSV) 0 [(0, .ref (α (46))), (1, .ref (α (30))), (2, .int p2), (3, .int p3)] [] σ (F_X1_choose p2 p3 σ) := by
  rw [F_X1_choose]
  refine V_aload_n hO 0 dX1_choose_0 rfl rfl ?_
  refine V_aload_n hO 1 dX1_choose_1 rfl rfl ?_
  refine V_callV hO ml_X1_21 (C_X1_weigh α σ) (by decide) (fun _ _ => ce_46) rfl rfl (rest := []) rfl rfl (Nat.le_of_ble_eq_true rfl) ⟨Nat.le_of_ble_eq_true rfl, Nat.le_of_ble_eq_true rfl⟩ dX1_choose_2 (kc_SV rfl fun q6 => ?_)
  refine V_aload_n hO 0 dX1_choose_5 rfl rfl ?_
  refine V_iconst hO 0 dX1_choose_6 (by decide) ?_
  refine V_puti hO fp_X1_25 (by decide) (fun _ _ => ce_46) (Nat.le_of_ble_eq_true rfl) (fun _ _ => pe_46_0) dX1_choose_7 (V_name fun h7 => ?_)
  refine V_aload_n hO 0 dX1_choose_10 rfl rfl ?_
  refine V_iconst hO 0 dX1_choose_11 (by decide) ?_
  refine V_puti hO fp_X1_29 (by decide) (fun _ _ => ce_46) (Nat.le_of_ble_eq_true rfl) (fun _ _ => pe_46_1) dX1_choose_12 (V_name fun h8 => ?_)
  refine V_aload_n hO 0 dX1_choose_15 rfl rfl ?_
  refine V_get hO (v := .ref (α (49))) fl_X1_18 (by decide) (fun _ _ => ce_46) rfl dX1_choose_16 ?_
  refine V_iconst hO 0 dX1_choose_19 (by decide) ?_
  refine V_sipush hO 256 dX1_choose_20 (by decide) ?_
  refine V_iast hO (by decide) (fun _ _ _ => ce_49) (inb_in (by decide)) dX1_choose_23 (V_name fun h10 => ?_)
  refine V_iconst hO 1 dX1_choose_24 (by decide) ?_
  refine V_istore hO (ls2 := [(4, .int 1), (0, .ref (α (46))), (1, .ref (α (30))), (2, .int p2), (3, .int p3)]) dX1_choose_25 (by decide) rfl ?_
  exact V_sub [1, 3, 4, 0] rfl (T_X1_choose_27 hO hR fuel p2 p3 (1 : Int32) h10 )
set_option maxHeartbeats 4000000 in
set_option maxRecDepth 100000 in
theorem C_X1_choose (α : Nat → Nat) (p2 : Int32) (p3 : Int32) (σ : Hp) : Ct yX1_choose cX1_choose 5 none 4 86 α [.ref (α (46)), .ref (α (30)), .int p2, .int p3] σ (kSV (F_X1_choose p2 p3 σ)) := ct_of_V (own := RX1) rfl (by decide +kernel) (Nat.le_of_ble_eq_true rfl) fun _ hO hR => T_X1_choose hO hR p2 p3 σ
