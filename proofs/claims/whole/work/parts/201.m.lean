/-! X2_codeAt -/
noncomputable def F_X2_codeAt  (p1 : Int64) (p2 : Int32) (σ : Hp) : Int32 :=
  (Int64.toInt32 ((jlushr p1 ((8 : Int32) * p2)) &&& (255 : Int64)))
set_option maxHeartbeats 4000000 in
set_option maxRecDepth 100000 in
theorem T_X2_codeAt {G : Gm} {α : Nat → Nat} (hO : Ok G α cX2_codeAt 3 RX2 0 0) (hR : Rt G α (some .int)) (p1 : Int64) (p2 : Int32) (σ : Hp) : V G α 3 (kI σ) 0 [(0, .long p1), (2, .int p2)] [] σ (F_X2_codeAt p1 p2 σ) := by
  rw [F_X2_codeAt]
  refine V_lload_n hO 0 dX2_codeAt_0 rfl rfl ?_
  refine V_bipush hO 8 dX2_codeAt_1 (by decide) ?_
  refine V_iload_n hO 1 dX2_codeAt_3 rfl rfl ?_
  refine V_imul hO dX2_codeAt_4 ?_
  refine V_lushr hO dX2_codeAt_5 ?_
  refine V_ldc2 hO (v := 255) dX2_codeAt_6 cn_X2_15 ?_
  refine V_land hO dX2_codeAt_9 ?_
  refine V_l2i hO dX2_codeAt_10 ?_
  exact V_iret hO hR rfl dX2_codeAt_11
set_option maxHeartbeats 4000000 in
set_option maxRecDepth 100000 in
theorem C_X2_codeAt (α : Nat → Nat) (p1 : Int64) (p2 : Int32) (σ : Hp) : Ct yX2_codeAt cX2_codeAt 3 (some .int) 0 0 α [.long p1, .int p2] σ (kI σ (F_X2_codeAt p1 p2 σ)) := ct_of_V (own := RX2) rfl (by decide +kernel) (Nat.le_of_ble_eq_true rfl) fun _ hO hR => T_X2_codeAt hO hR p1 p2 σ
/-! X2_lettersIn -/
noncomputable def F_X2_lettersIn_47 (σ : Hp) (k4 : Int64 → Int32 → Int32 → (Option Int32)) (w0 : Int64) (w3 : Int32) (s0 : Bool) (s1 : Int32) : Option Int32 :=
  lt (s1 + (b2i s0)) fun v1 =>
  k4 w0 v1 (w3 + 1)
noncomputable def F_X2_lettersIn_36 (σ : Hp) (k4 : Int64 → Int32 → Int32 → (Option Int32)) (w0 : Int64) (w2 : Int32) (w3 : Int32) (w4 : Int32) : Option Int32 :=
  if w4 = 0 then
  F_X2_lettersIn_47 σ k4 w0 w3 false w2
  else
  F_X2_lettersIn_47 σ k4 w0 w3 true w2
noncomputable def F_X2_lettersIn_4 (σ : Hp) : Nat → Int64 → Int32 → Int32 → Option Int32
  | 0, _, _, _ => none
  | n + 1, w0, w2, w3 =>
    if (8 : Int32) ≤ w3 then
    some w2
    else
    lt (F_X2_codeAt w0 w3 σ) fun v2 =>
    if (126 : Int32) < v2 then
    some ((-1) : Int32)
    else
    if v2 = 0 then
    F_X2_lettersIn_36 σ (F_X2_lettersIn_4 σ n) w0 w2 w3 v2
    else
    if w3 ≤ w2 then
    F_X2_lettersIn_36 σ (F_X2_lettersIn_4 σ n) w0 w2 w3 v2
    else
    some ((-1) : Int32)
noncomputable def F_X2_lettersIn  (p1 : Int64) (σ : Hp) : Option Int32 :=
  F_X2_lettersIn_4 σ fuel p1 (0 : Int32) (0 : Int32)
set_option maxHeartbeats 4000000 in
set_option maxRecDepth 100000 in
theorem T_X2_lettersIn_47 {G : Gm} {α : Nat → Nat} (hO : Ok G α cX2_lettersIn 5 RX2 1 22) (hR : Rt G α (some .int)) (σ : Hp) (k4 : Int64 → Int32 → Int32 → (Option Int32)) (hk4 : ∀ (w0 : Int64) (w2 : Int32) (w3 : Int32), V G α 5 (kOI σ) 4 [(0, .long w0), (2, .int w2), (3, .int w3)] [] σ (k4 w0 w2 w3)) : ∀ (w0 : Int64) (w3 : Int32) (s0 : Bool) (s1 : Int32), V G α 5 (kOI σ) 47 [(0, .long w0), (3, .int w3)] [.int (b2i s0), .int s1] σ (F_X2_lettersIn_47 σ k4 w0 w3 s0 s1) := by
  intro w0 w3 s0 s1
  rw [F_X2_lettersIn_47]
  refine V_iadd hO dX2_lettersIn_47 ?_
  refine V_istore_nN hO (ls2 := fun v1 => [(2, .int v1), (0, .long w0), (3, .int w3)]) dX2_lettersIn_48 rfl (by decide) (fun _ => rfl) (fun v1 => ?_)
  refine V_iinc hO (ls2 := [(3, .int (w3 + 1)), (2, .int v1), (0, .long w0)]) (z := 1) 2 dX2_lettersIn_49 rfl (by decide) (by decide) rfl ?_
  refine V_goto hO 4 dX2_lettersIn_52 (by decide) ?_
  exact V_sub [2, 1, 0] rfl (hk4 w0 v1 (w3 + 1) )
set_option maxHeartbeats 4000000 in
set_option maxRecDepth 100000 in
theorem T_X2_lettersIn_36 {G : Gm} {α : Nat → Nat} (hO : Ok G α cX2_lettersIn 5 RX2 1 22) (hR : Rt G α (some .int)) (σ : Hp) (k4 : Int64 → Int32 → Int32 → (Option Int32)) (hk4 : ∀ (w0 : Int64) (w2 : Int32) (w3 : Int32), V G α 5 (kOI σ) 4 [(0, .long w0), (2, .int w2), (3, .int w3)] [] σ (k4 w0 w2 w3)) : ∀ (w0 : Int64) (w2 : Int32) (w3 : Int32) (w4 : Int32), V G α 5 (kOI σ) 36 [(0, .long w0), (2, .int w2), (3, .int w3), (4, .int w4)] [] σ (F_X2_lettersIn_36 σ k4 w0 w2 w3 w4) := by
  intro w0 w2 w3 w4
  rw [F_X2_lettersIn_36]
  refine V_iload_n hO 1 dX2_lettersIn_36 rfl rfl ?_
  refine V_iload hO 3 dX2_lettersIn_37 rfl ?_
  refine V_if_eq hO 46 dX2_lettersIn_39 (by decide) ?_ ?_
  · refine V_iconst hO 0 dX2_lettersIn_46 (by decide) ?_
    exact V_sub [0, 2] rfl (T_X2_lettersIn_47 hO hR σ k4 hk4 w0 w3 false w2 )
  · refine V_iconst hO 1 dX2_lettersIn_42 (by decide) ?_
    refine V_goto hO 47 dX2_lettersIn_43 (by decide) ?_
    exact V_sub [0, 2] rfl (T_X2_lettersIn_47 hO hR σ k4 hk4 w0 w3 true w2 )
set_option maxHeartbeats 4000000 in
set_option maxRecDepth 100000 in
theorem T_X2_lettersIn_4 {G : Gm} {α : Nat → Nat} (hO : Ok G α cX2_lettersIn 5 RX2 1 22) (hR : Rt G α (some .int)) (σ : Hp) : ∀ (fuel : Nat) (w0 : Int64) (w2 : Int32) (w3 : Int32), V G α 5 (kOI σ) 4 [(0, .long w0), (2, .int w2), (3, .int w3)] [] σ (F_X2_lettersIn_4 σ fuel w0 w2 w3) := by
  intro fuel
  induction fuel with
  | zero => intro w0 w2 w3; exact V_none rfl
  | succ n ih =>
    intro w0 w2 w3
    rw [F_X2_lettersIn_4]
    refine V_iload_n hO 2 dX2_lettersIn_4 rfl rfl ?_
    refine V_bipush hO 8 dX2_lettersIn_5 (by decide) ?_
    refine V_icmp_ge hO 55 dX2_lettersIn_7 (by decide) ?_ ?_
    · refine V_iload_n hO 1 dX2_lettersIn_55 rfl rfl ?_
      exact V_iret hO hR rfl dX2_lettersIn_56
    · refine V_lload_n hO 0 dX2_lettersIn_10 rfl rfl ?_
      refine V_iload_n hO 2 dX2_lettersIn_11 rfl rfl ?_
      refine V_callS hO ml_X2_17 (C_X2_codeAt α w0 w3 σ) (rest := []) rfl rfl (Nat.le_of_ble_eq_true rfl) ⟨Nat.le_of_ble_eq_true rfl, Nat.le_of_ble_eq_true rfl⟩ dX2_lettersIn_12 (kc_I ?_)
      refine V_istoreN hO (ls2 := fun v2 => [(4, .int v2), (0, .long w0), (2, .int w2), (3, .int w3)]) dX2_lettersIn_15 (by decide) (fun _ => rfl) (fun v2 => ?_)
      refine V_iload hO 0 dX2_lettersIn_17 rfl ?_
      refine V_bipush hO 126 dX2_lettersIn_19 (by decide) ?_
      refine V_icmp_gt hO 34 dX2_lettersIn_21 (by decide) ?_ ?_
      · refine V_iconst hO (-1) dX2_lettersIn_34 (by decide) ?_
        exact V_iret hO hR rfl dX2_lettersIn_35
      · refine V_iload hO 0 dX2_lettersIn_24 rfl ?_
        refine V_if_eq hO 36 dX2_lettersIn_26 (by decide) ?_ ?_
        · exact V_sub [1, 2, 3, 0] rfl (T_X2_lettersIn_36 hO hR σ (F_X2_lettersIn_4 σ n) ih w0 w2 w3 v2 )
        · refine V_iload_n hO 2 dX2_lettersIn_29 rfl rfl ?_
          refine V_iload_n hO 3 dX2_lettersIn_30 rfl rfl ?_
          refine V_icmp_ge hO 36 dX2_lettersIn_31 (by decide) ?_ ?_
          · exact V_sub [1, 2, 3, 0] rfl (T_X2_lettersIn_36 hO hR σ (F_X2_lettersIn_4 σ n) ih w0 w2 w3 v2 )
          · refine V_iconst hO (-1) dX2_lettersIn_34 (by decide) ?_
            exact V_iret hO hR rfl dX2_lettersIn_35
set_option maxHeartbeats 4000000 in
set_option maxRecDepth 100000 in
theorem T_X2_lettersIn {G : Gm} {α : Nat → Nat} (hO : Ok G α cX2_lettersIn 5 RX2 1 22) (hR : Rt G α (some .int)) (p1 : Int64) (σ : Hp) : V G α 5 (kOI σ) 0 [(0, .long p1)] [] σ (F_X2_lettersIn p1 σ) := by
  rw [F_X2_lettersIn]
  refine V_iconst hO 0 dX2_lettersIn_0 (by decide) ?_
  refine V_istore_n hO (ls2 := [(2, .int 0), (0, .long p1)]) dX2_lettersIn_1 rfl (by decide) rfl ?_
  refine V_iconst hO 0 dX2_lettersIn_2 (by decide) ?_
  refine V_istore_n hO (ls2 := [(3, .int 0), (2, .int 0), (0, .long p1)]) dX2_lettersIn_3 rfl (by decide) rfl ?_
  exact V_sub [2, 1, 0] rfl (T_X2_lettersIn_4 hO hR σ fuel p1 (0 : Int32) (0 : Int32) )
set_option maxHeartbeats 4000000 in
set_option maxRecDepth 100000 in
theorem C_X2_lettersIn (α : Nat → Nat) (p1 : Int64) (σ : Hp) : Ct yX2_lettersIn cX2_lettersIn 5 (some .int) 1 22 α [.long p1] σ (kOI σ (F_X2_lettersIn p1 σ)) := ct_of_V (own := RX2) rfl (by decide +kernel) (Nat.le_of_ble_eq_true rfl) fun _ hO hR => T_X2_lettersIn hO hR p1 σ
/-! X2_append -/
noncomputable def F_X2_append_3  : Nat → Int64 → Int32 → Int32 → Hp → Option Hp
  | 0, _, _, _, _ => none
  | n + 1, w1, w3, w4, h =>
    if w3 ≤ w4 then
    some h
    else
    if (24 : Int32) ≤ (h.1 39 1) then
    some h
    else
    if inb (h.1 39 1) 24 = true then
    lt (up h 40 (Int32.toNatClampNeg (h.1 39 1)) (F_X2_codeAt w1 w4 h)) fun h2 =>
    lt (up h2 39 1 ((h2.1 39 1) + (1 : Int32))) fun h3 =>
    F_X2_append_3 n w1 w3 (w4 + 1) h3
    else none
noncomputable def F_X2_append  (p1 : Int64) (p2 : Int32) (σ : Hp) : Option Hp :=
  F_X2_append_3 fuel p1 p2 (0 : Int32) σ
set_option maxHeartbeats 4000000 in
set_option maxRecDepth 100000 in
theorem T_X2_append_3 {G : Gm} {α : Nat → Nat} (hO : Ok G α cX2_append 5 RX2 1 22) (hR : Rt G α none) : ∀ (fuel : Nat) (w1 : Int64) (w3 : Int32) (w4 : Int32) (h : Hp), V G α 5 (kSV) 3 [(0, .ref (α (39))), (1, .long w1), (3, .int w3), (4, .int w4)] [] h (F_X2_append_3 fuel w1 w3 w4 h) := by
  intro fuel
  induction fuel with
  | zero => intro w1 w3 w4 h; exact V_none rfl
  | succ n ih =>
    intro w1 w3 w4 h
    rw [F_X2_append_3]
    refine V_iload hO 3 dX2_append_3 rfl ?_
    refine V_iload_n hO 2 dX2_append_5 rfl rfl ?_
    refine V_icmp_ge hO 49 dX2_append_6 (by decide) ?_ ?_
    · exact V_vret hO hR rfl dX2_append_49
    · refine V_aload_n hO 0 dX2_append_9 rfl rfl ?_
      refine V_get hO (v := .int (h.1 39 1)) fl_X2_21 (by decide) (fun _ _ => ce_39) rfl dX2_append_10 ?_
      refine V_bipush hO 24 dX2_append_13 (by decide) ?_
      refine V_icmp_ge hO 49 dX2_append_15 (by decide) ?_ ?_
      · exact V_vret hO hR rfl dX2_append_49
      · refine V_aload_n hO 0 dX2_append_18 rfl rfl ?_
        refine V_get hO (v := .ref (α (40))) fl_X2_9 (by decide) (fun _ _ => ce_39) rfl dX2_append_19 ?_
        refine V_aload_n hO 0 dX2_append_22 rfl rfl ?_
        refine V_get hO (v := .int (h.1 39 1)) fl_X2_21 (by decide) (fun _ _ => ce_39) rfl dX2_append_23 ?_
        refine V_lload_n hO 1 dX2_append_26 rfl rfl ?_
        refine V_iload hO 3 dX2_append_27 rfl ?_
        refine V_callS hO ml_X2_17 (C_X2_codeAt α w1 w4 h) (rest := [.int (h.1 39 1), .ref (α (40))]) rfl rfl (Nat.le_of_ble_eq_true rfl) ⟨Nat.le_of_ble_eq_true rfl, Nat.le_of_ble_eq_true rfl⟩ dX2_append_29 (kc_I ?_)
        refine V_chk rfl fun c1 => ?_
        refine V_iast hO (by decide) (fun _ _ _ => ce_40) (inb_in c1) dX2_append_32 (V_name fun h2 => ?_)
        refine V_aload_n hO 0 dX2_append_33 rfl rfl ?_
        refine V_dup hO dX2_append_34 rfl ?_
        refine V_get hO (v := .int (h2.1 39 1)) fl_X2_21 (by decide) (fun _ _ => ce_39) rfl dX2_append_35 ?_
        refine V_iconst hO 1 dX2_append_38 (by decide) ?_
        refine V_iadd hO dX2_append_39 ?_
        refine V_puti hO fp_X2_21 (by decide) (fun _ _ => ce_39) (Nat.le_of_ble_eq_true rfl) (fun _ _ => pe_39_1) dX2_append_40 (V_name fun h3 => ?_)
        refine V_iinc hO (ls2 := [(4, .int (w4 + 1)), (0, .ref (α (39))), (1, .long w1), (3, .int w3)]) (z := 1) 3 dX2_append_43 rfl (by decide) (by decide) rfl ?_
        refine V_goto hO 3 dX2_append_46 (by decide) ?_
        exact V_sub [1, 2, 3, 0] rfl (ih w1 w3 (w4 + 1) h3 )
set_option maxHeartbeats 4000000 in
set_option maxRecDepth 100000 in
theorem T_X2_append {G : Gm} {α : Nat → Nat} (hO : Ok G α cX2_append 5 RX2 1 22) (hR : Rt G α none) (p1 : Int64) (p2 : Int32) (σ : Hp) : V G α 5 (kSV) 0 [(0, .ref (α (39))), (1, .long p1), (3, .int p2)] [] σ (F_X2_append p1 p2 σ) := by
  rw [F_X2_append]
  refine V_iconst hO 0 dX2_append_0 (by decide) ?_
  refine V_istore hO (ls2 := [(4, .int 0), (0, .ref (α (39))), (1, .long p1), (3, .int p2)]) dX2_append_1 (by decide) rfl ?_
  exact V_sub [1, 2, 3, 0] rfl (T_X2_append_3 hO hR fuel p1 p2 (0 : Int32) σ )
set_option maxHeartbeats 4000000 in
set_option maxRecDepth 100000 in
theorem C_X2_append (α : Nat → Nat) (p1 : Int64) (p2 : Int32) (σ : Hp) : Ct yX2_append cX2_append 5 none 1 22 α [.ref (α (39)), .long p1, .int p2] σ (kSV (F_X2_append p1 p2 σ)) := ct_of_V (own := RX2) rfl (by decide +kernel) (Nat.le_of_ble_eq_true rfl) fun _ hO hR => T_X2_append hO hR p1 p2 σ
/-! X2_hasInches -/
noncomputable def F_X2_hasInches  (p1 : Int32) (σ : Hp) : Bool :=
  if p1 = (99 : Int32) then
  true
  else
  if p1 = (116 : Int32) then
  true
  else
  false
set_option maxHeartbeats 4000000 in
set_option maxRecDepth 100000 in
theorem T_X2_hasInches {G : Gm} {α : Nat → Nat} (hO : Ok G α cX2_hasInches 1 RX2 0 0) (hR : Rt G α (some .boolean)) (p1 : Int32) (σ : Hp) : V G α 1 (kZ σ) 0 [(0, .int p1)] [] σ (F_X2_hasInches p1 σ) := by
  rw [F_X2_hasInches]
  refine V_iload_n hO 0 dX2_hasInches_0 rfl rfl ?_
  refine V_bipush hO 99 dX2_hasInches_1 (by decide) ?_
  refine V_icmp_eq hO 12 dX2_hasInches_3 (by decide) ?_ ?_
  · refine V_iconst hO 1 dX2_hasInches_12 (by decide) ?_
    refine V_goto hO 17 dX2_hasInches_13 (by decide) ?_
    exact V_zret hO hR (by decide) rfl dX2_hasInches_17
  · refine V_iload_n hO 0 dX2_hasInches_6 rfl rfl ?_
    refine V_bipush hO 116 dX2_hasInches_7 (by decide) ?_
    refine V_icmp_ne hO 16 dX2_hasInches_9 (by decide) ?_ ?_
    · refine V_iconst hO 0 dX2_hasInches_16 (by decide) ?_
      exact V_zret hO hR (by decide) rfl dX2_hasInches_17
    · refine V_iconst hO 1 dX2_hasInches_12 (by decide) ?_
      refine V_goto hO 17 dX2_hasInches_13 (by decide) ?_
      exact V_zret hO hR (by decide) rfl dX2_hasInches_17
set_option maxHeartbeats 4000000 in
set_option maxRecDepth 100000 in
theorem C_X2_hasInches (α : Nat → Nat) (p1 : Int32) (σ : Hp) : Ct yX2_hasInches cX2_hasInches 1 (some .boolean) 0 0 α [.int p1] σ (kZ σ (F_X2_hasInches p1 σ)) := ct_of_V (own := RX2) rfl (by decide +kernel) (Nat.le_of_ble_eq_true rfl) fun _ hO hR => T_X2_hasInches hO hR p1 σ
/-! X2_isWholeDay -/
noncomputable def F_X2_isWholeDay  (p1 : Int32) (σ : Hp) : Bool :=
  if p1 = (115 : Int32) then
  true
  else
  if p1 = (119 : Int32) then
  true
  else
  false
set_option maxHeartbeats 4000000 in
set_option maxRecDepth 100000 in
theorem T_X2_isWholeDay {G : Gm} {α : Nat → Nat} (hO : Ok G α cX2_isWholeDay 1 RX2 0 0) (hR : Rt G α (some .boolean)) (p1 : Int32) (σ : Hp) : V G α 1 (kZ σ) 0 [(0, .int p1)] [] σ (F_X2_isWholeDay p1 σ) := by
  rw [F_X2_isWholeDay]
  refine V_iload_n hO 0 dX2_isWholeDay_0 rfl rfl ?_
  refine V_bipush hO 115 dX2_isWholeDay_1 (by decide) ?_
  refine V_icmp_eq hO 12 dX2_isWholeDay_3 (by decide) ?_ ?_
  · refine V_iconst hO 1 dX2_isWholeDay_12 (by decide) ?_
    refine V_goto hO 17 dX2_isWholeDay_13 (by decide) ?_
    exact V_zret hO hR (by decide) rfl dX2_isWholeDay_17
  · refine V_iload_n hO 0 dX2_isWholeDay_6 rfl rfl ?_
    refine V_bipush hO 119 dX2_isWholeDay_7 (by decide) ?_
    refine V_icmp_ne hO 16 dX2_isWholeDay_9 (by decide) ?_ ?_
    · refine V_iconst hO 0 dX2_isWholeDay_16 (by decide) ?_
      exact V_zret hO hR (by decide) rfl dX2_isWholeDay_17
    · refine V_iconst hO 1 dX2_isWholeDay_12 (by decide) ?_
      refine V_goto hO 17 dX2_isWholeDay_13 (by decide) ?_
      exact V_zret hO hR (by decide) rfl dX2_isWholeDay_17
set_option maxHeartbeats 4000000 in
set_option maxRecDepth 100000 in
theorem C_X2_isWholeDay (α : Nat → Nat) (p1 : Int32) (σ : Hp) : Ct yX2_isWholeDay cX2_isWholeDay 1 (some .boolean) 0 0 α [.int p1] σ (kZ σ (F_X2_isWholeDay p1 σ)) := ct_of_V (own := RX2) rfl (by decide +kernel) (Nat.le_of_ble_eq_true rfl) fun _ hO hR => T_X2_isWholeDay hO hR p1 σ
/-! X2_firstWrong -/
noncomputable def F_X2_firstWrong_80 (σ : Hp) (k6 : Int32 → Bool → Int32 → (Option Int32)) (w1 : Int32) (w2 : Bool) (w3 : Int32) : Option Int32 :=
  k6 w1 w2 (w3 + 1)
noncomputable def F_X2_firstWrong_71 (σ : Hp) (k6 : Int32 → Bool → Int32 → (Option Int32)) (w1 : Int32) (w3 : Int32) (w4 : Int32) : Option Int32 :=
  F_X2_firstWrong_80 σ k6 (w1 + 1) (F_X2_hasInches w4 σ) w3
noncomputable def F_X2_firstWrong_6 (σ : Hp) : Nat → Int32 → Bool → Int32 → Option Int32
  | 0, _, _, _ => none
  | n + 1, w1, w2, w3 =>
    if (σ.1 39 1) ≤ w3 then
    some (σ.1 39 1)
    else
    if inb w3 24 = true then
    lt (σ.1 40 (Int32.toNatClampNeg w3)) fun v2 =>
    if w2 = true then
    if v2 < (49 : Int32) then
    some w3
    else
    if v2 ≤ (57 : Int32) then
    F_X2_firstWrong_80 σ (F_X2_firstWrong_6 σ n) w1 false w3
    else
    some w3
    else
    if w1 = (12 : Int32) then
    some w3
    else
    if (F_X2_hasInches v2 σ) = true then
    F_X2_firstWrong_71 σ (F_X2_firstWrong_6 σ n) w1 w3 v2
    else
    if (F_X2_isWholeDay v2 σ) = true then
    F_X2_firstWrong_71 σ (F_X2_firstWrong_6 σ n) w1 w3 v2
    else
    some w3
    else none
noncomputable def F_X2_firstWrong  (σ : Hp) : Option Int32 :=
  F_X2_firstWrong_6 σ fuel (0 : Int32) false (0 : Int32)
set_option maxHeartbeats 4000000 in
set_option maxRecDepth 100000 in
theorem T_X2_firstWrong_80 {G : Gm} {α : Nat → Nat} (hO : Ok G α cX2_firstWrong 5 RX2 1 20) (hR : Rt G α (some .int)) (σ : Hp) (k6 : Int32 → Bool → Int32 → (Option Int32)) (hk6 : ∀ (w1 : Int32) (w2 : Bool) (w3 : Int32), V G α 5 (kOI σ) 6 [(0, .ref (α (39))), (1, .int w1), (2, .int (b2i w2)), (3, .int w3)] [] σ (k6 w1 w2 w3)) : ∀ (w1 : Int32) (w2 : Bool) (w3 : Int32), V G α 5 (kOI σ) 80 [(0, .ref (α (39))), (1, .int w1), (2, .int (b2i w2)), (3, .int w3)] [] σ (F_X2_firstWrong_80 σ k6 w1 w2 w3) := by
  intro w1 w2 w3
  rw [F_X2_firstWrong_80]
  refine V_iinc hO (ls2 := [(3, .int (w3 + 1)), (0, .ref (α (39))), (1, .int w1), (2, .int (b2i w2))]) (z := 1) 3 dX2_firstWrong_80 rfl (by decide) (by decide) rfl ?_
  refine V_goto hO 6 dX2_firstWrong_83 (by decide) ?_
  exact V_sub [1, 2, 3, 0] rfl (hk6 w1 w2 (w3 + 1) )
set_option maxHeartbeats 4000000 in
set_option maxRecDepth 100000 in
theorem T_X2_firstWrong_71 {G : Gm} {α : Nat → Nat} (hO : Ok G α cX2_firstWrong 5 RX2 1 20) (hR : Rt G α (some .int)) (σ : Hp) (k6 : Int32 → Bool → Int32 → (Option Int32)) (hk6 : ∀ (w1 : Int32) (w2 : Bool) (w3 : Int32), V G α 5 (kOI σ) 6 [(0, .ref (α (39))), (1, .int w1), (2, .int (b2i w2)), (3, .int w3)] [] σ (k6 w1 w2 w3)) : ∀ (w1 : Int32) (w3 : Int32) (w4 : Int32), V G α 5 (kOI σ) 71 [(0, .ref (α (39))), (1, .int w1), (3, .int w3), (4, .int w4)] [] σ (F_X2_firstWrong_71 σ k6 w1 w3 w4) := by
  intro w1 w3 w4
  rw [F_X2_firstWrong_71]
  refine V_iinc hO (ls2 := [(1, .int (w1 + 1)), (0, .ref (α (39))), (3, .int w3), (4, .int w4)]) (z := 1) 1 dX2_firstWrong_71 rfl (by decide) (by decide) rfl ?_
  refine V_iload hO 3 dX2_firstWrong_74 rfl ?_
  refine V_callS hO ml_X2_25 (C_X2_hasInches α w4 σ) (rest := []) rfl rfl (Nat.le_of_ble_eq_true rfl) ⟨Nat.le_of_ble_eq_true rfl, Nat.le_of_ble_eq_true rfl⟩ dX2_firstWrong_76 (kc_Z ?_)
  refine V_istore_n hO (ls2 := [(2, .int (b2i (F_X2_hasInches w4 σ))), (1, .int (w1 + 1)), (0, .ref (α (39))), (3, .int w3), (4, .int w4)]) dX2_firstWrong_79 rfl (by decide) rfl ?_
  exact V_sub [2, 1, 0, 3] rfl (T_X2_firstWrong_80 hO hR σ k6 hk6 (w1 + 1) (F_X2_hasInches w4 σ) w3 )
set_option maxHeartbeats 4000000 in
set_option maxRecDepth 100000 in
theorem T_X2_firstWrong_6 {G : Gm} {α : Nat → Nat} (hO : Ok G α cX2_firstWrong 5 RX2 1 20) (hR : Rt G α (some .int)) (σ : Hp) : ∀ (fuel : Nat) (w1 : Int32) (w2 : Bool) (w3 : Int32), V G α 5 (kOI σ) 6 [(0, .ref (α (39))), (1, .int w1), (2, .int (b2i w2)), (3, .int w3)] [] σ (F_X2_firstWrong_6 σ fuel w1 w2 w3) := by
  intro fuel
  induction fuel with
  | zero => intro w1 w2 w3; exact V_none rfl
  | succ n ih =>
    intro w1 w2 w3
    rw [F_X2_firstWrong_6]
    refine V_iload_n hO 3 dX2_firstWrong_6 rfl rfl ?_
    refine V_aload_n hO 0 dX2_firstWrong_7 rfl rfl ?_
    refine V_get hO (v := .int (σ.1 39 1)) fl_X2_21 (by decide) (fun _ _ => ce_39) rfl dX2_firstWrong_8 ?_
    refine V_icmp_ge hO 86 dX2_firstWrong_11 (by decide) ?_ ?_
    · refine V_aload_n hO 0 dX2_firstWrong_86 rfl rfl ?_
      refine V_get hO (v := .int (σ.1 39 1)) fl_X2_21 (by decide) (fun _ _ => ce_39) rfl dX2_firstWrong_87 ?_
      exact V_iret hO hR rfl dX2_firstWrong_90
    · refine V_aload_n hO 0 dX2_firstWrong_14 rfl rfl ?_
      refine V_get hO (v := .ref (α (40))) fl_X2_9 (by decide) (fun _ _ => ce_39) rfl dX2_firstWrong_15 ?_
      refine V_iload_n hO 3 dX2_firstWrong_18 rfl rfl ?_
      refine V_chk rfl fun c1 => ?_
      refine V_iald hO (by decide) (fun _ _ => ce_40) (inb_in c1) dX2_firstWrong_19 ?_
      refine V_istoreN hO (ls2 := fun v2 => [(4, .int v2), (0, .ref (α (39))), (1, .int w1), (2, .int (b2i w2)), (3, .int w3)]) dX2_firstWrong_20 (by decide) (fun _ => rfl) (fun v2 => ?_)
      refine V_iload_n hO 3 dX2_firstWrong_22 rfl rfl ?_
      refine V_ifeqZ hO 47 dX2_firstWrong_23 (by decide) ?_ ?_
      · refine V_iload_n hO 2 dX2_firstWrong_47 rfl rfl ?_
        refine V_bipush hO 12 dX2_firstWrong_48 (by decide) ?_
        refine V_icmp_eq hO 69 dX2_firstWrong_50 (by decide) ?_ ?_
        · refine V_iload_n hO 4 dX2_firstWrong_69 rfl rfl ?_
          exact V_iret hO hR rfl dX2_firstWrong_70
        · refine V_iload hO 0 dX2_firstWrong_53 rfl ?_
          refine V_callS hO ml_X2_25 (C_X2_hasInches α v2 σ) (rest := []) rfl rfl (Nat.le_of_ble_eq_true rfl) ⟨Nat.le_of_ble_eq_true rfl, Nat.le_of_ble_eq_true rfl⟩ dX2_firstWrong_55 (kc_Z ?_)
          refine V_ifneZ hO 71 dX2_firstWrong_58 (by decide) ?_ ?_
          · exact V_sub [1, 2, 4, 0] rfl (T_X2_firstWrong_71 hO hR σ (F_X2_firstWrong_6 σ n) ih w1 w3 v2 )
          · refine V_iload hO 0 dX2_firstWrong_61 rfl ?_
            refine V_callS hO ml_X2_29 (C_X2_isWholeDay α v2 σ) (rest := []) rfl rfl (Nat.le_of_ble_eq_true rfl) ⟨Nat.le_of_ble_eq_true rfl, Nat.le_of_ble_eq_true rfl⟩ dX2_firstWrong_63 (kc_Z ?_)
            refine V_ifneZ hO 71 dX2_firstWrong_66 (by decide) ?_ ?_
            · exact V_sub [1, 2, 4, 0] rfl (T_X2_firstWrong_71 hO hR σ (F_X2_firstWrong_6 σ n) ih w1 w3 v2 )
            · refine V_iload_n hO 4 dX2_firstWrong_69 rfl rfl ?_
              exact V_iret hO hR rfl dX2_firstWrong_70
      · refine V_iload hO 0 dX2_firstWrong_26 rfl ?_
        refine V_bipush hO 49 dX2_firstWrong_28 (by decide) ?_
        refine V_icmp_lt hO 40 dX2_firstWrong_30 (by decide) ?_ ?_
        · refine V_iload_n hO 4 dX2_firstWrong_40 rfl rfl ?_
          exact V_iret hO hR rfl dX2_firstWrong_41
        · refine V_iload hO 0 dX2_firstWrong_33 rfl ?_
          refine V_bipush hO 57 dX2_firstWrong_35 (by decide) ?_
          refine V_icmp_le hO 42 dX2_firstWrong_37 (by decide) ?_ ?_
          · refine V_iconst hO 0 dX2_firstWrong_42 (by decide) ?_
            refine V_istore_n hO (ls2 := [(2, .int 0), (4, .int v2), (0, .ref (α (39))), (1, .int w1), (3, .int w3)]) dX2_firstWrong_43 rfl (by decide) rfl ?_
            refine V_goto hO 80 dX2_firstWrong_44 (by decide) ?_
            exact V_sub [2, 3, 0, 4] rfl (T_X2_firstWrong_80 hO hR σ (F_X2_firstWrong_6 σ n) ih w1 false w3 )
          · refine V_iload_n hO 4 dX2_firstWrong_40 rfl rfl ?_
            exact V_iret hO hR rfl dX2_firstWrong_41
set_option maxHeartbeats 4000000 in
set_option maxRecDepth 100000 in
theorem T_X2_firstWrong {G : Gm} {α : Nat → Nat} (hO : Ok G α cX2_firstWrong 5 RX2 1 20) (hR : Rt G α (some .int)) (σ : Hp) : V G α 5 (kOI σ) 0 [(0, .ref (α (39)))] [] σ (F_X2_firstWrong σ) := by
  rw [F_X2_firstWrong]
  refine V_iconst hO 0 dX2_firstWrong_0 (by decide) ?_
  refine V_istore_n hO (ls2 := [(1, .int 0), (0, .ref (α (39)))]) dX2_firstWrong_1 rfl (by decide) rfl ?_
  refine V_iconst hO 0 dX2_firstWrong_2 (by decide) ?_
  refine V_istore_n hO (ls2 := [(2, .int 0), (1, .int 0), (0, .ref (α (39)))]) dX2_firstWrong_3 rfl (by decide) rfl ?_
  refine V_iconst hO 0 dX2_firstWrong_4 (by decide) ?_
  refine V_istore_n hO (ls2 := [(3, .int 0), (2, .int 0), (1, .int 0), (0, .ref (α (39)))]) dX2_firstWrong_5 rfl (by decide) rfl ?_
  exact V_sub [3, 2, 1, 0] rfl (T_X2_firstWrong_6 hO hR σ fuel (0 : Int32) false (0 : Int32) )
set_option maxHeartbeats 4000000 in
set_option maxRecDepth 100000 in
theorem C_X2_firstWrong (α : Nat → Nat) (σ : Hp) : Ct yX2_firstWrong cX2_firstWrong 5 (some .int) 1 20 α [.ref (α (39))] σ (kOI σ (F_X2_firstWrong σ)) := ct_of_V (own := RX2) rfl (by decide +kernel) (Nat.le_of_ble_eq_true rfl) fun _ hO hR => T_X2_firstWrong hO hR σ
/-! X2_isDays -/
noncomputable def F_X2_isDays  (σ : Hp) : Option Bool :=
  if (σ.1 39 1) ≤ 0 then
  some false
  else
  (F_X2_firstWrong σ).bind fun v1 =>
  if v1 = (σ.1 39 1) then
  if inb ((σ.1 39 1) - (1 : Int32)) 24 = true then
  if (F_X2_hasInches (σ.1 40 (Int32.toNatClampNeg ((σ.1 39 1) - (1 : Int32)))) σ) = true then
  some false
  else
  some true
  else none
  else
  some false
set_option maxHeartbeats 4000000 in
set_option maxRecDepth 100000 in
theorem T_X2_isDays {G : Gm} {α : Nat → Nat} (hO : Ok G α cX2_isDays 1 RX2 2 44) (hR : Rt G α (some .boolean)) (σ : Hp) : V G α 1 (kOZ σ) 0 [(0, .ref (α (39)))] [] σ (F_X2_isDays σ) := by
  rw [F_X2_isDays]
  refine V_aload_n hO 0 dX2_isDays_0 rfl rfl ?_
  refine V_get hO (v := .int (σ.1 39 1)) fl_X2_21 (by decide) (fun _ _ => ce_39) rfl dX2_isDays_1 ?_
  refine V_if_le hO 39 dX2_isDays_4 (by decide) ?_ ?_
  · refine V_iconst hO 0 dX2_isDays_39 (by decide) ?_
    exact V_zret hO hR (by decide) rfl dX2_isDays_40
  · refine V_aload_n hO 0 dX2_isDays_7 rfl rfl ?_
    refine V_callV hO ml_X2_32 (C_X2_firstWrong α σ) (by decide) (fun _ _ => ce_39) rfl rfl (rest := []) rfl rfl (Nat.le_of_ble_eq_true rfl) ⟨Nat.le_of_ble_eq_true rfl, Nat.le_of_ble_eq_true rfl⟩ dX2_isDays_8 (kc_OI rfl fun v1 => ?_)
    refine V_aload_n hO 0 dX2_isDays_11 rfl rfl ?_
    refine V_get hO (v := .int (σ.1 39 1)) fl_X2_21 (by decide) (fun _ _ => ce_39) rfl dX2_isDays_12 ?_
    refine V_icmp_ne hO 39 dX2_isDays_15 (by decide) ?_ ?_
    · refine V_iconst hO 0 dX2_isDays_39 (by decide) ?_
      exact V_zret hO hR (by decide) rfl dX2_isDays_40
    · refine V_aload_n hO 0 dX2_isDays_18 rfl rfl ?_
      refine V_get hO (v := .ref (α (40))) fl_X2_9 (by decide) (fun _ _ => ce_39) rfl dX2_isDays_19 ?_
      refine V_aload_n hO 0 dX2_isDays_22 rfl rfl ?_
      refine V_get hO (v := .int (σ.1 39 1)) fl_X2_21 (by decide) (fun _ _ => ce_39) rfl dX2_isDays_23 ?_
      refine V_iconst hO 1 dX2_isDays_26 (by decide) ?_
      refine V_isub hO dX2_isDays_27 ?_
      refine V_chk rfl fun c2 => ?_
      refine V_iald hO (by decide) (fun _ _ => ce_40) (inb_in c2) dX2_isDays_28 ?_
      refine V_callS hO ml_X2_25 (C_X2_hasInches α (σ.1 40 (Int32.toNatClampNeg ((σ.1 39 1) - (1 : Int32)))) σ) (rest := []) rfl rfl (Nat.le_of_ble_eq_true rfl) ⟨Nat.le_of_ble_eq_true rfl, Nat.le_of_ble_eq_true rfl⟩ dX2_isDays_29 (kc_Z ?_)
      refine V_ifneZ hO 39 dX2_isDays_32 (by decide) ?_ ?_
      · refine V_iconst hO 0 dX2_isDays_39 (by decide) ?_
        exact V_zret hO hR (by decide) rfl dX2_isDays_40
      · refine V_iconst hO 1 dX2_isDays_35 (by decide) ?_
        refine V_goto hO 40 dX2_isDays_36 (by decide) ?_
        exact V_zret hO hR (by decide) rfl dX2_isDays_40
set_option maxHeartbeats 4000000 in
set_option maxRecDepth 100000 in
theorem C_X2_isDays (α : Nat → Nat) (σ : Hp) : Ct yX2_isDays cX2_isDays 1 (some .boolean) 2 44 α [.ref (α (39))] σ (kOZ σ (F_X2_isDays σ)) := ct_of_V (own := RX2) rfl (by decide +kernel) (Nat.le_of_ble_eq_true rfl) fun _ hO hR => T_X2_isDays hO hR σ
/-! X2_beginsDay -/
noncomputable def F_X2_beginsDay  (p1 : Int32) (σ : Hp) : Option Bool :=
  if inb p1 24 = true then
  if (F_X2_hasInches (σ.1 40 (Int32.toNatClampNeg p1)) σ) = true then
  some true
  else
  if inb p1 24 = true then
  if (F_X2_isWholeDay (σ.1 40 (Int32.toNatClampNeg p1)) σ) = true then
  some true
  else
  some false
  else none
  else none
set_option maxHeartbeats 4000000 in
set_option maxRecDepth 100000 in
theorem T_X2_beginsDay {G : Gm} {α : Nat → Nat} (hO : Ok G α cX2_beginsDay 2 RX2 1 20) (hR : Rt G α (some .boolean)) (p1 : Int32) (σ : Hp) : V G α 2 (kOZ σ) 0 [(0, .ref (α (39))), (1, .int p1)] [] σ (F_X2_beginsDay p1 σ) := by
  rw [F_X2_beginsDay]
  refine V_aload_n hO 0 dX2_beginsDay_0 rfl rfl ?_
  refine V_get hO (v := .ref (α (40))) fl_X2_9 (by decide) (fun _ _ => ce_39) rfl dX2_beginsDay_1 ?_
  refine V_iload_n hO 1 dX2_beginsDay_4 rfl rfl ?_
  refine V_chk rfl fun c1 => ?_
  refine V_iald hO (by decide) (fun _ _ => ce_40) (inb_in c1) dX2_beginsDay_5 ?_
  refine V_callS hO ml_X2_25 (C_X2_hasInches α (σ.1 40 (Int32.toNatClampNeg p1)) σ) (rest := []) rfl rfl (Nat.le_of_ble_eq_true rfl) ⟨Nat.le_of_ble_eq_true rfl, Nat.le_of_ble_eq_true rfl⟩ dX2_beginsDay_6 (kc_Z ?_)
  refine V_ifneZ hO 24 dX2_beginsDay_9 (by decide) ?_ ?_
  · refine V_iconst hO 1 dX2_beginsDay_24 (by decide) ?_
    refine V_goto hO 29 dX2_beginsDay_25 (by decide) ?_
    exact V_zret hO hR (by decide) rfl dX2_beginsDay_29
  · refine V_aload_n hO 0 dX2_beginsDay_12 rfl rfl ?_
    refine V_get hO (v := .ref (α (40))) fl_X2_9 (by decide) (fun _ _ => ce_39) rfl dX2_beginsDay_13 ?_
    refine V_iload_n hO 1 dX2_beginsDay_16 rfl rfl ?_
    refine V_chk rfl fun c2 => ?_
    refine V_iald hO (by decide) (fun _ _ => ce_40) (inb_in c2) dX2_beginsDay_17 ?_
    refine V_callS hO ml_X2_29 (C_X2_isWholeDay α (σ.1 40 (Int32.toNatClampNeg p1)) σ) (rest := []) rfl rfl (Nat.le_of_ble_eq_true rfl) ⟨Nat.le_of_ble_eq_true rfl, Nat.le_of_ble_eq_true rfl⟩ dX2_beginsDay_18 (kc_Z ?_)
    refine V_ifeqZ hO 28 dX2_beginsDay_21 (by decide) ?_ ?_
    · refine V_iconst hO 0 dX2_beginsDay_28 (by decide) ?_
      exact V_zret hO hR (by decide) rfl dX2_beginsDay_29
    · refine V_iconst hO 1 dX2_beginsDay_24 (by decide) ?_
      refine V_goto hO 29 dX2_beginsDay_25 (by decide) ?_
      exact V_zret hO hR (by decide) rfl dX2_beginsDay_29
set_option maxHeartbeats 4000000 in
set_option maxRecDepth 100000 in
theorem C_X2_beginsDay (α : Nat → Nat) (p1 : Int32) (σ : Hp) : Ct yX2_beginsDay cX2_beginsDay 2 (some .boolean) 1 20 α [.ref (α (39)), .int p1] σ (kOZ σ (F_X2_beginsDay p1 σ)) := ct_of_V (own := RX2) rfl (by decide +kernel) (Nat.le_of_ble_eq_true rfl) fun _ hO hR => T_X2_beginsDay hO hR p1 σ
/-! X2_dayAt -/
noncomputable def F_X2_dayAt  (p1 : Int32) (σ : Hp) : Option Int32 :=
  if inb p1 24 = true then
  if (σ.1 40 (Int32.toNatClampNeg p1)) = 99 then
  some (0 : Int32)
  else if (σ.1 40 (Int32.toNatClampNeg p1)) = 115 then
  some (2 : Int32)
  else if (σ.1 40 (Int32.toNatClampNeg p1)) = 116 then
  some (1 : Int32)
  else 
  some (3 : Int32)
  else none
set_option maxHeartbeats 4000000 in
set_option maxRecDepth 100000 in
theorem T_X2_dayAt {G : Gm} {α : Nat → Nat} (hO : Ok G α cX2_dayAt 2 RX2 0 0) (hR : Rt G α (some .int)) (p1 : Int32) (σ : Hp) : V G α 2 (kOI σ) 0 [(0, .ref (α (39))), (1, .int p1)] [] σ (F_X2_dayAt p1 σ) := by
  rw [F_X2_dayAt]
  refine V_aload_n hO 0 dX2_dayAt_0 rfl rfl ?_
  refine V_get hO (v := .ref (α (40))) fl_X2_9 (by decide) (fun _ _ => ce_39) rfl dX2_dayAt_1 ?_
  refine V_iload_n hO 1 dX2_dayAt_4 rfl rfl ?_
  refine V_chk rfl fun c1 => ?_
  refine V_iald hO (by decide) (fun _ _ => ce_40) (inb_in c1) dX2_dayAt_5 ?_
  refine V_case (fun c2 => ?_) (fun n3 => ?_)
  · refine V_lsw hO (off := 34) 40 dX2_dayAt_6 (by decide) (by rw [c2]; first | done | rfl | decide) (by decide) ?_
    refine V_iconst hO 0 dX2_dayAt_40 (by decide) ?_
    exact V_iret hO hR rfl dX2_dayAt_41
  refine V_case (fun c4 => ?_) (fun n5 => ?_)
  · refine V_lsw hO (off := 38) 44 dX2_dayAt_6 (by decide) (by rw [c4]; first | done | rfl | decide) (by decide) ?_
    refine V_iconst hO 2 dX2_dayAt_44 (by decide) ?_
    exact V_iret hO hR rfl dX2_dayAt_45
  refine V_case (fun c6 => ?_) (fun n7 => ?_)
  · refine V_lsw hO (off := 36) 42 dX2_dayAt_6 (by decide) (by rw [c6]; first | done | rfl | decide) (by decide) ?_
    refine V_iconst hO 1 dX2_dayAt_42 (by decide) ?_
    exact V_iret hO hR rfl dX2_dayAt_43
  refine V_lsw hO (off := 40) 46 dX2_dayAt_6 (by decide) (ls_out n3 n5 n7) (by decide) ?_
  refine V_iconst hO 3 dX2_dayAt_46 (by decide) ?_
  exact V_iret hO hR rfl dX2_dayAt_47
set_option maxHeartbeats 4000000 in
set_option maxRecDepth 100000 in
theorem C_X2_dayAt (α : Nat → Nat) (p1 : Int32) (σ : Hp) : Ct yX2_dayAt cX2_dayAt 2 (some .int) 0 0 α [.ref (α (39)), .int p1] σ (kOI σ (F_X2_dayAt p1 σ)) := ct_of_V (own := RX2) rfl (by decide +kernel) (Nat.le_of_ble_eq_true rfl) fun _ hO hR => T_X2_dayAt hO hR p1 σ
/-! X2_inchesAt -/
noncomputable def F_X2_inchesAt  (p1 : Int32) (σ : Hp) : Option Int32 :=
  if inb p1 24 = true then
  if (F_X2_hasInches (σ.1 40 (Int32.toNatClampNeg p1)) σ) = true then
  if (σ.1 39 1) ≤ (p1 + (1 : Int32)) then
  some (0 : Int32)
  else
  if inb (p1 + (1 : Int32)) 24 = true then
  some ((σ.1 40 (Int32.toNatClampNeg (p1 + (1 : Int32)))) - (48 : Int32))
  else none
  else
  some (0 : Int32)
  else none
set_option maxHeartbeats 4000000 in
set_option maxRecDepth 100000 in
theorem T_X2_inchesAt {G : Gm} {α : Nat → Nat} (hO : Ok G α cX2_inchesAt 2 RX2 1 20) (hR : Rt G α (some .int)) (p1 : Int32) (σ : Hp) : V G α 2 (kOI σ) 0 [(0, .ref (α (39))), (1, .int p1)] [] σ (F_X2_inchesAt p1 σ) := by
  rw [F_X2_inchesAt]
  refine V_aload_n hO 0 dX2_inchesAt_0 rfl rfl ?_
  refine V_get hO (v := .ref (α (40))) fl_X2_9 (by decide) (fun _ _ => ce_39) rfl dX2_inchesAt_1 ?_
  refine V_iload_n hO 1 dX2_inchesAt_4 rfl rfl ?_
  refine V_chk rfl fun c1 => ?_
  refine V_iald hO (by decide) (fun _ _ => ce_40) (inb_in c1) dX2_inchesAt_5 ?_
  refine V_callS hO ml_X2_25 (C_X2_hasInches α (σ.1 40 (Int32.toNatClampNeg p1)) σ) (rest := []) rfl rfl (Nat.le_of_ble_eq_true rfl) ⟨Nat.le_of_ble_eq_true rfl, Nat.le_of_ble_eq_true rfl⟩ dX2_inchesAt_6 (kc_Z ?_)
  refine V_ifeqZ hO 36 dX2_inchesAt_9 (by decide) ?_ ?_
  · refine V_iconst hO 0 dX2_inchesAt_36 (by decide) ?_
    exact V_iret hO hR rfl dX2_inchesAt_37
  · refine V_iload_n hO 1 dX2_inchesAt_12 rfl rfl ?_
    refine V_iconst hO 1 dX2_inchesAt_13 (by decide) ?_
    refine V_iadd hO dX2_inchesAt_14 ?_
    refine V_aload_n hO 0 dX2_inchesAt_15 rfl rfl ?_
    refine V_get hO (v := .int (σ.1 39 1)) fl_X2_21 (by decide) (fun _ _ => ce_39) rfl dX2_inchesAt_16 ?_
    refine V_icmp_ge hO 36 dX2_inchesAt_19 (by decide) ?_ ?_
    · refine V_iconst hO 0 dX2_inchesAt_36 (by decide) ?_
      exact V_iret hO hR rfl dX2_inchesAt_37
    · refine V_aload_n hO 0 dX2_inchesAt_22 rfl rfl ?_
      refine V_get hO (v := .ref (α (40))) fl_X2_9 (by decide) (fun _ _ => ce_39) rfl dX2_inchesAt_23 ?_
      refine V_iload_n hO 1 dX2_inchesAt_26 rfl rfl ?_
      refine V_iconst hO 1 dX2_inchesAt_27 (by decide) ?_
      refine V_iadd hO dX2_inchesAt_28 ?_
      refine V_chk rfl fun c2 => ?_
      refine V_iald hO (by decide) (fun _ _ => ce_40) (inb_in c2) dX2_inchesAt_29 ?_
      refine V_bipush hO 48 dX2_inchesAt_30 (by decide) ?_
      refine V_isub hO dX2_inchesAt_32 ?_
      refine V_goto hO 37 dX2_inchesAt_33 (by decide) ?_
      exact V_iret hO hR rfl dX2_inchesAt_37
set_option maxHeartbeats 4000000 in
set_option maxRecDepth 100000 in
theorem C_X2_inchesAt (α : Nat → Nat) (p1 : Int32) (σ : Hp) : Ct yX2_inchesAt cX2_inchesAt 2 (some .int) 1 20 α [.ref (α (39)), .int p1] σ (kOI σ (F_X2_inchesAt p1 σ)) := ct_of_V (own := RX2) rfl (by decide +kernel) (Nat.le_of_ble_eq_true rfl) fun _ hO hR => T_X2_inchesAt hO hR p1 σ
/-! X6_iceBehind -/
noncomputable def F_X6_iceBehind  (p1 : Int32) (p2 : Int32) (p3 : Int32) (σ : Hp) : Int32 :=
  if p1 = 0 then
  (imin (99 : Int32) (p3 + p2))
  else
  if p1 = (1 : Int32) then
  (imax (0 : Int32) (p3 - p2))
  else
  p3
set_option maxHeartbeats 4000000 in
set_option maxRecDepth 100000 in
theorem T_X6_iceBehind {G : Gm} {α : Nat → Nat} (hO : Ok G α cX6_iceBehind 3 RX6 1 21) (hR : Rt G α (some .int)) (p1 : Int32) (p2 : Int32) (p3 : Int32) (σ : Hp) : V G α 3 (kI σ) 0 [(0, .int p1), (1, .int p2), (2, .int p3)] [] σ (F_X6_iceBehind p1 p2 p3 σ) := by
  rw [F_X6_iceBehind]
  refine V_iload_n hO 0 dX6_iceBehind_0 rfl rfl ?_
  refine V_if_ne hO 13 dX6_iceBehind_1 (by decide) ?_ ?_
  · refine V_iload_n hO 0 dX6_iceBehind_13 rfl rfl ?_
    refine V_iconst hO 1 dX6_iceBehind_14 (by decide) ?_
    refine V_icmp_ne hO 28 dX6_iceBehind_15 (by decide) ?_ ?_
    · refine V_iload_n hO 2 dX6_iceBehind_28 rfl rfl ?_
      exact V_iret hO hR rfl dX6_iceBehind_29
    · refine V_iconst hO 0 dX6_iceBehind_18 (by decide) ?_
      refine V_iload_n hO 2 dX6_iceBehind_19 rfl rfl ?_
      refine V_iload_n hO 1 dX6_iceBehind_20 rfl rfl ?_
      refine V_isub hO dX6_iceBehind_21 ?_
      refine V_mmax hO mm_X6_308 (Nat.le_of_ble_eq_true rfl) ⟨by decide, by decide⟩ dX6_iceBehind_22 ?_
      refine V_goto hO 29 dX6_iceBehind_25 (by decide) ?_
      exact V_iret hO hR rfl dX6_iceBehind_29
  · refine V_bipush hO 99 dX6_iceBehind_4 (by decide) ?_
    refine V_iload_n hO 2 dX6_iceBehind_6 rfl rfl ?_
    refine V_iload_n hO 1 dX6_iceBehind_7 rfl rfl ?_
    refine V_iadd hO dX6_iceBehind_8 ?_
    refine V_mmin hO mm_X6_303 (Nat.le_of_ble_eq_true rfl) ⟨by decide, by decide⟩ dX6_iceBehind_9 ?_
    exact V_iret hO hR rfl dX6_iceBehind_12
set_option maxHeartbeats 4000000 in
set_option maxRecDepth 100000 in
theorem C_X6_iceBehind (α : Nat → Nat) (p1 : Int32) (p2 : Int32) (p3 : Int32) (σ : Hp) : Ct yX6_iceBehind cX6_iceBehind 3 (some .int) 1 21 α [.int p1, .int p2, .int p3] σ (kI σ (F_X6_iceBehind p1 p2 p3 σ)) := ct_of_V (own := RX6) rfl (by decide +kernel) (Nat.le_of_ble_eq_true rfl) fun _ hO hR => T_X6_iceBehind hO hR p1 p2 p3 σ
/-! X2_outlasts -/
noncomputable def F_X2_outlasts_88 (σ : Hp) (w5 : Int32) : Option Bool :=
  if w5 ≤ 0 then
  some false
  else
  some true
noncomputable def F_X2_outlasts_82 (σ : Hp) (k9 : Int32 → Int32 → Int32 → Int32 → (Option Bool)) (w1 : Int32) (w4 : Int32) (w5 : Int32) (w6 : Int32) : Option Bool :=
  k9 w1 w4 w5 (w6 + 1)
noncomputable def F_X2_outlasts_80 (σ : Hp) (k9 : Int32 → Int32 → Int32 → Int32 → (Option Bool)) (w1 : Int32) (w4 : Int32) (w6 : Int32) (s0 : Int32) : Option Bool :=
  F_X2_outlasts_82 σ k9 w1 w4 s0 w6
noncomputable def F_X2_outlasts_9 (σ : Hp) : Nat → Int32 → Int32 → Int32 → Int32 → Option Bool
  | 0, _, _, _, _ => none
  | n + 1, w1, w4, w5, w6 =>
    if (σ.1 39 1) ≤ w6 then
    F_X2_outlasts_88 σ w5
    else
    if w5 ≤ 0 then
    F_X2_outlasts_88 σ w5
    else
    (F_X2_beginsDay w6 σ).bind fun v1 =>
    if v1 = true then
    (F_X2_dayAt w6 σ).bind fun v2 =>
    (F_X2_inchesAt w6 σ).bind fun v3 =>
    lt (F_X6_iceBehind v2 v3 w4 σ) fun v4 =>
    (F_X2_dayAt w6 σ).bind fun v5 =>
    if v5 = (1 : Int32) then
    (F_X2_inchesAt w6 σ).bind fun v6 =>
    F_X2_outlasts_80 σ (F_X2_outlasts_9 σ n) w1 v4 w6 (F_X0_cutBehindThaw w1 w5 v6 v4 σ)
    else
    F_X2_outlasts_80 σ (F_X2_outlasts_9 σ n) w1 v4 w6 w5
    else
    F_X2_outlasts_82 σ (F_X2_outlasts_9 σ n) w1 w4 w5 w6
noncomputable def F_X2_outlasts  (p1 : Int32) (p2 : Int32) (p3 : Int32) (σ : Hp) : Option Bool :=
  F_X2_outlasts_9 σ fuel p1 p3 p2 (0 : Int32)
set_option maxHeartbeats 4000000 in
set_option maxRecDepth 100000 in
theorem T_X2_outlasts_88 {G : Gm} {α : Nat → Nat} (hO : Ok G α cX2_outlasts 7 RX2 2 45) (hR : Rt G α (some .boolean)) (σ : Hp) : ∀ (w5 : Int32), V G α 7 (kOZ σ) 88 [(5, .int w5)] [] σ (F_X2_outlasts_88 σ w5) := by
  intro w5
  rw [F_X2_outlasts_88]
  refine V_iload hO 0 dX2_outlasts_88 rfl ?_
  refine V_if_le hO 97 dX2_outlasts_90 (by decide) ?_ ?_
  · refine V_iconst hO 0 dX2_outlasts_97 (by decide) ?_
    exact V_zret hO hR (by decide) rfl dX2_outlasts_98
  · refine V_iconst hO 1 dX2_outlasts_93 (by decide) ?_
    refine V_goto hO 98 dX2_outlasts_94 (by decide) ?_
    exact V_zret hO hR (by decide) rfl dX2_outlasts_98
set_option maxHeartbeats 4000000 in
set_option maxRecDepth 100000 in
theorem T_X2_outlasts_82 {G : Gm} {α : Nat → Nat} (hO : Ok G α cX2_outlasts 7 RX2 2 45) (hR : Rt G α (some .boolean)) (σ : Hp) (k9 : Int32 → Int32 → Int32 → Int32 → (Option Bool)) (hk9 : ∀ (w1 : Int32) (w4 : Int32) (w5 : Int32) (w6 : Int32), V G α 7 (kOZ σ) 9 [(0, .ref (α (39))), (1, .int w1), (4, .int w4), (5, .int w5), (6, .int w6)] [] σ (k9 w1 w4 w5 w6)) : ∀ (w1 : Int32) (w4 : Int32) (w5 : Int32) (w6 : Int32), V G α 7 (kOZ σ) 82 [(0, .ref (α (39))), (1, .int w1), (4, .int w4), (5, .int w5), (6, .int w6)] [] σ (F_X2_outlasts_82 σ k9 w1 w4 w5 w6) := by
  intro w1 w4 w5 w6
  rw [F_X2_outlasts_82]
  refine V_iinc hO (ls2 := [(6, .int (w6 + 1)), (0, .ref (α (39))), (1, .int w1), (4, .int w4), (5, .int w5)]) (z := 1) 4 dX2_outlasts_82 rfl (by decide) (by decide) rfl ?_
  refine V_goto hO 9 dX2_outlasts_85 (by decide) ?_
  exact V_sub [1, 2, 3, 4, 0] rfl (hk9 w1 w4 w5 (w6 + 1) )
set_option maxHeartbeats 4000000 in
set_option maxRecDepth 100000 in
theorem T_X2_outlasts_80 {G : Gm} {α : Nat → Nat} (hO : Ok G α cX2_outlasts 7 RX2 2 45) (hR : Rt G α (some .boolean)) (σ : Hp) (k9 : Int32 → Int32 → Int32 → Int32 → (Option Bool)) (hk9 : ∀ (w1 : Int32) (w4 : Int32) (w5 : Int32) (w6 : Int32), V G α 7 (kOZ σ) 9 [(0, .ref (α (39))), (1, .int w1), (4, .int w4), (5, .int w5), (6, .int w6)] [] σ (k9 w1 w4 w5 w6)) : ∀ (w1 : Int32) (w4 : Int32) (w6 : Int32) (s0 : Int32), V G α 7 (kOZ σ) 80 [(0, .ref (α (39))), (1, .int w1), (4, .int w4), (6, .int w6)] [.int s0] σ (F_X2_outlasts_80 σ k9 w1 w4 w6 s0) := by
  intro w1 w4 w6 s0
  rw [F_X2_outlasts_80]
  refine V_istore hO (ls2 := [(5, .int s0), (0, .ref (α (39))), (1, .int w1), (4, .int w4), (6, .int w6)]) dX2_outlasts_80 (by decide) rfl ?_
  exact V_sub [1, 2, 3, 0, 4] rfl (T_X2_outlasts_82 hO hR σ k9 hk9 w1 w4 s0 w6 )
set_option maxHeartbeats 4000000 in
set_option maxRecDepth 100000 in
theorem T_X2_outlasts_9 {G : Gm} {α : Nat → Nat} (hO : Ok G α cX2_outlasts 7 RX2 2 45) (hR : Rt G α (some .boolean)) (σ : Hp) : ∀ (fuel : Nat) (w1 : Int32) (w4 : Int32) (w5 : Int32) (w6 : Int32), V G α 7 (kOZ σ) 9 [(0, .ref (α (39))), (1, .int w1), (4, .int w4), (5, .int w5), (6, .int w6)] [] σ (F_X2_outlasts_9 σ fuel w1 w4 w5 w6) := by
  intro fuel
  induction fuel with
  | zero => intro w1 w4 w5 w6; exact V_none rfl
  | succ n ih =>
    intro w1 w4 w5 w6
    rw [F_X2_outlasts_9]
    refine V_iload hO 4 dX2_outlasts_9 rfl ?_
    refine V_aload_n hO 0 dX2_outlasts_11 rfl rfl ?_
    refine V_get hO (v := .int (σ.1 39 1)) fl_X2_21 (by decide) (fun _ _ => ce_39) rfl dX2_outlasts_12 ?_
    refine V_icmp_ge hO 88 dX2_outlasts_15 (by decide) ?_ ?_
    · exact V_sub [3] rfl (T_X2_outlasts_88 hO hR σ w5 )
    · refine V_iload hO 3 dX2_outlasts_18 rfl ?_
      refine V_if_le hO 88 dX2_outlasts_20 (by decide) ?_ ?_
      · exact V_sub [3] rfl (T_X2_outlasts_88 hO hR σ w5 )
      · refine V_aload_n hO 0 dX2_outlasts_23 rfl rfl ?_
        refine V_iload hO 4 dX2_outlasts_24 rfl ?_
        refine V_callV hO ml_X2_36 (C_X2_beginsDay α w6 σ) (by decide) (fun _ _ => ce_39) rfl rfl (rest := []) rfl rfl (Nat.le_of_ble_eq_true rfl) ⟨Nat.le_of_ble_eq_true rfl, Nat.le_of_ble_eq_true rfl⟩ dX2_outlasts_26 (kc_OZ rfl fun v1 => ?_)
        refine V_ifeqZ hO 82 dX2_outlasts_29 (by decide) ?_ ?_
        · exact V_sub [0, 1, 2, 3, 4] rfl (T_X2_outlasts_82 hO hR σ (F_X2_outlasts_9 σ n) ih w1 w4 w5 w6 )
        · refine V_aload_n hO 0 dX2_outlasts_32 rfl rfl ?_
          refine V_iload hO 4 dX2_outlasts_33 rfl ?_
          refine V_callV hO ml_X2_39 (C_X2_dayAt α w6 σ) (by decide) (fun _ _ => ce_39) rfl rfl (rest := []) rfl rfl (Nat.le_of_ble_eq_true rfl) ⟨Nat.le_of_ble_eq_true rfl, Nat.le_of_ble_eq_true rfl⟩ dX2_outlasts_35 (kc_OI rfl fun v2 => ?_)
          refine V_aload_n hO 0 dX2_outlasts_38 rfl rfl ?_
          refine V_iload hO 4 dX2_outlasts_39 rfl ?_
          refine V_callV hO ml_X2_43 (C_X2_inchesAt α w6 σ) (by decide) (fun _ _ => ce_39) rfl rfl (rest := [.int v2]) rfl rfl (Nat.le_of_ble_eq_true rfl) ⟨Nat.le_of_ble_eq_true rfl, Nat.le_of_ble_eq_true rfl⟩ dX2_outlasts_41 (kc_OI rfl fun v3 => ?_)
          refine V_iload hO 2 dX2_outlasts_44 rfl ?_
          refine V_callN hO ml_X2_46 (C_X6_iceBehind α v2 v3 w4 σ) (rest := []) rfl rfl (Nat.le_of_ble_eq_true rfl) ⟨Nat.le_of_ble_eq_true rfl, Nat.le_of_ble_eq_true rfl⟩ dX2_outlasts_46 (kc_I ?_)
          refine V_istoreN hO (ls2 := fun v4 => [(4, .int v4), (0, .ref (α (39))), (1, .int w1), (5, .int w5), (6, .int w6)]) dX2_outlasts_49 (by decide) (fun _ => rfl) (fun v4 => ?_)
          refine V_aload_n hO 1 dX2_outlasts_51 rfl rfl ?_
          refine V_iload hO 4 dX2_outlasts_52 rfl ?_
          refine V_callV hO ml_X2_39 (C_X2_dayAt α w6 σ) (by decide) (fun _ _ => ce_39) rfl rfl (rest := []) rfl rfl (Nat.le_of_ble_eq_true rfl) ⟨Nat.le_of_ble_eq_true rfl, Nat.le_of_ble_eq_true rfl⟩ dX2_outlasts_54 (kc_OI rfl fun v5 => ?_)
          refine V_iconst hO 1 dX2_outlasts_57 (by decide) ?_
          refine V_icmp_ne hO 78 dX2_outlasts_58 (by decide) ?_ ?_
          · refine V_iload hO 3 dX2_outlasts_78 rfl ?_
            exact V_sub [1, 2, 0, 4] rfl (T_X2_outlasts_80 hO hR σ (F_X2_outlasts_9 σ n) ih w1 v4 w6 w5 )
          · refine V_iload_n hO 2 dX2_outlasts_61 rfl rfl ?_
            refine V_iload hO 3 dX2_outlasts_62 rfl ?_
            refine V_aload_n hO 1 dX2_outlasts_64 rfl rfl ?_
            refine V_iload hO 4 dX2_outlasts_65 rfl ?_
            refine V_callV hO ml_X2_43 (C_X2_inchesAt α w6 σ) (by decide) (fun _ _ => ce_39) rfl rfl (rest := [.int w5, .int w1]) rfl rfl (Nat.le_of_ble_eq_true rfl) ⟨Nat.le_of_ble_eq_true rfl, Nat.le_of_ble_eq_true rfl⟩ dX2_outlasts_67 (kc_OI rfl fun v6 => ?_)
            refine V_iload hO 0 dX2_outlasts_70 rfl ?_
            refine V_callS hO ml_X2_50 (C_X0_cutBehindThaw α w1 w5 v6 v4 σ) (rest := []) rfl rfl (Nat.le_of_ble_eq_true rfl) ⟨Nat.le_of_ble_eq_true rfl, Nat.le_of_ble_eq_true rfl⟩ dX2_outlasts_72 (kc_I ?_)
            refine V_goto hO 80 dX2_outlasts_75 (by decide) ?_
            exact V_sub [1, 2, 0, 4] rfl (T_X2_outlasts_80 hO hR σ (F_X2_outlasts_9 σ n) ih w1 v4 w6 (F_X0_cutBehindThaw w1 w5 v6 v4 σ) )
set_option maxHeartbeats 4000000 in
set_option maxRecDepth 100000 in
theorem T_X2_outlasts {G : Gm} {α : Nat → Nat} (hO : Ok G α cX2_outlasts 7 RX2 2 45) (hR : Rt G α (some .boolean)) (p1 : Int32) (p2 : Int32) (p3 : Int32) (σ : Hp) : V G α 7 (kOZ σ) 0 [(0, .ref (α (39))), (1, .int p1), (2, .int p2), (3, .int p3)] [] σ (F_X2_outlasts p1 p2 p3 σ) := by
  rw [F_X2_outlasts]
  refine V_iload_n hO 3 dX2_outlasts_0 rfl rfl ?_
  refine V_istore hO (ls2 := [(4, .int p3), (0, .ref (α (39))), (1, .int p1), (2, .int p2), (3, .int p3)]) dX2_outlasts_1 (by decide) rfl ?_
  refine V_iload_n hO 3 dX2_outlasts_3 rfl rfl ?_
  refine V_istore hO (ls2 := [(5, .int p2), (4, .int p3), (0, .ref (α (39))), (1, .int p1), (2, .int p2), (3, .int p3)]) dX2_outlasts_4 (by decide) rfl ?_
  refine V_iconst hO 0 dX2_outlasts_6 (by decide) ?_
  refine V_istore hO (ls2 := [(6, .int 0), (5, .int p2), (4, .int p3), (0, .ref (α (39))), (1, .int p1), (2, .int p2), (3, .int p3)]) dX2_outlasts_7 (by decide) rfl ?_
  exact V_sub [3, 4, 2, 1, 0] rfl (T_X2_outlasts_9 hO hR σ fuel p1 p3 p2 (0 : Int32) )
set_option maxHeartbeats 4000000 in
set_option maxRecDepth 100000 in
theorem C_X2_outlasts (α : Nat → Nat) (p1 : Int32) (p2 : Int32) (p3 : Int32) (σ : Hp) : Ct yX2_outlasts cX2_outlasts 7 (some .boolean) 2 45 α [.ref (α (39)), .int p1, .int p2, .int p3] σ (kOZ σ (F_X2_outlasts p1 p2 p3 σ)) := ct_of_V (own := RX2) rfl (by decide +kernel) (Nat.le_of_ble_eq_true rfl) fun _ hO hR => T_X2_outlasts hO hR p1 p2 p3 σ
/-! X2_daysUntilBearing -/
noncomputable def F_X2_daysUntilBearing_56 (σ : Hp) (w2 : Int32) (w3 : Int32) : Option Int32 :=
  if w2 < (4 : Int32) then
  some ((-1) : Int32)
  else
  some w3
noncomputable def F_X2_daysUntilBearing_50 (σ : Hp) (k7 : Int32 → Int32 → Int32 → (Option Int32)) (w2 : Int32) (w3 : Int32) (w4 : Int32) : Option Int32 :=
  k7 w2 w3 (w4 + 1)
noncomputable def F_X2_daysUntilBearing_7 (σ : Hp) : Nat → Int32 → Int32 → Int32 → Option Int32
  | 0, _, _, _ => none
  | n + 1, w2, w3, w4 =>
    if (σ.1 39 1) ≤ w4 then
    F_X2_daysUntilBearing_56 σ w2 w3
    else
    if (4 : Int32) ≤ w2 then
    F_X2_daysUntilBearing_56 σ w2 w3
    else
    (F_X2_beginsDay w4 σ).bind fun v1 =>
    if v1 = true then
    (F_X2_dayAt w4 σ).bind fun v2 =>
    (F_X2_inchesAt w4 σ).bind fun v3 =>
    lt (F_X6_iceBehind v2 v3 w2 σ) fun v4 =>
    F_X2_daysUntilBearing_50 σ (F_X2_daysUntilBearing_7 σ n) v4 (w3 + 1) w4
    else
    F_X2_daysUntilBearing_50 σ (F_X2_daysUntilBearing_7 σ n) w2 w3 w4
noncomputable def F_X2_daysUntilBearing  (p1 : Int32) (σ : Hp) : Option Int32 :=
  F_X2_daysUntilBearing_7 σ fuel p1 (0 : Int32) (0 : Int32)
set_option maxHeartbeats 4000000 in
set_option maxRecDepth 100000 in
theorem T_X2_daysUntilBearing_56 {G : Gm} {α : Nat → Nat} (hO : Ok G α cX2_daysUntilBearing 5 RX2 2 43) (hR : Rt G α (some .int)) (σ : Hp) : ∀ (w2 : Int32) (w3 : Int32), V G α 5 (kOI σ) 56 [(2, .int w2), (3, .int w3)] [] σ (F_X2_daysUntilBearing_56 σ w2 w3) := by
  intro w2 w3
  rw [F_X2_daysUntilBearing_56]
  refine V_iload_n hO 0 dX2_daysUntilBearing_56 rfl rfl ?_
  refine V_iconst hO 4 dX2_daysUntilBearing_57 (by decide) ?_
  refine V_icmp_lt hO 65 dX2_daysUntilBearing_58 (by decide) ?_ ?_
  · refine V_iconst hO (-1) dX2_daysUntilBearing_65 (by decide) ?_
    exact V_iret hO hR rfl dX2_daysUntilBearing_66
  · refine V_iload_n hO 1 dX2_daysUntilBearing_61 rfl rfl ?_
    refine V_goto hO 66 dX2_daysUntilBearing_62 (by decide) ?_
    exact V_iret hO hR rfl dX2_daysUntilBearing_66
set_option maxHeartbeats 4000000 in
set_option maxRecDepth 100000 in
theorem T_X2_daysUntilBearing_50 {G : Gm} {α : Nat → Nat} (hO : Ok G α cX2_daysUntilBearing 5 RX2 2 43) (hR : Rt G α (some .int)) (σ : Hp) (k7 : Int32 → Int32 → Int32 → (Option Int32)) (hk7 : ∀ (w2 : Int32) (w3 : Int32) (w4 : Int32), V G α 5 (kOI σ) 7 [(0, .ref (α (39))), (2, .int w2), (3, .int w3), (4, .int w4)] [] σ (k7 w2 w3 w4)) : ∀ (w2 : Int32) (w3 : Int32) (w4 : Int32), V G α 5 (kOI σ) 50 [(0, .ref (α (39))), (2, .int w2), (3, .int w3), (4, .int w4)] [] σ (F_X2_daysUntilBearing_50 σ k7 w2 w3 w4) := by
  intro w2 w3 w4
  rw [F_X2_daysUntilBearing_50]
  refine V_iinc hO (ls2 := [(4, .int (w4 + 1)), (0, .ref (α (39))), (2, .int w2), (3, .int w3)]) (z := 1) 3 dX2_daysUntilBearing_50 rfl (by decide) (by decide) rfl ?_
  refine V_goto hO 7 dX2_daysUntilBearing_53 (by decide) ?_
  exact V_sub [1, 2, 3, 0] rfl (hk7 w2 w3 (w4 + 1) )
set_option maxHeartbeats 4000000 in
set_option maxRecDepth 100000 in
theorem T_X2_daysUntilBearing_7 {G : Gm} {α : Nat → Nat} (hO : Ok G α cX2_daysUntilBearing 5 RX2 2 43) (hR : Rt G α (some .int)) (σ : Hp) : ∀ (fuel : Nat) (w2 : Int32) (w3 : Int32) (w4 : Int32), V G α 5 (kOI σ) 7 [(0, .ref (α (39))), (2, .int w2), (3, .int w3), (4, .int w4)] [] σ (F_X2_daysUntilBearing_7 σ fuel w2 w3 w4) := by
  intro fuel
  induction fuel with
  | zero => intro w2 w3 w4; exact V_none rfl
  | succ n ih =>
    intro w2 w3 w4
    rw [F_X2_daysUntilBearing_7]
    refine V_iload hO 3 dX2_daysUntilBearing_7 rfl ?_
    refine V_aload_n hO 0 dX2_daysUntilBearing_9 rfl rfl ?_
    refine V_get hO (v := .int (σ.1 39 1)) fl_X2_21 (by decide) (fun _ _ => ce_39) rfl dX2_daysUntilBearing_10 ?_
    refine V_icmp_ge hO 56 dX2_daysUntilBearing_13 (by decide) ?_ ?_
    · exact V_sub [1, 2] rfl (T_X2_daysUntilBearing_56 hO hR σ w2 w3 )
    · refine V_iload_n hO 1 dX2_daysUntilBearing_16 rfl rfl ?_
      refine V_iconst hO 4 dX2_daysUntilBearing_17 (by decide) ?_
      refine V_icmp_ge hO 56 dX2_daysUntilBearing_18 (by decide) ?_ ?_
      · exact V_sub [1, 2] rfl (T_X2_daysUntilBearing_56 hO hR σ w2 w3 )
      · refine V_aload_n hO 0 dX2_daysUntilBearing_21 rfl rfl ?_
        refine V_iload hO 3 dX2_daysUntilBearing_22 rfl ?_
        refine V_callV hO ml_X2_36 (C_X2_beginsDay α w4 σ) (by decide) (fun _ _ => ce_39) rfl rfl (rest := []) rfl rfl (Nat.le_of_ble_eq_true rfl) ⟨Nat.le_of_ble_eq_true rfl, Nat.le_of_ble_eq_true rfl⟩ dX2_daysUntilBearing_24 (kc_OZ rfl fun v1 => ?_)
        refine V_ifeqZ hO 50 dX2_daysUntilBearing_27 (by decide) ?_ ?_
        · exact V_sub [0, 1, 2, 3] rfl (T_X2_daysUntilBearing_50 hO hR σ (F_X2_daysUntilBearing_7 σ n) ih w2 w3 w4 )
        · refine V_aload_n hO 0 dX2_daysUntilBearing_30 rfl rfl ?_
          refine V_iload hO 3 dX2_daysUntilBearing_31 rfl ?_
          refine V_callV hO ml_X2_39 (C_X2_dayAt α w4 σ) (by decide) (fun _ _ => ce_39) rfl rfl (rest := []) rfl rfl (Nat.le_of_ble_eq_true rfl) ⟨Nat.le_of_ble_eq_true rfl, Nat.le_of_ble_eq_true rfl⟩ dX2_daysUntilBearing_33 (kc_OI rfl fun v2 => ?_)
          refine V_aload_n hO 0 dX2_daysUntilBearing_36 rfl rfl ?_
          refine V_iload hO 3 dX2_daysUntilBearing_37 rfl ?_
          refine V_callV hO ml_X2_43 (C_X2_inchesAt α w4 σ) (by decide) (fun _ _ => ce_39) rfl rfl (rest := [.int v2]) rfl rfl (Nat.le_of_ble_eq_true rfl) ⟨Nat.le_of_ble_eq_true rfl, Nat.le_of_ble_eq_true rfl⟩ dX2_daysUntilBearing_39 (kc_OI rfl fun v3 => ?_)
          refine V_iload_n hO 1 dX2_daysUntilBearing_42 rfl rfl ?_
          refine V_callN hO ml_X2_46 (C_X6_iceBehind α v2 v3 w2 σ) (rest := []) rfl rfl (Nat.le_of_ble_eq_true rfl) ⟨Nat.le_of_ble_eq_true rfl, Nat.le_of_ble_eq_true rfl⟩ dX2_daysUntilBearing_43 (kc_I ?_)
          refine V_istore_nN hO (ls2 := fun v4 => [(2, .int v4), (0, .ref (α (39))), (3, .int w3), (4, .int w4)]) dX2_daysUntilBearing_46 rfl (by decide) (fun _ => rfl) (fun v4 => ?_)
          refine V_iinc hO (ls2 := [(3, .int (w3 + 1)), (2, .int v4), (0, .ref (α (39))), (4, .int w4)]) (z := 1) 2 dX2_daysUntilBearing_47 rfl (by decide) (by decide) rfl ?_
          exact V_sub [2, 1, 0, 3] rfl (T_X2_daysUntilBearing_50 hO hR σ (F_X2_daysUntilBearing_7 σ n) ih v4 (w3 + 1) w4 )
set_option maxHeartbeats 4000000 in
set_option maxRecDepth 100000 in
theorem T_X2_daysUntilBearing {G : Gm} {α : Nat → Nat} (hO : Ok G α cX2_daysUntilBearing 5 RX2 2 43) (hR : Rt G α (some .int)) (p1 : Int32) (σ : Hp) : V G α 5 (kOI σ) 0 [(0, .ref (α (39))), (1, .int p1)] [] σ (F_X2_daysUntilBearing p1 σ) := by
  rw [F_X2_daysUntilBearing]
  refine V_iload_n hO 1 dX2_daysUntilBearing_0 rfl rfl ?_
  refine V_istore_n hO (ls2 := [(2, .int p1), (0, .ref (α (39))), (1, .int p1)]) dX2_daysUntilBearing_1 rfl (by decide) rfl ?_
  refine V_iconst hO 0 dX2_daysUntilBearing_2 (by decide) ?_
  refine V_istore_n hO (ls2 := [(3, .int 0), (2, .int p1), (0, .ref (α (39))), (1, .int p1)]) dX2_daysUntilBearing_3 rfl (by decide) rfl ?_
  refine V_iconst hO 0 dX2_daysUntilBearing_4 (by decide) ?_
  refine V_istore hO (ls2 := [(4, .int 0), (3, .int 0), (2, .int p1), (0, .ref (α (39))), (1, .int p1)]) dX2_daysUntilBearing_5 (by decide) rfl ?_
  exact V_sub [3, 2, 1, 0] rfl (T_X2_daysUntilBearing_7 hO hR σ fuel p1 (0 : Int32) (0 : Int32) )
set_option maxHeartbeats 4000000 in
set_option maxRecDepth 100000 in
theorem C_X2_daysUntilBearing (α : Nat → Nat) (p1 : Int32) (σ : Hp) : Ct yX2_daysUntilBearing cX2_daysUntilBearing 5 (some .int) 2 43 α [.ref (α (39)), .int p1] σ (kOI σ (F_X2_daysUntilBearing p1 σ)) := ct_of_V (own := RX2) rfl (by decide +kernel) (Nat.le_of_ble_eq_true rfl) fun _ hO hR => T_X2_daysUntilBearing hO hR p1 σ
/-! X5_restOf -/
noncomputable def F_X5_restOf_54 (t : Nat) (σ : Hp) (k4 : Int32 → Int32 → Int32 → (Option Int32)) (w1 : Int32) (w2 : Int32) (w3 : Int32) : Option Int32 :=
  k4 w1 w2 (w3 + 1)
noncomputable def F_X5_restOf_33 (t : Nat) (σ : Hp) (k4 : Int32 → Int32 → Int32 → (Option Int32)) (w1 : Int32) (w2 : Int32) (w3 : Int32) : Option Int32 :=
  if inb w3 10 = true then
  if (σ.1 ((10 * t + (Int32.toNatClampNeg w3))) 2) = w1 then
  (F_X5_worthOf t w3 σ).bind fun v2 =>
  lt (w2 - v2) fun v3 =>
  F_X5_restOf_54 t σ k4 w1 v3 w3
  else
  F_X5_restOf_54 t σ k4 w1 w2 w3
  else none
noncomputable def F_X5_restOf_4 (t : Nat) (σ : Hp) : Nat → Int32 → Int32 → Int32 → Option Int32
  | 0, _, _, _ => none
  | n + 1, w1, w2, w3 =>
    if (σ.1 (30 + t) 4) ≤ w3 then
    some w2
    else
    if inb w3 10 = true then
    if (σ.1 ((10 * t + (Int32.toNatClampNeg w3))) 3) = w1 then
    (F_X5_worthOf t w3 σ).bind fun v5 =>
    lt (w2 + v5) fun v6 =>
    F_X5_restOf_33 t σ (F_X5_restOf_4 t σ n) w1 v6 w3
    else
    F_X5_restOf_33 t σ (F_X5_restOf_4 t σ n) w1 w2 w3
    else none
noncomputable def F_X5_restOf (t : Nat) (p1 : Int32) (σ : Hp) : Option Int32 :=
  F_X5_restOf_4 t σ fuel p1 (0 : Int32) (0 : Int32)
set_option maxHeartbeats 4000000 in
set_option maxRecDepth 100000 in
theorem T_X5_restOf_54 {G : Gm} {α : Nat → Nat} {t : Nat} (hO : Ok G α cX5_restOf 4 RX5 3 64) (hR : Rt G α (some .int)) (ht : t < 3) (σ : Hp) (k4 : Int32 → Int32 → Int32 → (Option Int32)) (hk4 : ∀ (w1 : Int32) (w2 : Int32) (w3 : Int32), V G α 4 (kOI σ) 4 [(0, .ref (α (30 + t))), (1, .int w1), (2, .int w2), (3, .int w3)] [] σ (k4 w1 w2 w3)) : ∀ (w1 : Int32) (w2 : Int32) (w3 : Int32), V G α 4 (kOI σ) 54 [(0, .ref (α (30 + t))), (1, .int w1), (2, .int w2), (3, .int w3)] [] σ (F_X5_restOf_54 t σ k4 w1 w2 w3) := by
  intro w1 w2 w3
  rw [F_X5_restOf_54]
  refine V_iinc hO (ls2 := [(3, .int (w3 + 1)), (0, .ref (α (30 + t))), (1, .int w1), (2, .int w2)]) (z := 1) 3 dX5_restOf_54 rfl (by decide) (by decide) rfl ?_
  refine V_goto hO 4 dX5_restOf_57 (by decide) ?_
  exact V_sub [1, 2, 3, 0] rfl (hk4 w1 w2 (w3 + 1) )
set_option maxHeartbeats 4000000 in
set_option maxRecDepth 100000 in
theorem T_X5_restOf_33 {G : Gm} {α : Nat → Nat} {t : Nat} (hO : Ok G α cX5_restOf 4 RX5 3 64) (hR : Rt G α (some .int)) (ht : t < 3) (σ : Hp) (k4 : Int32 → Int32 → Int32 → (Option Int32)) (hk4 : ∀ (w1 : Int32) (w2 : Int32) (w3 : Int32), V G α 4 (kOI σ) 4 [(0, .ref (α (30 + t))), (1, .int w1), (2, .int w2), (3, .int w3)] [] σ (k4 w1 w2 w3)) : ∀ (w1 : Int32) (w2 : Int32) (w3 : Int32), V G α 4 (kOI σ) 33 [(0, .ref (α (30 + t))), (1, .int w1), (2, .int w2), (3, .int w3)] [] σ (F_X5_restOf_33 t σ k4 w1 w2 w3) := by
  intro w1 w2 w3
  rw [F_X5_restOf_33]
  refine V_aload_n hO 0 dX5_restOf_33 rfl rfl ?_
  refine V_get hO (v := .ref (α (36 + t))) fl_X5_17 (tw_X5 ht) (fun _ _ => ce_town ht) rfl dX5_restOf_34 ?_
  refine V_iload_n hO 3 dX5_restOf_37 rfl rfl ?_
  refine V_chk rfl fun c1 => ?_
  refine V_aald hO (tw_darr ht) (fun _ _ => ce_da ht) (inb_in c1) dX5_restOf_38 ?_
  refine V_get hO (v := .int (σ.1 ((10 * t + (Int32.toNatClampNeg w3))) 2)) fl_X5_69 (Nat.lt_trans (cd_lt ht (inb_in c1)) (by decide)) (fun _ _ => ce_debt (cd_lt ht (inb_in c1))) rfl dX5_restOf_39 ?_
  refine V_iload_n hO 1 dX5_restOf_42 rfl rfl ?_
  refine V_icmp_ne hO 54 dX5_restOf_43 (by decide) ?_ ?_
  · exact V_sub [0, 1, 2, 3] rfl (T_X5_restOf_54 hO hR ht σ k4 hk4 w1 w2 w3 )
  · refine V_iload_n hO 2 dX5_restOf_46 rfl rfl ?_
    refine V_aload_n hO 0 dX5_restOf_47 rfl rfl ?_
    refine V_iload_n hO 3 dX5_restOf_48 rfl rfl ?_
    refine V_callV hO ml_X5_66 (C_X5_worthOf α (t := t) ht w3 σ) (tw_X5 ht) (fun _ _ => ce_town ht) rfl rfl (rest := [.int w2]) rfl rfl (Nat.le_of_ble_eq_true rfl) ⟨Nat.le_of_ble_eq_true rfl, Nat.le_of_ble_eq_true rfl⟩ dX5_restOf_49 (kc_OI rfl fun v2 => ?_)
    refine V_isub hO dX5_restOf_52 ?_
    refine V_istore_nN hO (ls2 := fun v3 => [(2, .int v3), (0, .ref (α (30 + t))), (1, .int w1), (3, .int w3)]) dX5_restOf_53 rfl (by decide) (fun _ => rfl) (fun v3 => ?_)
    exact V_sub [1, 2, 0, 3] rfl (T_X5_restOf_54 hO hR ht σ k4 hk4 w1 v3 w3 )
set_option maxHeartbeats 4000000 in
set_option maxRecDepth 100000 in
theorem T_X5_restOf_4 {G : Gm} {α : Nat → Nat} {t : Nat} (hO : Ok G α cX5_restOf 4 RX5 3 64) (hR : Rt G α (some .int)) (ht : t < 3) (σ : Hp) : ∀ (fuel : Nat) (w1 : Int32) (w2 : Int32) (w3 : Int32), V G α 4 (kOI σ) 4 [(0, .ref (α (30 + t))), (1, .int w1), (2, .int w2), (3, .int w3)] [] σ (F_X5_restOf_4 t σ fuel w1 w2 w3) := by
  intro fuel
  induction fuel with
  | zero => intro w1 w2 w3; exact V_none rfl
  | succ n ih =>
    intro w1 w2 w3
    rw [F_X5_restOf_4]
    refine V_iload_n hO 3 dX5_restOf_4 rfl rfl ?_
    refine V_aload_n hO 0 dX5_restOf_5 rfl rfl ?_
    refine V_get hO (v := .int (σ.1 (30 + t) 4)) fl_X5_35 (tw_X5 ht) (fun _ _ => ce_town ht) rfl dX5_restOf_6 ?_
    refine V_icmp_ge hO 60 dX5_restOf_9 (by decide) ?_ ?_
    · refine V_iload_n hO 2 dX5_restOf_60 rfl rfl ?_
      exact V_iret hO hR rfl dX5_restOf_61
    · refine V_aload_n hO 0 dX5_restOf_12 rfl rfl ?_
      refine V_get hO (v := .ref (α (36 + t))) fl_X5_17 (tw_X5 ht) (fun _ _ => ce_town ht) rfl dX5_restOf_13 ?_
      refine V_iload_n hO 3 dX5_restOf_16 rfl rfl ?_
      refine V_chk rfl fun c4 => ?_
      refine V_aald hO (tw_darr ht) (fun _ _ => ce_da ht) (inb_in c4) dX5_restOf_17 ?_
      refine V_get hO (v := .int (σ.1 ((10 * t + (Int32.toNatClampNeg w3))) 3)) fl_X5_63 (Nat.lt_trans (cd_lt ht (inb_in c4)) (by decide)) (fun _ _ => ce_debt (cd_lt ht (inb_in c4))) rfl dX5_restOf_18 ?_
      refine V_iload_n hO 1 dX5_restOf_21 rfl rfl ?_
      refine V_icmp_ne hO 33 dX5_restOf_22 (by decide) ?_ ?_
      · exact V_sub [0, 1, 2, 3] rfl (T_X5_restOf_33 hO hR ht σ (F_X5_restOf_4 t σ n) ih w1 w2 w3 )
      · refine V_iload_n hO 2 dX5_restOf_25 rfl rfl ?_
        refine V_aload_n hO 0 dX5_restOf_26 rfl rfl ?_
        refine V_iload_n hO 3 dX5_restOf_27 rfl rfl ?_
        refine V_callV hO ml_X5_66 (C_X5_worthOf α (t := t) ht w3 σ) (tw_X5 ht) (fun _ _ => ce_town ht) rfl rfl (rest := [.int w2]) rfl rfl (Nat.le_of_ble_eq_true rfl) ⟨Nat.le_of_ble_eq_true rfl, Nat.le_of_ble_eq_true rfl⟩ dX5_restOf_28 (kc_OI rfl fun v5 => ?_)
        refine V_iadd hO dX5_restOf_31 ?_
        refine V_istore_nN hO (ls2 := fun v6 => [(2, .int v6), (0, .ref (α (30 + t))), (1, .int w1), (3, .int w3)]) dX5_restOf_32 rfl (by decide) (fun _ => rfl) (fun v6 => ?_)
        exact V_sub [1, 2, 0, 3] rfl (T_X5_restOf_33 hO hR ht σ (F_X5_restOf_4 t σ n) ih w1 v6 w3 )
set_option maxHeartbeats 4000000 in
set_option maxRecDepth 100000 in
theorem T_X5_restOf {G : Gm} {α : Nat → Nat} {t : Nat} (hO : Ok G α cX5_restOf 4 RX5 3 64) (hR : Rt G α (some .int)) (ht : t < 3) (p1 : Int32) (σ : Hp) : V G α 4 (kOI σ) 0 [(0, .ref (α (30 + t))), (1, .int p1)] [] σ (F_X5_restOf t p1 σ) := by
  rw [F_X5_restOf]
  refine V_iconst hO 0 dX5_restOf_0 (by decide) ?_
  refine V_istore_n hO (ls2 := [(2, .int 0), (0, .ref (α (30 + t))), (1, .int p1)]) dX5_restOf_1 rfl (by decide) rfl ?_
  refine V_iconst hO 0 dX5_restOf_2 (by decide) ?_
  refine V_istore_n hO (ls2 := [(3, .int 0), (2, .int 0), (0, .ref (α (30 + t))), (1, .int p1)]) dX5_restOf_3 rfl (by decide) rfl ?_
  exact V_sub [2, 3, 1, 0] rfl (T_X5_restOf_4 hO hR ht σ fuel p1 (0 : Int32) (0 : Int32) )
set_option maxHeartbeats 4000000 in
set_option maxRecDepth 100000 in
theorem C_X5_restOf (α : Nat → Nat) {t : Nat} (ht : t < 3) (p1 : Int32) (σ : Hp) : Ct yX5_restOf cX5_restOf 4 (some .int) 3 64 α [.ref (α (30 + t)), .int p1] σ (kOI σ (F_X5_restOf t p1 σ)) := ct_of_V (own := RX5) rfl (by decide +kernel) (Nat.le_of_ble_eq_true rfl) fun _ hO hR => T_X5_restOf hO hR ht p1 σ
