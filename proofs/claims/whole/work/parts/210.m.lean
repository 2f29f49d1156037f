/-! X7_settled -/
noncomputable def F_X7_settled  (p1 : Int32) (σ : Hp) : Option (Int32 × Hp) :=
  if (F_X7_in (Int32.toInt64 p1) (0 : Int64) (1 : Int64) σ) = true then
  (F_X7_groupsOf σ).bind fun q1 =>
  if p1 = 0 then
  some (((6 : Int32) - q1.1), q1.2)
  else
  some (q1.1, q1.2)
  else
  some (((-102) : Int32), σ)
set_option maxHeartbeats 4000000 in
set_option maxRecDepth 100000 in
theorem T_X7_settled {G : Gm} {α : Nat → Nat} (hO : Ok G α cX7_settled 3 RX7 4 100) (hR : Rt G α (some .int)) (p1 : Int32) (σ : Hp) : V G α 3 (kSI) 0 [(0, .ref (α (55))), (1, .int p1)] [] σ (F_X7_settled p1 σ) := by
  rw [F_X7_settled]
  refine V_iload_n hO 1 dX7_settled_0 rfl rfl ?_
  refine V_i2l hO dX7_settled_1 ?_
  refine V_lconst hO 0 dX7_settled_2 (by decide) ?_
  refine V_lconst hO 1 dX7_settled_3 (by decide) ?_
  refine V_callS hO ml_X7_75 (C_X7_in α (Int32.toInt64 p1) (0 : Int64) (1 : Int64) σ) (rest := []) rfl rfl (Nat.le_of_ble_eq_true rfl) ⟨Nat.le_of_ble_eq_true rfl, Nat.le_of_ble_eq_true rfl⟩ dX7_settled_4 (kc_Z ?_)
  refine V_ifneZ hO 13 dX7_settled_7 (by decide) ?_ ?_
  · refine V_aload_n hO 0 dX7_settled_13 rfl rfl ?_
    refine V_callV hO ml_X7_208 (C_X7_groupsOf α σ) (by decide) (fun _ _ => ce_55) rfl rfl (rest := []) rfl rfl (Nat.le_of_ble_eq_true rfl) ⟨Nat.le_of_ble_eq_true rfl, Nat.le_of_ble_eq_true rfl⟩ dX7_settled_14 (kc_SI rfl fun q1 => ?_)
    refine V_istore_n hO (ls2 := [(2, .int q1.1), (0, .ref (α (55))), (1, .int p1)]) dX7_settled_17 rfl (by decide) rfl ?_
    refine V_iload_n hO 2 dX7_settled_18 rfl rfl ?_
    refine V_if_ne hO 29 dX7_settled_19 (by decide) ?_ ?_
    · refine V_iload_n hO 0 dX7_settled_29 rfl rfl ?_
      exact V_iret hO hR rfl dX7_settled_30
    · refine V_bipush hO 6 dX7_settled_22 (by decide) ?_
      refine V_iload_n hO 0 dX7_settled_24 rfl rfl ?_
      refine V_isub hO dX7_settled_25 ?_
      refine V_goto hO 30 dX7_settled_26 (by decide) ?_
      exact V_iret hO hR rfl dX7_settled_30
  · refine V_bipush hO (-102) dX7_settled_10 (by decide) ?_
    exact V_iret hO hR rfl dX7_settled_12
set_option maxHeartbeats 4000000 in
set_option maxRecDepth 100000 in
theorem C_X7_settled (α : Nat → Nat) (p1 : Int32) (σ : Hp) : Ct yX7_settled cX7_settled 3 (some .int) 4 100 α [.ref (α (55)), .int p1] σ (kSI (F_X7_settled p1 σ)) := ct_of_V (own := RX7) rfl (by decide +kernel) (Nat.le_of_ble_eq_true rfl) fun _ hO hR => T_X7_settled hO hR p1 σ
/-! X7_readIn -/
noncomputable def F_X7_readIn_46 (σ : Hp) (k4 : Int32 → Int32 → Int32 → (Option Int32)) (w1 : Int32) (w3 : Int32) (s0 : Int32) (s1 : Int32) : Option Int32 :=
  lt (s1 + s0) fun v1 =>
  k4 w1 v1 (w3 + 1)
noncomputable def F_X7_readIn_4 (σ : Hp) : Nat → Int32 → Int32 → Int32 → Option Int32
  | 0, _, _, _ => none
  | n + 1, w1, w2, w3 =>
    if (σ.1 55 6) ≤ w3 then
    some w2
    else
    if inb (((8 : Int32) * w3) + (1 : Int32)) 80 = true then
    if (σ.1 58 (Int32.toNatClampNeg (((8 : Int32) * w3) + (1 : Int32)))) = w1 then
    (F_X7_lookOf w3 σ).bind fun v3 =>
    if v3 = (2 : Int32) then
    (F_X7_worthOf w3 σ).bind fun v4 =>
    F_X7_readIn_46 σ (F_X7_readIn_4 σ n) w1 w3 v4 w2
    else
    F_X7_readIn_46 σ (F_X7_readIn_4 σ n) w1 w3 (0 : Int32) w2
    else
    F_X7_readIn_46 σ (F_X7_readIn_4 σ n) w1 w3 (0 : Int32) w2
    else none
noncomputable def F_X7_readIn  (p1 : Int32) (σ : Hp) : Option Int32 :=
  F_X7_readIn_4 σ fuel p1 (0 : Int32) (0 : Int32)
set_option maxHeartbeats 4000000 in
set_option maxRecDepth 100000 in
theorem T_X7_readIn_46 {G : Gm} {α : Nat → Nat} (hO : Ok G α cX7_readIn 4 RX7 1 25) (hR : Rt G α (some .int)) (σ : Hp) (k4 : Int32 → Int32 → Int32 → (Option Int32)) (hk4 : ∀ (w1 : Int32) (w2 : Int32) (w3 : Int32), V G α 4 (kOI σ) 4 [(0, .ref (α (55))), (1, .int w1), (2, .int w2), (3, .int w3)] [] σ (k4 w1 w2 w3)) : ∀ (w1 : Int32) (w3 : Int32) (s0 : Int32) (s1 : Int32), V G α 4 (kOI σ) 46 [(0, .ref (α (55))), (1, .int w1), (3, .int w3)] [.int s0, .int s1] σ (F_X7_readIn_46 σ k4 w1 w3 s0 s1) := by
  intro w1 w3 s0 s1
  rw [F_X7_readIn_46]
  refine V_iadd hO dX7_readIn_46 ?_
  refine V_istore_nN hO (ls2 := fun v1 => [(2, .int v1), (0, .ref (α (55))), (1, .int w1), (3, .int w3)]) dX7_readIn_47 rfl (by decide) (fun _ => rfl) (fun v1 => ?_)
  refine V_iinc hO (ls2 := [(3, .int (w3 + 1)), (2, .int v1), (0, .ref (α (55))), (1, .int w1)]) (z := 1) 3 dX7_readIn_48 rfl (by decide) (by decide) rfl ?_
  refine V_goto hO 4 dX7_readIn_51 (by decide) ?_
  exact V_sub [2, 3, 1, 0] rfl (hk4 w1 v1 (w3 + 1) )
set_option maxHeartbeats 4000000 in
set_option maxRecDepth 100000 in
theorem T_X7_readIn_4 {G : Gm} {α : Nat → Nat} (hO : Ok G α cX7_readIn 4 RX7 1 25) (hR : Rt G α (some .int)) (σ : Hp) : ∀ (fuel : Nat) (w1 : Int32) (w2 : Int32) (w3 : Int32), V G α 4 (kOI σ) 4 [(0, .ref (α (55))), (1, .int w1), (2, .int w2), (3, .int w3)] [] σ (F_X7_readIn_4 σ fuel w1 w2 w3) := by
  intro fuel
  induction fuel with
  | zero => intro w1 w2 w3; exact V_none rfl
  | succ n ih =>
    intro w1 w2 w3
    rw [F_X7_readIn_4]
    refine V_iload_n hO 3 dX7_readIn_4 rfl rfl ?_
    refine V_aload_n hO 0 dX7_readIn_5 rfl rfl ?_
    refine V_get hO (v := .int (σ.1 55 6)) fl_X7_79 (by decide) (fun _ _ => ce_55) rfl dX7_readIn_6 ?_
    refine V_icmp_ge hO 54 dX7_readIn_9 (by decide) ?_ ?_
    · refine V_iload_n hO 2 dX7_readIn_54 rfl rfl ?_
      exact V_iret hO hR rfl dX7_readIn_55
    · refine V_iload_n hO 2 dX7_readIn_12 rfl rfl ?_
      refine V_aload_n hO 0 dX7_readIn_13 rfl rfl ?_
      refine V_get hO (v := .ref (α (58))) fl_X7_16 (by decide) (fun _ _ => ce_55) rfl dX7_readIn_14 ?_
      refine V_bipush hO 8 dX7_readIn_17 (by decide) ?_
      refine V_iload_n hO 3 dX7_readIn_19 rfl rfl ?_
      refine V_imul hO dX7_readIn_20 ?_
      refine V_iconst hO 1 dX7_readIn_21 (by decide) ?_
      refine V_iadd hO dX7_readIn_22 ?_
      refine V_chk rfl fun c2 => ?_
      refine V_iald hO (by decide) (fun _ _ => ce_58) (inb_in c2) dX7_readIn_23 ?_
      refine V_iload_n hO 1 dX7_readIn_24 rfl rfl ?_
      refine V_icmp_ne hO 45 dX7_readIn_25 (by decide) ?_ ?_
      · refine V_iconst hO 0 dX7_readIn_45 (by decide) ?_
        exact V_sub [0, 1, 3] rfl (T_X7_readIn_46 hO hR σ (F_X7_readIn_4 σ n) ih w1 w3 (0 : Int32) w2 )
      · refine V_aload_n hO 0 dX7_readIn_28 rfl rfl ?_
        refine V_iload_n hO 3 dX7_readIn_29 rfl rfl ?_
        refine V_callV hO ml_X7_126 (C_X7_lookOf α w3 σ) (by decide) (fun _ _ => ce_55) rfl rfl (rest := [.int w2]) rfl rfl (Nat.le_of_ble_eq_true rfl) ⟨Nat.le_of_ble_eq_true rfl, Nat.le_of_ble_eq_true rfl⟩ dX7_readIn_30 (kc_OI rfl fun v3 => ?_)
        refine V_iconst hO 2 dX7_readIn_33 (by decide) ?_
        refine V_icmp_ne hO 45 dX7_readIn_34 (by decide) ?_ ?_
        · refine V_iconst hO 0 dX7_readIn_45 (by decide) ?_
          exact V_sub [0, 1, 3] rfl (T_X7_readIn_46 hO hR σ (F_X7_readIn_4 σ n) ih w1 w3 (0 : Int32) w2 )
        · refine V_aload_n hO 0 dX7_readIn_37 rfl rfl ?_
          refine V_iload_n hO 3 dX7_readIn_38 rfl rfl ?_
          refine V_callV hO ml_X7_123 (C_X7_worthOf α w3 σ) (by decide) (fun _ _ => ce_55) rfl rfl (rest := [.int w2]) rfl rfl (Nat.le_of_ble_eq_true rfl) ⟨Nat.le_of_ble_eq_true rfl, Nat.le_of_ble_eq_true rfl⟩ dX7_readIn_39 (kc_OI rfl fun v4 => ?_)
          refine V_goto hO 46 dX7_readIn_42 (by decide) ?_
          exact V_sub [0, 1, 3] rfl (T_X7_readIn_46 hO hR σ (F_X7_readIn_4 σ n) ih w1 w3 v4 w2 )
set_option maxHeartbeats 4000000 in
set_option maxRecDepth 100000 in
theorem T_X7_readIn {G : Gm} {α : Nat → Nat} (hO : Ok G α cX7_readIn 4 RX7 1 25) (hR : Rt G α (some .int)) (p1 : Int32) (σ : Hp) : V G α 4 (kOI σ) 0 [(0, .ref (α (55))), (1, .int p1)] [] σ (F_X7_readIn p1 σ) := by
  rw [F_X7_readIn]
  refine V_iconst hO 0 dX7_readIn_0 (by decide) ?_
  refine V_istore_n hO (ls2 := [(2, .int 0), (0, .ref (α (55))), (1, .int p1)]) dX7_readIn_1 rfl (by decide) rfl ?_
  refine V_iconst hO 0 dX7_readIn_2 (by decide) ?_
  refine V_istore_n hO (ls2 := [(3, .int 0), (2, .int 0), (0, .ref (α (55))), (1, .int p1)]) dX7_readIn_3 rfl (by decide) rfl ?_
  exact V_sub [2, 3, 1, 0] rfl (T_X7_readIn_4 hO hR σ fuel p1 (0 : Int32) (0 : Int32) )
set_option maxHeartbeats 4000000 in
set_option maxRecDepth 100000 in
theorem C_X7_readIn (α : Nat → Nat) (p1 : Int32) (σ : Hp) : Ct yX7_readIn cX7_readIn 4 (some .int) 1 25 α [.ref (α (55)), .int p1] σ (kOI σ (F_X7_readIn p1 σ)) := ct_of_V (own := RX7) rfl (by decide +kernel) (Nat.le_of_ble_eq_true rfl) fun _ hO hR => T_X7_readIn hO hR p1 σ
/-! X7_areBeside -/
noncomputable def F_X7_areBeside  (p1 : Int32) (p2 : Int32) (σ : Hp) : Option Bool :=
  if ¬ (σ.1 55 1) = 0 then
  if ¬ (σ.1 55 1) = 0 then
  lt ((p1 / (σ.1 55 1)) - (p2 / (σ.1 55 1))) fun v1 =>
  if ¬ (σ.1 55 1) = 0 then
  if ¬ (σ.1 55 1) = 0 then
  lt ((jrem p1 (σ.1 55 1)) - (jrem p2 (σ.1 55 1))) fun v2 =>
  if ((v1 * v1) + (v2 * v2)) = (1 : Int32) then
  some true
  else
  some false
  else none
  else none
  else none
  else none
set_option maxHeartbeats 4000000 in
set_option maxRecDepth 100000 in
theorem T_X7_areBeside {G : Gm} {α : Nat → Nat} (hO : Ok G α cX7_areBeside 5 RX7 0 0) (hR : Rt G α (some .boolean)) (p1 : Int32) (p2 : Int32) (σ : Hp) : V G α 5 (kOZ σ) 0 [(0, .ref (α (55))), (1, .int p1), (2, .int p2)] [] σ (F_X7_areBeside p1 p2 σ) := by
  rw [F_X7_areBeside]
  refine V_iload_n hO 1 dX7_areBeside_0 rfl rfl ?_
  refine V_aload_n hO 0 dX7_areBeside_1 rfl rfl ?_
  refine V_get hO (v := .int (σ.1 55 1)) fl_X7_68 (by decide) (fun _ _ => ce_55) rfl dX7_areBeside_2 ?_
  refine V_chk rfl fun c6 => ?_
  refine V_idiv hO dX7_areBeside_5 c6 ?_
  refine V_iload_n hO 2 dX7_areBeside_6 rfl rfl ?_
  refine V_aload_n hO 0 dX7_areBeside_7 rfl rfl ?_
  refine V_get hO (v := .int (σ.1 55 1)) fl_X7_68 (by decide) (fun _ _ => ce_55) rfl dX7_areBeside_8 ?_
  refine V_chk rfl fun c5 => ?_
  refine V_idiv hO dX7_areBeside_11 c5 ?_
  refine V_isub hO dX7_areBeside_12 ?_
  refine V_istore_nN hO (ls2 := fun v1 => [(3, .int v1), (0, .ref (α (55))), (1, .int p1), (2, .int p2)]) dX7_areBeside_13 rfl (by decide) (fun _ => rfl) (fun v1 => ?_)
  refine V_iload_n hO 2 dX7_areBeside_14 rfl rfl ?_
  refine V_aload_n hO 1 dX7_areBeside_15 rfl rfl ?_
  refine V_get hO (v := .int (σ.1 55 1)) fl_X7_68 (by decide) (fun _ _ => ce_55) rfl dX7_areBeside_16 ?_
  refine V_chk rfl fun c4 => ?_
  refine V_irem hO dX7_areBeside_19 c4 ?_
  refine V_iload_n hO 3 dX7_areBeside_20 rfl rfl ?_
  refine V_aload_n hO 1 dX7_areBeside_21 rfl rfl ?_
  refine V_get hO (v := .int (σ.1 55 1)) fl_X7_68 (by decide) (fun _ _ => ce_55) rfl dX7_areBeside_22 ?_
  refine V_chk rfl fun c3 => ?_
  refine V_irem hO dX7_areBeside_25 c3 ?_
  refine V_isub hO dX7_areBeside_26 ?_
  refine V_istoreN hO (ls2 := fun v2 => [(4, .int v2), (3, .int v1), (0, .ref (α (55))), (1, .int p1), (2, .int p2)]) dX7_areBeside_27 (by decide) (fun _ => rfl) (fun v2 => ?_)
  refine V_iload_n hO 1 dX7_areBeside_29 rfl rfl ?_
  refine V_iload_n hO 1 dX7_areBeside_30 rfl rfl ?_
  refine V_imul hO dX7_areBeside_31 ?_
  refine V_iload hO 0 dX7_areBeside_32 rfl ?_
  refine V_iload hO 0 dX7_areBeside_34 rfl ?_
  refine V_imul hO dX7_areBeside_36 ?_
  refine V_iadd hO dX7_areBeside_37 ?_
  refine V_iconst hO 1 dX7_areBeside_38 (by decide) ?_
  refine V_icmp_ne hO 46 dX7_areBeside_39 (by decide) ?_ ?_
  · refine V_iconst hO 0 dX7_areBeside_46 (by decide) ?_
    exact V_zret hO hR (by decide) rfl dX7_areBeside_47
  · refine V_iconst hO 1 dX7_areBeside_42 (by decide) ?_
    refine V_goto hO 47 dX7_areBeside_43 (by decide) ?_
    exact V_zret hO hR (by decide) rfl dX7_areBeside_47
set_option maxHeartbeats 4000000 in
set_option maxRecDepth 100000 in
theorem C_X7_areBeside (α : Nat → Nat) (p1 : Int32) (p2 : Int32) (σ : Hp) : Ct yX7_areBeside cX7_areBeside 5 (some .boolean) 0 0 α [.ref (α (55)), .int p1, .int p2] σ (kOZ σ (F_X7_areBeside p1 p2 σ)) := ct_of_V (own := RX7) rfl (by decide +kernel) (Nat.le_of_ble_eq_true rfl) fun _ hO hR => T_X7_areBeside hO hR p1 p2 σ
/-! X7_tellSkate -/
noncomputable def F_X7_tellSkate_37 (k3 : Int32 → Int32 → Int32 → Int32 → Hp → (Option (Int32 × Hp))) (w1 : Int32) (w2 : Int32) (w3 : Int32) (w4 : Int32) (s0 : Int32) (s1 : Int32) (h : Hp) : Option (Int32 × Hp) :=
  if inb s1 16 = true then
  lt (up h 65 (Int32.toNatClampNeg s1) s0) fun h2 =>
  (F_X7_readIn w4 h2).bind fun v3 =>
  if inb w4 16 = true then
  lt (up h2 66 (Int32.toNatClampNeg w4) v3) fun h5 =>
  k3 w1 w2 w3 (w4 + 1) h5
  else none
  else none
noncomputable def F_X7_tellSkate_219 (k87 : Int32 → Int32 → Int32 → Int32 → Int32 → Hp → (Option (Int32 × Hp))) (w2 : Int32) (w3 : Int32) (w4 : Int32) (w5 : Int32) (w6 : Int32) (h : Hp) : Option (Int32 × Hp) :=
  k87 w2 w3 w4 w5 (w6 + 1) h
noncomputable def F_X7_tellSkate_189 (k87 : Int32 → Int32 → Int32 → Int32 → Int32 → Hp → (Option (Int32 × Hp))) (w2 : Int32) (w3 : Int32) (w4 : Int32) (w5 : Int32) (w6 : Int32) (w7 : Int32) (h : Hp) : Option (Int32 × Hp) :=
  if w7 = ((-1) : Int32) then
  F_X7_tellSkate_219 k87 w2 w3 w4 w5 w6 h
  else
  if inb w6 16 = true then
  lt (up h 65 (Int32.toNatClampNeg w6) w5) fun h7 =>
  if inb w6 16 = true then
  if inb w6 16 = true then
  lt (up h7 66 (Int32.toNatClampNeg w6) ((h7.1 66 (Int32.toNatClampNeg w6)) + w7)) fun h10 =>
  F_X7_tellSkate_219 k87 w2 w3 (w4 + 1) w5 w6 h10
  else none
  else none
  else none
noncomputable def F_X7_tellSkate_181 (k102 : Int32 → Int32 → Int32 → Int32 → Int32 → Int32 → Int32 → Hp → (Option (Int32 × Hp))) (w2 : Int32) (w3 : Int32) (w4 : Int32) (w5 : Int32) (w6 : Int32) (w8 : Int32) (s0 : Int32) (h : Hp) : Option (Int32 × Hp) :=
  k102 w2 w3 w4 w5 w6 s0 (w8 + 1) h
noncomputable def F_X7_tellSkate_179 (k102 : Int32 → Int32 → Int32 → Int32 → Int32 → Int32 → Int32 → Hp → (Option (Int32 × Hp))) (w2 : Int32) (w3 : Int32) (w4 : Int32) (w5 : Int32) (w6 : Int32) (w7 : Int32) (w8 : Int32) (h : Hp) : Option (Int32 × Hp) :=
  F_X7_tellSkate_181 k102 w2 w3 w4 w5 w6 w8 w7 h
noncomputable def F_X7_tellSkate_102 (k87 : Int32 → Int32 → Int32 → Int32 → Int32 → Hp → (Option (Int32 × Hp))) : Nat → Int32 → Int32 → Int32 → Int32 → Int32 → Int32 → Int32 → Hp → Option (Int32 × Hp)
  | 0, _, _, _, _, _, _, _, _ => none
  | n + 1, w2, w3, w4, w5, w6, w7, w8, h =>
    if (F_X7_squares h) ≤ w8 then
    F_X7_tellSkate_189 k87 w2 w3 w4 w5 w6 w7 h
    else
    if inb w6 16 = true then
    if (h.1 65 (Int32.toNatClampNeg w6)) = (99 : Int32) then
    (F_X7_bearsOne w6 h).bind fun v12 =>
    if v12 = true then
    if inb w8 16 = true then
    if (h.1 65 (Int32.toNatClampNeg w8)) = (w5 - (1 : Int32)) then
    (F_X7_areBeside w8 w6 h).bind fun v14 =>
    if v14 = true then
    if inb w8 16 = true then
    if (h.1 66 (Int32.toNatClampNeg w8)) ≤ w7 then
    F_X7_tellSkate_179 (F_X7_tellSkate_102 k87 n) w2 w3 w4 w5 w6 w7 w8 h
    else
    if inb w8 16 = true then
    F_X7_tellSkate_181 (F_X7_tellSkate_102 k87 n) w2 w3 w4 w5 w6 w8 (h.1 66 (Int32.toNatClampNeg w8)) h
    else none
    else none
    else
    F_X7_tellSkate_179 (F_X7_tellSkate_102 k87 n) w2 w3 w4 w5 w6 w7 w8 h
    else
    F_X7_tellSkate_179 (F_X7_tellSkate_102 k87 n) w2 w3 w4 w5 w6 w7 w8 h
    else none
    else
    F_X7_tellSkate_189 k87 w2 w3 w4 w5 w6 w7 h
    else
    F_X7_tellSkate_189 k87 w2 w3 w4 w5 w6 w7 h
    else none
noncomputable def F_X7_tellSkate_87 (k76 : Int32 → Int32 → Int32 → Int32 → Hp → (Option (Int32 × Hp))) : Nat → Int32 → Int32 → Int32 → Int32 → Int32 → Hp → Option (Int32 × Hp)
  | 0, _, _, _, _, _, _ => none
  | n + 1, w2, w3, w4, w5, w6, h =>
    if (F_X7_squares h) ≤ w6 then
    k76 w2 w3 w4 (w5 + 1) h
    else
    F_X7_tellSkate_102 (F_X7_tellSkate_87 k76 n) fuel w2 w3 w4 w5 w6 ((-1) : Int32) (0 : Int32) h
noncomputable def F_X7_tellSkate_76  : Nat → Int32 → Int32 → Int32 → Int32 → Hp → Option (Int32 × Hp)
  | 0, _, _, _, _, _ => none
  | n + 1, w2, w3, w4, w5, h =>
    if w4 ≤ 0 then
    if inb w2 16 = true then
    if (h.1 65 (Int32.toNatClampNeg w2)) = (99 : Int32) then
    some (((-1) : Int32), h)
    else
    if w3 = 0 then
    if inb w2 16 = true then
    some ((h.1 65 (Int32.toNatClampNeg w2)), h)
    else none
    else
    if inb w2 16 = true then
    some ((h.1 66 (Int32.toNatClampNeg w2)), h)
    else none
    else none
    else
    F_X7_tellSkate_87 (F_X7_tellSkate_76 n) fuel w2 w3 (0 : Int32) w5 (0 : Int32) h
noncomputable def F_X7_tellSkate_71  (w2 : Int32) (w3 : Int32) (s0 : Bool) (h : Hp) : Option (Int32 × Hp) :=
  F_X7_tellSkate_76 fuel w2 w3 (b2i s0) (1 : Int32) h
noncomputable def F_X7_tellSkate_3  : Nat → Int32 → Int32 → Int32 → Int32 → Hp → Option (Int32 × Hp)
  | 0, _, _, _, _, _ => none
  | n + 1, w1, w2, w3, w4, h =>
    if (16 : Int32) ≤ w4 then
    if inb w1 16 = true then
    if (h.1 65 (Int32.toNatClampNeg w1)) = 0 then
    F_X7_tellSkate_71 w2 w3 true h
    else
    F_X7_tellSkate_71 w2 w3 false h
    else none
    else
    if w4 = w1 then
    (F_X7_bearsOne w4 h).bind fun v21 =>
    if v21 = true then
    F_X7_tellSkate_37 (F_X7_tellSkate_3 n) w1 w2 w3 w4 (0 : Int32) w4 h
    else
    F_X7_tellSkate_37 (F_X7_tellSkate_3 n) w1 w2 w3 w4 (99 : Int32) w4 h
    else
    F_X7_tellSkate_37 (F_X7_tellSkate_3 n) w1 w2 w3 w4 (99 : Int32) w4 h
noncomputable def F_X7_tellSkate  (p1 : Int32) (p2 : Int32) (p3 : Int32) (σ : Hp) : Option (Int32 × Hp) :=
  F_X7_tellSkate_3 fuel p1 p2 p3 (0 : Int32) σ
set_option maxHeartbeats 4000000 in
set_option maxRecDepth 100000 in
theorem T_X7_tellSkate_37 {G : Gm} {α : Nat → Nat} (hO : Ok G α cX7_tellSkate 9 RX7 2 48) (hR : Rt G α (some .int)) (k3 : Int32 → Int32 → Int32 → Int32 → Hp → (Option (Int32 × Hp))) (hk3 : ∀ (w1 : Int32) (w2 : Int32) (w3 : Int32) (w4 : Int32) (h : Hp), V G α 9 (kSI) 3 [(0, .ref (α (55))), (1, .int w1), (2, .int w2), (3, .int w3), (4, .int w4)] [] h (k3 w1 w2 w3 w4 h)) : ∀ (w1 : Int32) (w2 : Int32) (w3 : Int32) (w4 : Int32) (s0 : Int32) (s1 : Int32) (h : Hp), V G α 9 (kSI) 37 [(0, .ref (α (55))), (1, .int w1), (2, .int w2), (3, .int w3), (4, .int w4)] [.int s0, .int s1, .ref (α (65))] h (F_X7_tellSkate_37 k3 w1 w2 w3 w4 s0 s1 h) := by
  intro w1 w2 w3 w4 s0 s1 h
  rw [F_X7_tellSkate_37]
  refine V_chk rfl fun c1 => ?_
  refine V_iast hO (by decide) (fun _ _ _ => ce_65) (inb_in c1) dX7_tellSkate_37 (V_name fun h2 => ?_)
  refine V_aload_n hO 0 dX7_tellSkate_38 rfl rfl ?_
  refine V_get hO (v := .ref (α (66))) fl_X7_40 (by decide) (fun _ _ => ce_55) rfl dX7_tellSkate_39 ?_
  refine V_iload hO 4 dX7_tellSkate_42 rfl ?_
  refine V_aload_n hO 0 dX7_tellSkate_44 rfl rfl ?_
  refine V_iload hO 4 dX7_tellSkate_45 rfl ?_
  refine V_callV hO ml_X7_211 (C_X7_readIn α w4 h2) (by decide) (fun _ _ => ce_55) rfl rfl (rest := [.int w4, .ref (α (66))]) rfl rfl (Nat.le_of_ble_eq_true rfl) ⟨Nat.le_of_ble_eq_true rfl, Nat.le_of_ble_eq_true rfl⟩ dX7_tellSkate_47 (kc_OI rfl fun v3 => ?_)
  refine V_chk rfl fun c4 => ?_
  refine V_iast hO (by decide) (fun _ _ _ => ce_66) (inb_in c4) dX7_tellSkate_50 (V_name fun h5 => ?_)
  refine V_iinc hO (ls2 := [(4, .int (w4 + 1)), (0, .ref (α (55))), (1, .int w1), (2, .int w2), (3, .int w3)]) (z := 1) 4 dX7_tellSkate_51 rfl (by decide) (by decide) rfl ?_
  refine V_goto hO 3 dX7_tellSkate_54 (by decide) ?_
  exact V_sub [1, 2, 3, 4, 0] rfl (hk3 w1 w2 w3 (w4 + 1) h5 )
set_option maxHeartbeats 4000000 in
set_option maxRecDepth 100000 in
theorem T_X7_tellSkate_219 {G : Gm} {α : Nat → Nat} (hO : Ok G α cX7_tellSkate 9 RX7 2 48) (hR : Rt G α (some .int)) (k87 : Int32 → Int32 → Int32 → Int32 → Int32 → Hp → (Option (Int32 × Hp))) (hk87 : ∀ (w2 : Int32) (w3 : Int32) (w4 : Int32) (w5 : Int32) (w6 : Int32) (h : Hp), V G α 9 (kSI) 87 [(0, .ref (α (55))), (2, .int w2), (3, .int w3), (4, .int w4), (5, .int w5), (6, .int w6)] [] h (k87 w2 w3 w4 w5 w6 h)) : ∀ (w2 : Int32) (w3 : Int32) (w4 : Int32) (w5 : Int32) (w6 : Int32) (h : Hp), V G α 9 (kSI) 219 [(0, .ref (α (55))), (2, .int w2), (3, .int w3), (4, .int w4), (5, .int w5), (6, .int w6)] [] h (F_X7_tellSkate_219 k87 w2 w3 w4 w5 w6 h) := by
  intro w2 w3 w4 w5 w6 h
  rw [F_X7_tellSkate_219]
  refine V_iinc hO (ls2 := [(6, .int (w6 + 1)), (0, .ref (α (55))), (2, .int w2), (3, .int w3), (4, .int w4), (5, .int w5)]) (z := 1) 5 dX7_tellSkate_219 rfl (by decide) (by decide) rfl ?_
  refine V_goto hO 87 dX7_tellSkate_222 (by decide) ?_
  exact V_sub [1, 2, 3, 4, 5, 0] rfl (hk87 w2 w3 w4 w5 (w6 + 1) h )
set_option maxHeartbeats 4000000 in
set_option maxRecDepth 100000 in
theorem T_X7_tellSkate_189 {G : Gm} {α : Nat → Nat} (hO : Ok G α cX7_tellSkate 9 RX7 2 48) (hR : Rt G α (some .int)) (k87 : Int32 → Int32 → Int32 → Int32 → Int32 → Hp → (Option (Int32 × Hp))) (hk87 : ∀ (w2 : Int32) (w3 : Int32) (w4 : Int32) (w5 : Int32) (w6 : Int32) (h : Hp), V G α 9 (kSI) 87 [(0, .ref (α (55))), (2, .int w2), (3, .int w3), (4, .int w4), (5, .int w5), (6, .int w6)] [] h (k87 w2 w3 w4 w5 w6 h)) : ∀ (w2 : Int32) (w3 : Int32) (w4 : Int32) (w5 : Int32) (w6 : Int32) (w7 : Int32) (h : Hp), V G α 9 (kSI) 189 [(0, .ref (α (55))), (2, .int w2), (3, .int w3), (4, .int w4), (5, .int w5), (6, .int w6), (7, .int w7)] [] h (F_X7_tellSkate_189 k87 w2 w3 w4 w5 w6 w7 h) := by
  intro w2 w3 w4 w5 w6 w7 h
  rw [F_X7_tellSkate_189]
  refine V_iload hO 6 dX7_tellSkate_189 rfl ?_
  refine V_iconst hO (-1) dX7_tellSkate_191 (by decide) ?_
  refine V_icmp_eq hO 219 dX7_tellSkate_192 (by decide) ?_ ?_
  · exact V_sub [0, 1, 2, 3, 4, 5] rfl (T_X7_tellSkate_219 hO hR k87 hk87 w2 w3 w4 w5 w6 h )
  · refine V_aload_n hO 0 dX7_tellSkate_195 rfl rfl ?_
    refine V_get hO (v := .ref (α (65))) fl_X7_37 (by decide) (fun _ _ => ce_55) rfl dX7_tellSkate_196 ?_
    refine V_iload hO 5 dX7_tellSkate_199 rfl ?_
    refine V_iload hO 4 dX7_tellSkate_201 rfl ?_
    refine V_chk rfl fun c6 => ?_
    refine V_iast hO (by decide) (fun _ _ _ => ce_65) (inb_in c6) dX7_tellSkate_203 (V_name fun h7 => ?_)
    refine V_aload_n hO 0 dX7_tellSkate_204 rfl rfl ?_
    refine V_get hO (v := .ref (α (66))) fl_X7_40 (by decide) (fun _ _ => ce_55) rfl dX7_tellSkate_205 ?_
    refine V_iload hO 5 dX7_tellSkate_208 rfl ?_
    refine V_dup2 hO dX7_tellSkate_210 rfl rfl ?_
    refine V_chk rfl fun c8 => ?_
    refine V_iald hO (by decide) (fun _ _ => ce_66) (inb_in c8) dX7_tellSkate_211 ?_
    refine V_iload hO 6 dX7_tellSkate_212 rfl ?_
    refine V_iadd hO dX7_tellSkate_214 ?_
    refine V_chk rfl fun c9 => ?_
    refine V_iast hO (by decide) (fun _ _ _ => ce_66) (inb_in c9) dX7_tellSkate_215 (V_name fun h10 => ?_)
    refine V_iinc hO (ls2 := [(4, .int (w4 + 1)), (0, .ref (α (55))), (2, .int w2), (3, .int w3), (5, .int w5), (6, .int w6), (7, .int w7)]) (z := 1) 3 dX7_tellSkate_216 rfl (by decide) (by decide) rfl ?_
    exact V_sub [1, 2, 3, 0, 4, 5] rfl (T_X7_tellSkate_219 hO hR k87 hk87 w2 w3 (w4 + 1) w5 w6 h10 )
set_option maxHeartbeats 4000000 in
set_option maxRecDepth 100000 in
theorem T_X7_tellSkate_181 {G : Gm} {α : Nat → Nat} (hO : Ok G α cX7_tellSkate 9 RX7 2 48) (hR : Rt G α (some .int)) (k102 : Int32 → Int32 → Int32 → Int32 → Int32 → Int32 → Int32 → Hp → (Option (Int32 × Hp))) (hk102 : ∀ (w2 : Int32) (w3 : Int32) (w4 : Int32) (w5 : Int32) (w6 : Int32) (w7 : Int32) (w8 : Int32) (h : Hp), V G α 9 (kSI) 102 [(0, .ref (α (55))), (2, .int w2), (3, .int w3), (4, .int w4), (5, .int w5), (6, .int w6), (7, .int w7), (8, .int w8)] [] h (k102 w2 w3 w4 w5 w6 w7 w8 h)) : ∀ (w2 : Int32) (w3 : Int32) (w4 : Int32) (w5 : Int32) (w6 : Int32) (w8 : Int32) (s0 : Int32) (h : Hp), V G α 9 (kSI) 181 [(0, .ref (α (55))), (2, .int w2), (3, .int w3), (4, .int w4), (5, .int w5), (6, .int w6), (8, .int w8)] [.int s0] h (F_X7_tellSkate_181 k102 w2 w3 w4 w5 w6 w8 s0 h) := by
  intro w2 w3 w4 w5 w6 w8 s0 h
  rw [F_X7_tellSkate_181]
  refine V_istore hO (ls2 := [(7, .int s0), (0, .ref (α (55))), (2, .int w2), (3, .int w3), (4, .int w4), (5, .int w5), (6, .int w6), (8, .int w8)]) dX7_tellSkate_181 (by decide) rfl ?_
  refine V_iinc hO (ls2 := [(8, .int (w8 + 1)), (7, .int s0), (0, .ref (α (55))), (2, .int w2), (3, .int w3), (4, .int w4), (5, .int w5), (6, .int w6)]) (z := 1) 7 dX7_tellSkate_183 rfl (by decide) (by decide) rfl ?_
  refine V_goto hO 102 dX7_tellSkate_186 (by decide) ?_
  exact V_sub [2, 3, 4, 5, 6, 7, 1, 0] rfl (hk102 w2 w3 w4 w5 w6 s0 (w8 + 1) h )
set_option maxHeartbeats 4000000 in
set_option maxRecDepth 100000 in
theorem T_X7_tellSkate_179 {G : Gm} {α : Nat → Nat} (hO : Ok G α cX7_tellSkate 9 RX7 2 48) (hR : Rt G α (some .int)) (k102 : Int32 → Int32 → Int32 → Int32 → Int32 → Int32 → Int32 → Hp → (Option (Int32 × Hp))) (hk102 : ∀ (w2 : Int32) (w3 : Int32) (w4 : Int32) (w5 : Int32) (w6 : Int32) (w7 : Int32) (w8 : Int32) (h : Hp), V G α 9 (kSI) 102 [(0, .ref (α (55))), (2, .int w2), (3, .int w3), (4, .int w4), (5, .int w5), (6, .int w6), (7, .int w7), (8, .int w8)] [] h (k102 w2 w3 w4 w5 w6 w7 w8 h)) : ∀ (w2 : Int32) (w3 : Int32) (w4 : Int32) (w5 : Int32) (w6 : Int32) (w7 : Int32) (w8 : Int32) (h : Hp), V G α 9 (kSI) 179 [(0, .ref (α (55))), (2, .int w2), (3, .int w3), (4, .int w4), (5, .int w5), (6, .int w6), (7, .int w7), (8, .int w8)] [] h (F_X7_tellSkate_179 k102 w2 w3 w4 w5 w6 w7 w8 h) := by
  intro w2 w3 w4 w5 w6 w7 w8 h
  rw [F_X7_tellSkate_179]
  refine V_iload hO 6 dX7_tellSkate_179 rfl ?_
  exact V_sub [0, 1, 2, 3, 4, 5, 7] rfl (T_X7_tellSkate_181 hO hR k102 hk102 w2 w3 w4 w5 w6 w8 w7 h )
set_option maxHeartbeats 4000000 in
set_option maxRecDepth 100000 in
theorem T_X7_tellSkate_102 {G : Gm} {α : Nat → Nat} (hO : Ok G α cX7_tellSkate 9 RX7 2 48) (hR : Rt G α (some .int)) (k87 : Int32 → Int32 → Int32 → Int32 → Int32 → Hp → (Option (Int32 × Hp))) (hk87 : ∀ (w2 : Int32) (w3 : Int32) (w4 : Int32) (w5 : Int32) (w6 : Int32) (h : Hp), V G α 9 (kSI) 87 [(0, .ref (α (55))), (2, .int w2), (3, .int w3), (4, .int w4), (5, .int w5), (6, .int w6)] [] h (k87 w2 w3 w4 w5 w6 h)) : ∀ (fuel : Nat) (w2 : Int32) (w3 : Int32) (w4 : Int32) (w5 : Int32) (w6 : Int32) (w7 : Int32) (w8 : Int32) (h : Hp), V G α 9 (kSI) 102 [(0, .ref (α (55))), (2, .int w2), (3, .int w3), (4, .int w4), (5, .int w5), (6, .int w6), (7, .int w7), (8, .int w8)] [] h (F_X7_tellSkate_102 k87 fuel w2 w3 w4 w5 w6 w7 w8 h) := by
  intro fuel
  induction fuel with
  | zero => intro w2 w3 w4 w5 w6 w7 w8 h; exact V_none rfl
  | succ n ih =>
    intro w2 w3 w4 w5 w6 w7 w8 h
    rw [F_X7_tellSkate_102]
    refine V_iload hO 7 dX7_tellSkate_102 rfl ?_
    refine V_aload_n hO 0 dX7_tellSkate_104 rfl rfl ?_
    refine V_callV hO ml_X7_71 (C_X7_squares α h) (by decide) (fun _ _ => ce_55) rfl rfl (rest := [.int w8]) rfl rfl (Nat.le_of_ble_eq_true rfl) ⟨Nat.le_of_ble_eq_true rfl, Nat.le_of_ble_eq_true rfl⟩ dX7_tellSkate_105 (kc_I ?_)
    refine V_icmp_ge hO 189 dX7_tellSkate_108 (by decide) ?_ ?_
    · exact V_sub [0, 1, 2, 3, 4, 5, 6] rfl (T_X7_tellSkate_189 hO hR k87 hk87 w2 w3 w4 w5 w6 w7 h )
    · refine V_aload_n hO 0 dX7_tellSkate_111 rfl rfl ?_
      refine V_get hO (v := .ref (α (65))) fl_X7_37 (by decide) (fun _ _ => ce_55) rfl dX7_tellSkate_112 ?_
      refine V_iload hO 5 dX7_tellSkate_115 rfl ?_
      refine V_chk rfl fun c11 => ?_
      refine V_iald hO (by decide) (fun _ _ => ce_65) (inb_in c11) dX7_tellSkate_117 ?_
      refine V_bipush hO 99 dX7_tellSkate_118 (by decide) ?_
      refine V_icmp_ne hO 189 dX7_tellSkate_120 (by decide) ?_ ?_
      · exact V_sub [0, 1, 2, 3, 4, 5, 6] rfl (T_X7_tellSkate_189 hO hR k87 hk87 w2 w3 w4 w5 w6 w7 h )
      · refine V_aload_n hO 0 dX7_tellSkate_123 rfl rfl ?_
        refine V_iload hO 5 dX7_tellSkate_124 rfl ?_
        refine V_callV hO ml_X7_107 (C_X7_bearsOne α w6 h) (by decide) (fun _ _ => ce_55) rfl rfl (rest := []) rfl rfl (Nat.le_of_ble_eq_true rfl) ⟨Nat.le_of_ble_eq_true rfl, Nat.le_of_ble_eq_true rfl⟩ dX7_tellSkate_126 (kc_OZ rfl fun v12 => ?_)
        refine V_ifeqZ hO 189 dX7_tellSkate_129 (by decide) ?_ ?_
        · exact V_sub [0, 1, 2, 3, 4, 5, 6] rfl (T_X7_tellSkate_189 hO hR k87 hk87 w2 w3 w4 w5 w6 w7 h )
        · refine V_aload_n hO 0 dX7_tellSkate_132 rfl rfl ?_
          refine V_get hO (v := .ref (α (65))) fl_X7_37 (by decide) (fun _ _ => ce_55) rfl dX7_tellSkate_133 ?_
          refine V_iload hO 7 dX7_tellSkate_136 rfl ?_
          refine V_chk rfl fun c13 => ?_
          refine V_iald hO (by decide) (fun _ _ => ce_65) (inb_in c13) dX7_tellSkate_138 ?_
          refine V_iload hO 4 dX7_tellSkate_139 rfl ?_
          refine V_iconst hO 1 dX7_tellSkate_141 (by decide) ?_
          refine V_isub hO dX7_tellSkate_142 ?_
          refine V_icmp_ne hO 179 dX7_tellSkate_143 (by decide) ?_ ?_
          · exact V_sub [0, 1, 2, 3, 4, 5, 6, 7] rfl (T_X7_tellSkate_179 hO hR (F_X7_tellSkate_102 k87 n) ih w2 w3 w4 w5 w6 w7 w8 h )
          · refine V_aload_n hO 0 dX7_tellSkate_146 rfl rfl ?_
            refine V_iload hO 7 dX7_tellSkate_147 rfl ?_
            refine V_iload hO 5 dX7_tellSkate_149 rfl ?_
            refine V_callV hO ml_X7_214 (C_X7_areBeside α w8 w6 h) (by decide) (fun _ _ => ce_55) rfl rfl (rest := []) rfl rfl (Nat.le_of_ble_eq_true rfl) ⟨Nat.le_of_ble_eq_true rfl, Nat.le_of_ble_eq_true rfl⟩ dX7_tellSkate_151 (kc_OZ rfl fun v14 => ?_)
            refine V_ifeqZ hO 179 dX7_tellSkate_154 (by decide) ?_ ?_
            · exact V_sub [0, 1, 2, 3, 4, 5, 6, 7] rfl (T_X7_tellSkate_179 hO hR (F_X7_tellSkate_102 k87 n) ih w2 w3 w4 w5 w6 w7 w8 h )
            · refine V_aload_n hO 0 dX7_tellSkate_157 rfl rfl ?_
              refine V_get hO (v := .ref (α (66))) fl_X7_40 (by decide) (fun _ _ => ce_55) rfl dX7_tellSkate_158 ?_
              refine V_iload hO 7 dX7_tellSkate_161 rfl ?_
              refine V_chk rfl fun c15 => ?_
              refine V_iald hO (by decide) (fun _ _ => ce_66) (inb_in c15) dX7_tellSkate_163 ?_
              refine V_iload hO 6 dX7_tellSkate_164 rfl ?_
              refine V_icmp_le hO 179 dX7_tellSkate_166 (by decide) ?_ ?_
              · exact V_sub [0, 1, 2, 3, 4, 5, 6, 7] rfl (T_X7_tellSkate_179 hO hR (F_X7_tellSkate_102 k87 n) ih w2 w3 w4 w5 w6 w7 w8 h )
              · refine V_aload_n hO 0 dX7_tellSkate_169 rfl rfl ?_
                refine V_get hO (v := .ref (α (66))) fl_X7_40 (by decide) (fun _ _ => ce_55) rfl dX7_tellSkate_170 ?_
                refine V_iload hO 7 dX7_tellSkate_173 rfl ?_
                refine V_chk rfl fun c16 => ?_
                refine V_iald hO (by decide) (fun _ _ => ce_66) (inb_in c16) dX7_tellSkate_175 ?_
                refine V_goto hO 181 dX7_tellSkate_176 (by decide) ?_
                exact V_sub [0, 1, 2, 3, 4, 5, 7] rfl (T_X7_tellSkate_181 hO hR (F_X7_tellSkate_102 k87 n) ih w2 w3 w4 w5 w6 w8 (h.1 66 (Int32.toNatClampNeg w8)) h )
set_option maxHeartbeats 4000000 in
set_option maxRecDepth 100000 in
theorem T_X7_tellSkate_87 {G : Gm} {α : Nat → Nat} (hO : Ok G α cX7_tellSkate 9 RX7 2 48) (hR : Rt G α (some .int)) (k76 : Int32 → Int32 → Int32 → Int32 → Hp → (Option (Int32 × Hp))) (hk76 : ∀ (w2 : Int32) (w3 : Int32) (w4 : Int32) (w5 : Int32) (h : Hp), V G α 9 (kSI) 76 [(0, .ref (α (55))), (2, .int w2), (3, .int w3), (4, .int w4), (5, .int w5)] [] h (k76 w2 w3 w4 w5 h)) : ∀ (fuel : Nat) (w2 : Int32) (w3 : Int32) (w4 : Int32) (w5 : Int32) (w6 : Int32) (h : Hp), V G α 9 (kSI) 87 [(0, .ref (α (55))), (2, .int w2), (3, .int w3), (4, .int w4), (5, .int w5), (6, .int w6)] [] h (F_X7_tellSkate_87 k76 fuel w2 w3 w4 w5 w6 h) := by
  intro fuel
  induction fuel with
  | zero => intro w2 w3 w4 w5 w6 h; exact V_none rfl
  | succ n ih =>
    intro w2 w3 w4 w5 w6 h
    rw [F_X7_tellSkate_87]
    refine V_iload hO 5 dX7_tellSkate_87 rfl ?_
    refine V_aload_n hO 0 dX7_tellSkate_89 rfl rfl ?_
    refine V_callV hO ml_X7_71 (C_X7_squares α h) (by decide) (fun _ _ => ce_55) rfl rfl (rest := [.int w6]) rfl rfl (Nat.le_of_ble_eq_true rfl) ⟨Nat.le_of_ble_eq_true rfl, Nat.le_of_ble_eq_true rfl⟩ dX7_tellSkate_90 (kc_I ?_)
    refine V_icmp_ge hO 225 dX7_tellSkate_93 (by decide) ?_ ?_
    · refine V_iinc hO (ls2 := [(5, .int (w5 + 1)), (0, .ref (α (55))), (2, .int w2), (3, .int w3), (4, .int w4), (6, .int w6)]) (z := 1) 4 dX7_tellSkate_225 rfl (by decide) (by decide) rfl ?_
      refine V_goto hO 76 dX7_tellSkate_228 (by decide) ?_
      exact V_sub [1, 2, 3, 4, 0] rfl (hk76 w2 w3 w4 (w5 + 1) h )
    · refine V_iconst hO (-1) dX7_tellSkate_96 (by decide) ?_
      refine V_istore hO (ls2 := [(7, .int (-1)), (0, .ref (α (55))), (2, .int w2), (3, .int w3), (4, .int w4), (5, .int w5), (6, .int w6)]) dX7_tellSkate_97 (by decide) rfl ?_
      refine V_iconst hO 0 dX7_tellSkate_99 (by decide) ?_
      refine V_istore hO (ls2 := [(8, .int 0), (7, .int (-1)), (0, .ref (α (55))), (2, .int w2), (3, .int w3), (4, .int w4), (5, .int w5), (6, .int w6)]) dX7_tellSkate_100 (by decide) rfl ?_
      exact V_sub [2, 3, 4, 5, 6, 7, 1, 0] rfl (T_X7_tellSkate_102 hO hR (F_X7_tellSkate_87 k76 n) ih fuel w2 w3 w4 w5 w6 ((-1) : Int32) (0 : Int32) h )
set_option maxHeartbeats 4000000 in
set_option maxRecDepth 100000 in
theorem T_X7_tellSkate_76 {G : Gm} {α : Nat → Nat} (hO : Ok G α cX7_tellSkate 9 RX7 2 48) (hR : Rt G α (some .int)) : ∀ (fuel : Nat) (w2 : Int32) (w3 : Int32) (w4 : Int32) (w5 : Int32) (h : Hp), V G α 9 (kSI) 76 [(0, .ref (α (55))), (2, .int w2), (3, .int w3), (4, .int w4), (5, .int w5)] [] h (F_X7_tellSkate_76 fuel w2 w3 w4 w5 h) := by
  intro fuel
  induction fuel with
  | zero => intro w2 w3 w4 w5 h; exact V_none rfl
  | succ n ih =>
    intro w2 w3 w4 w5 h
    rw [F_X7_tellSkate_76]
    refine V_iload hO 3 dX7_tellSkate_76 rfl ?_
    refine V_if_le hO 231 dX7_tellSkate_78 (by decide) ?_ ?_
    · refine V_aload_n hO 0 dX7_tellSkate_231 rfl rfl ?_
      refine V_get hO (v := .ref (α (65))) fl_X7_37 (by decide) (fun _ _ => ce_55) rfl dX7_tellSkate_232 ?_
      refine V_iload_n hO 1 dX7_tellSkate_235 rfl rfl ?_
      refine V_chk rfl fun c17 => ?_
      refine V_iald hO (by decide) (fun _ _ => ce_65) (inb_in c17) dX7_tellSkate_236 ?_
      refine V_bipush hO 99 dX7_tellSkate_237 (by decide) ?_
      refine V_icmp_ne hO 246 dX7_tellSkate_239 (by decide) ?_ ?_
      · refine V_iload_n hO 2 dX7_tellSkate_246 rfl rfl ?_
        refine V_if_ne hO 259 dX7_tellSkate_247 (by decide) ?_ ?_
        · refine V_aload_n hO 0 dX7_tellSkate_259 rfl rfl ?_
          refine V_get hO (v := .ref (α (66))) fl_X7_40 (by decide) (fun _ _ => ce_55) rfl dX7_tellSkate_260 ?_
          refine V_iload_n hO 1 dX7_tellSkate_263 rfl rfl ?_
          refine V_chk rfl fun c18 => ?_
          refine V_iald hO (by decide) (fun _ _ => ce_66) (inb_in c18) dX7_tellSkate_264 ?_
          exact V_iret hO hR rfl dX7_tellSkate_265
        · refine V_aload_n hO 0 dX7_tellSkate_250 rfl rfl ?_
          refine V_get hO (v := .ref (α (65))) fl_X7_37 (by decide) (fun _ _ => ce_55) rfl dX7_tellSkate_251 ?_
          refine V_iload_n hO 1 dX7_tellSkate_254 rfl rfl ?_
          refine V_chk rfl fun c19 => ?_
          refine V_iald hO (by decide) (fun _ _ => ce_65) (inb_in c19) dX7_tellSkate_255 ?_
          refine V_goto hO 265 dX7_tellSkate_256 (by decide) ?_
          exact V_iret hO hR rfl dX7_tellSkate_265
      · refine V_iconst hO (-1) dX7_tellSkate_242 (by decide) ?_
        refine V_goto hO 265 dX7_tellSkate_243 (by decide) ?_
        exact V_iret hO hR rfl dX7_tellSkate_265
    · refine V_iconst hO 0 dX7_tellSkate_81 (by decide) ?_
      refine V_istore hO (ls2 := [(4, .int 0), (0, .ref (α (55))), (2, .int w2), (3, .int w3), (5, .int w5)]) dX7_tellSkate_82 (by decide) rfl ?_
      refine V_iconst hO 0 dX7_tellSkate_84 (by decide) ?_
      refine V_istore hO (ls2 := [(6, .int 0), (4, .int 0), (0, .ref (α (55))), (2, .int w2), (3, .int w3), (5, .int w5)]) dX7_tellSkate_85 (by decide) rfl ?_
      exact V_sub [2, 3, 4, 1, 5, 0] rfl (T_X7_tellSkate_87 hO hR (F_X7_tellSkate_76 n) ih fuel w2 w3 (0 : Int32) w5 (0 : Int32) h )
set_option maxHeartbeats 4000000 in
set_option maxRecDepth 100000 in
theorem T_X7_tellSkate_71 {G : Gm} {α : Nat → Nat} (hO : Ok G α cX7_tellSkate 9 RX7 2 48) (hR : Rt G α (some .int)) : ∀ (w2 : Int32) (w3 : Int32) (s0 : Bool) (h : Hp), V G α 9 (kSI) 71 [(0, .ref (α (55))), (2, .int w2), (3, .int w3)] [.int (b2i s0)] h (F_X7_tellSkate_71 w2 w3 s0 h) := by
  intro w2 w3 s0 h
  rw [F_X7_tellSkate_71]
  refine V_istore hO (ls2 := [(4, .int (b2i s0)), (0, .ref (α (55))), (2, .int w2), (3, .int w3)]) dX7_tellSkate_71 (by decide) rfl ?_
  refine V_iconst hO 1 dX7_tellSkate_73 (by decide) ?_
  refine V_istore hO (ls2 := [(5, .int 1), (4, .int (b2i s0)), (0, .ref (α (55))), (2, .int w2), (3, .int w3)]) dX7_tellSkate_74 (by decide) rfl ?_
  exact V_sub [2, 3, 4, 1, 0] rfl (T_X7_tellSkate_76 hO hR fuel w2 w3 (b2i s0) (1 : Int32) h )
set_option maxHeartbeats 4000000 in
set_option maxRecDepth 100000 in
theorem T_X7_tellSkate_3 {G : Gm} {α : Nat → Nat} (hO : Ok G α cX7_tellSkate 9 RX7 2 48) (hR : Rt G α (some .int)) : ∀ (fuel : Nat) (w1 : Int32) (w2 : Int32) (w3 : Int32) (w4 : Int32) (h : Hp), V G α 9 (kSI) 3 [(0, .ref (α (55))), (1, .int w1), (2, .int w2), (3, .int w3), (4, .int w4)] [] h (F_X7_tellSkate_3 fuel w1 w2 w3 w4 h) := by
  intro fuel
  induction fuel with
  | zero => intro w1 w2 w3 w4 h; exact V_none rfl
  | succ n ih =>
    intro w1 w2 w3 w4 h
    rw [F_X7_tellSkate_3]
    refine V_iload hO 4 dX7_tellSkate_3 rfl ?_
    refine V_bipush hO 16 dX7_tellSkate_5 (by decide) ?_
    refine V_icmp_ge hO 57 dX7_tellSkate_7 (by decide) ?_ ?_
    · refine V_aload_n hO 0 dX7_tellSkate_57 rfl rfl ?_
      refine V_get hO (v := .ref (α (65))) fl_X7_37 (by decide) (fun _ _ => ce_55) rfl dX7_tellSkate_58 ?_
      refine V_iload_n hO 1 dX7_tellSkate_61 rfl rfl ?_
      refine V_chk rfl fun c20 => ?_
      refine V_iald hO (by decide) (fun _ _ => ce_65) (inb_in c20) dX7_tellSkate_62 ?_
      refine V_if_ne hO 70 dX7_tellSkate_63 (by decide) ?_ ?_
      · refine V_iconst hO 0 dX7_tellSkate_70 (by decide) ?_
        exact V_sub [0, 2, 3] rfl (T_X7_tellSkate_71 hO hR w2 w3 false h )
      · refine V_iconst hO 1 dX7_tellSkate_66 (by decide) ?_
        refine V_goto hO 71 dX7_tellSkate_67 (by decide) ?_
        exact V_sub [0, 2, 3] rfl (T_X7_tellSkate_71 hO hR w2 w3 true h )
    · refine V_aload_n hO 0 dX7_tellSkate_10 rfl rfl ?_
      refine V_get hO (v := .ref (α (65))) fl_X7_37 (by decide) (fun _ _ => ce_55) rfl dX7_tellSkate_11 ?_
      refine V_iload hO 4 dX7_tellSkate_14 rfl ?_
      refine V_iload hO 4 dX7_tellSkate_16 rfl ?_
      refine V_iload_n hO 1 dX7_tellSkate_18 rfl rfl ?_
      refine V_icmp_ne hO 35 dX7_tellSkate_19 (by decide) ?_ ?_
      · refine V_bipush hO 99 dX7_tellSkate_35 (by decide) ?_
        exact V_sub [0, 1, 2, 3, 4] rfl (T_X7_tellSkate_37 hO hR (F_X7_tellSkate_3 n) ih w1 w2 w3 w4 (99 : Int32) w4 h )
      · refine V_aload_n hO 0 dX7_tellSkate_22 rfl rfl ?_
        refine V_iload hO 4 dX7_tellSkate_23 rfl ?_
        refine V_callV hO ml_X7_107 (C_X7_bearsOne α w4 h) (by decide) (fun _ _ => ce_55) rfl rfl (rest := [.int w4, .ref (α (65))]) rfl rfl (Nat.le_of_ble_eq_true rfl) ⟨Nat.le_of_ble_eq_true rfl, Nat.le_of_ble_eq_true rfl⟩ dX7_tellSkate_25 (kc_OZ rfl fun v21 => ?_)
        refine V_ifeqZ hO 35 dX7_tellSkate_28 (by decide) ?_ ?_
        · refine V_bipush hO 99 dX7_tellSkate_35 (by decide) ?_
          exact V_sub [0, 1, 2, 3, 4] rfl (T_X7_tellSkate_37 hO hR (F_X7_tellSkate_3 n) ih w1 w2 w3 w4 (99 : Int32) w4 h )
        · refine V_iconst hO 0 dX7_tellSkate_31 (by decide) ?_
          refine V_goto hO 37 dX7_tellSkate_32 (by decide) ?_
          exact V_sub [0, 1, 2, 3, 4] rfl (T_X7_tellSkate_37 hO hR (F_X7_tellSkate_3 n) ih w1 w2 w3 w4 (0 : Int32) w4 h )
set_option maxHeartbeats 4000000 in
set_option maxRecDepth 100000 in
theorem T_X7_tellSkate {G : Gm} {α : Nat → Nat} (hO : Ok G α cX7_tellSkate 9 RX7 2 48) (hR : Rt G α (some .int)) (p1 : Int32) (p2 : Int32) (p3 : Int32) (σ : Hp) : V G α 9 (kSI) 0 [(0, .ref (α (55))), (1, .int p1), (2, .int p2), (3, .int p3)] [] σ (F_X7_tellSkate p1 p2 p3 σ) := by
  rw [F_X7_tellSkate]
  refine V_iconst hO 0 dX7_tellSkate_0 (by decide) ?_
  refine V_istore hO (ls2 := [(4, .int 0), (0, .ref (α (55))), (1, .int p1), (2, .int p2), (3, .int p3)]) dX7_tellSkate_1 (by decide) rfl ?_
  exact V_sub [1, 2, 3, 4, 0] rfl (T_X7_tellSkate_3 hO hR fuel p1 p2 p3 (0 : Int32) σ )
set_option maxHeartbeats 4000000 in
set_option maxRecDepth 100000 in
theorem C_X7_tellSkate (α : Nat → Nat) (p1 : Int32) (p2 : Int32) (p3 : Int32) (σ : Hp) : Ct yX7_tellSkate cX7_tellSkate 9 (some .int) 2 48 α [.ref (α (55)), .int p1, .int p2, .int p3] σ (kSI (F_X7_tellSkate p1 p2 p3 σ)) := ct_of_V (own := RX7) rfl (by decide +kernel) (Nat.le_of_ble_eq_true rfl) fun _ hO hR => T_X7_tellSkate hO hR p1 p2 p3 σ
/-! X7_skate -/
noncomputable def F_X7_skate  (p1 : Int32) (p2 : Int32) (p3 : Int32) (σ : Hp) : Option (Int32 × Hp) :=
  if (F_X7_isSquare p1 σ) = true then
  if (F_X7_isSquare p2 σ) = true then
  if (F_X7_in (Int32.toInt64 p3) (0 : Int64) (1 : Int64) σ) = true then
  (F_X7_tellSkate p1 p2 p3 σ).bind fun q1 =>
  some (q1.1, q1.2)
  else
  some (((-102) : Int32), σ)
  else
  some (((-101) : Int32), σ)
  else
  some (((-101) : Int32), σ)
set_option maxHeartbeats 4000000 in
set_option maxRecDepth 100000 in
theorem T_X7_skate {G : Gm} {α : Nat → Nat} (hO : Ok G α cX7_skate 4 RX7 3 76) (hR : Rt G α (some .int)) (p1 : Int32) (p2 : Int32) (p3 : Int32) (σ : Hp) : V G α 4 (kSI) 0 [(0, .ref (α (55))), (1, .int p1), (2, .int p2), (3, .int p3)] [] σ (F_X7_skate p1 p2 p3 σ) := by
  rw [F_X7_skate]
  refine V_aload_n hO 0 dX7_skate_0 rfl rfl ?_
  refine V_iload_n hO 1 dX7_skate_1 rfl rfl ?_
  refine V_callV hO ml_X7_98 (C_X7_isSquare α p1 σ) (by decide) (fun _ _ => ce_55) rfl rfl (rest := []) rfl rfl (Nat.le_of_ble_eq_true rfl) ⟨Nat.le_of_ble_eq_true rfl, Nat.le_of_ble_eq_true rfl⟩ dX7_skate_2 (kc_Z ?_)
  refine V_ifeqZ hO 16 dX7_skate_5 (by decide) ?_ ?_
  · refine V_bipush hO (-101) dX7_skate_16 (by decide) ?_
    exact V_iret hO hR rfl dX7_skate_18
  · refine V_aload_n hO 0 dX7_skate_8 rfl rfl ?_
    refine V_iload_n hO 2 dX7_skate_9 rfl rfl ?_
    refine V_callV hO ml_X7_98 (C_X7_isSquare α p2 σ) (by decide) (fun _ _ => ce_55) rfl rfl (rest := []) rfl rfl (Nat.le_of_ble_eq_true rfl) ⟨Nat.le_of_ble_eq_true rfl, Nat.le_of_ble_eq_true rfl⟩ dX7_skate_10 (kc_Z ?_)
    refine V_ifneZ hO 19 dX7_skate_13 (by decide) ?_ ?_
    · refine V_iload_n hO 3 dX7_skate_19 rfl rfl ?_
      refine V_i2l hO dX7_skate_20 ?_
      refine V_lconst hO 0 dX7_skate_21 (by decide) ?_
      refine V_lconst hO 1 dX7_skate_22 (by decide) ?_
      refine V_callS hO ml_X7_75 (C_X7_in α (Int32.toInt64 p3) (0 : Int64) (1 : Int64) σ) (rest := []) rfl rfl (Nat.le_of_ble_eq_true rfl) ⟨Nat.le_of_ble_eq_true rfl, Nat.le_of_ble_eq_true rfl⟩ dX7_skate_23 (kc_Z ?_)
      refine V_ifeqZ hO 39 dX7_skate_26 (by decide) ?_ ?_
      · refine V_bipush hO (-102) dX7_skate_39 (by decide) ?_
        exact V_iret hO hR rfl dX7_skate_41
      · refine V_aload_n hO 0 dX7_skate_29 rfl rfl ?_
        refine V_iload_n hO 1 dX7_skate_30 rfl rfl ?_
        refine V_iload_n hO 2 dX7_skate_31 rfl rfl ?_
        refine V_iload_n hO 3 dX7_skate_32 rfl rfl ?_
        refine V_callV hO ml_X7_218 (C_X7_tellSkate α p1 p2 p3 σ) (by decide) (fun _ _ => ce_55) rfl rfl (rest := []) rfl rfl (Nat.le_of_ble_eq_true rfl) ⟨Nat.le_of_ble_eq_true rfl, Nat.le_of_ble_eq_true rfl⟩ dX7_skate_33 (kc_SI rfl fun q1 => ?_)
        refine V_goto hO 41 dX7_skate_36 (by decide) ?_
        exact V_iret hO hR rfl dX7_skate_41
    · refine V_bipush hO (-101) dX7_skate_16 (by decide) ?_
      exact V_iret hO hR rfl dX7_skate_18
set_option maxHeartbeats 4000000 in
set_option maxRecDepth 100000 in
theorem C_X7_skate (α : Nat → Nat) (p1 : Int32) (p2 : Int32) (p3 : Int32) (σ : Hp) : Ct yX7_skate cX7_skate 4 (some .int) 3 76 α [.ref (α (55)), .int p1, .int p2, .int p3] σ (kSI (F_X7_skate p1 p2 p3 σ)) := ct_of_V (own := RX7) rfl (by decide +kernel) (Nat.le_of_ble_eq_true rfl) fun _ hO hR => T_X7_skate hO hR p1 p2 p3 σ
/-! X7_term -/
noncomputable def F_X7_term_6 (σ : Hp) : Nat → Int64 → Int64 → Int32 → Int64 → Int64 → Option Int64
  | 0, _, _, _, _, _ => none
  | n + 1, w0, w2, w4, w5, w7 =>
    if w5 = (0 : Int64) then
    if w4 = 0 then
    if ¬ w7 = 0 then
    some (w0 / w7)
    else none
    else
    if ¬ w7 = 0 then
    some (w2 / w7)
    else none
    else
    if ¬ w5 = 0 then
    lt (jreml w7 w5) fun v3 =>
    F_X7_term_6 σ n w0 w2 w4 v3 w5
    else none
noncomputable def F_X7_term  (p1 : Int64) (p2 : Int64) (p3 : Int32) (σ : Hp) : Option Int64 :=
  F_X7_term_6 σ fuel p1 p2 p3 p1 p2
set_option maxHeartbeats 4000000 in
set_option maxRecDepth 100000 in
theorem T_X7_term_6 {G : Gm} {α : Nat → Nat} (hO : Ok G α cX7_term 11 RX7 0 0) (hR : Rt G α (some .long)) (σ : Hp) : ∀ (fuel : Nat) (w0 : Int64) (w2 : Int64) (w4 : Int32) (w5 : Int64) (w7 : Int64), V G α 11 (kOJ σ) 6 [(0, .long w0), (2, .long w2), (4, .int w4), (5, .long w5), (7, .long w7)] [] σ (F_X7_term_6 σ fuel w0 w2 w4 w5 w7) := by
  intro fuel
  induction fuel with
  | zero => intro w0 w2 w4 w5 w7; exact V_none rfl
  | succ n ih =>
    intro w0 w2 w4 w5 w7
    rw [F_X7_term_6]
    refine V_lload hO 3 dX7_term_6 rfl ?_
    refine V_lconst hO 0 dX7_term_8 (by decide) ?_
    refine V_lcmp_eq hO 31 dX7_term_9 dX7_term_10 (by decide) ?_ ?_
    · refine V_iload hO 2 dX7_term_31 rfl ?_
      refine V_if_ne hO 43 dX7_term_33 (by decide) ?_ ?_
      · refine V_lload_n hO 1 dX7_term_43 rfl rfl ?_
        refine V_lload hO 4 dX7_term_44 rfl ?_
        refine V_chk rfl fun c1 => ?_
        refine V_ldiv hO dX7_term_46 c1 ?_
        exact V_lret hO hR rfl dX7_term_47
      · refine V_lload_n hO 0 dX7_term_36 rfl rfl ?_
        refine V_lload hO 4 dX7_term_37 rfl ?_
        refine V_chk rfl fun c2 => ?_
        refine V_ldiv hO dX7_term_39 c2 ?_
        refine V_goto hO 47 dX7_term_40 (by decide) ?_
        exact V_lret hO hR rfl dX7_term_47
    · refine V_lload hO 4 dX7_term_13 rfl ?_
      refine V_lload hO 3 dX7_term_15 rfl ?_
      refine V_chk rfl fun c4 => ?_
      refine V_lrem hO dX7_term_17 c4 ?_
      refine V_lstoreN hO (ls2 := fun v3 => [(9, .long v3), (0, .long w0), (2, .long w2), (4, .int w4), (5, .long w5), (7, .long w7)]) dX7_term_18 (by decide) (fun _ => rfl) (fun v3 => ?_)
      refine V_lload hO 4 dX7_term_20 rfl ?_
      refine V_lstore hO (ls2 := [(7, .long w5), (9, .long v3), (0, .long w0), (2, .long w2), (4, .int w4), (5, .long w5)]) dX7_term_22 (by decide) rfl ?_
      refine V_lload hO 1 dX7_term_24 rfl ?_
      refine V_lstore hO (ls2 := [(5, .long v3), (7, .long w5), (9, .long v3), (0, .long w0), (2, .long w2), (4, .int w4)]) dX7_term_26 (by decide) rfl ?_
      refine V_goto hO 6 dX7_term_28 (by decide) ?_
      exact V_sub [3, 4, 5, 0, 1] rfl (ih w0 w2 w4 v3 w5 )
set_option maxHeartbeats 4000000 in
set_option maxRecDepth 100000 in
theorem T_X7_term {G : Gm} {α : Nat → Nat} (hO : Ok G α cX7_term 11 RX7 0 0) (hR : Rt G α (some .long)) (p1 : Int64) (p2 : Int64) (p3 : Int32) (σ : Hp) : V G α 11 (kOJ σ) 0 [(0, .long p1), (2, .long p2), (4, .int p3)] [] σ (F_X7_term p1 p2 p3 σ) := by
  rw [F_X7_term]
  refine V_lload_n hO 0 dX7_term_0 rfl rfl ?_
  refine V_lstore hO (ls2 := [(5, .long p1), (0, .long p1), (2, .long p2), (4, .int p3)]) dX7_term_1 (by decide) rfl ?_
  refine V_lload_n hO 2 dX7_term_3 rfl rfl ?_
  refine V_lstore hO (ls2 := [(7, .long p2), (5, .long p1), (0, .long p1), (2, .long p2), (4, .int p3)]) dX7_term_4 (by decide) rfl ?_
  exact V_sub [2, 3, 4, 1, 0] rfl (T_X7_term_6 hO hR σ fuel p1 p2 p3 p1 p2 )
set_option maxHeartbeats 4000000 in
set_option maxRecDepth 100000 in
theorem C_X7_term (α : Nat → Nat) (p1 : Int64) (p2 : Int64) (p3 : Int32) (σ : Hp) : Ct yX7_term cX7_term 11 (some .long) 0 0 α [.long p1, .long p2, .int p3] σ (kOJ σ (F_X7_term p1 p2 p3 σ)) := ct_of_V (own := RX7) rfl (by decide +kernel) (Nat.le_of_ble_eq_true rfl) fun _ hO hR => T_X7_term hO hR p1 p2 p3 σ
/-! X7_staysBy -/
noncomputable def F_X7_staysBy  (p1 : Int32) (p2 : Int32) (p3 : Int32) (σ : Hp) : Option Bool :=
  if inb ((8 : Int32) * p1) 80 = true then
  lt (σ.1 58 (Int32.toNatClampNeg ((8 : Int32) * p1))) fun v2 =>
  if inb (((8 : Int32) * p1) + (1 : Int32)) 80 = true then
  if inb (σ.1 58 (Int32.toNatClampNeg (((8 : Int32) * p1) + (1 : Int32)))) 16 = true then
  lt ((σ.1 56 (Int32.toNatClampNeg (σ.1 58 (Int32.toNatClampNeg (((8 : Int32) * p1) + (1 : Int32)))))) - (p2 * p3)) fun v5 =>
  if inb (((8 : Int32) * p1) + (5 : Int32)) 80 = true then
  lt ((σ.1 58 (Int32.toNatClampNeg (((8 : Int32) * p1) + (5 : Int32)))) - (p2 * (F_X7_thawOf v2 p3 σ))) fun v7 =>
  if inb (((8 : Int32) * p1) + (6 : Int32)) 80 = true then
  if (σ.1 58 (Int32.toNatClampNeg (((8 : Int32) * p1) + (6 : Int32)))) = (2 : Int32) then
  some true
  else
  (F_X7_isThere p1 σ).bind fun v9 =>
  if v9 = true then
  if p2 = 0 then
  some true
  else
  if v5 ≤ 0 then
  some false
  else
  if v7 ≤ 0 then
  some false
  else
  if v2 = (3 : Int32) then
  some false
  else
  some true
  else
  some false
  else none
  else none
  else none
  else none
  else none
set_option maxHeartbeats 4000000 in
set_option maxRecDepth 100000 in
theorem T_X7_staysBy {G : Gm} {α : Nat → Nat} (hO : Ok G α cX7_staysBy 7 RX7 1 21) (hR : Rt G α (some .boolean)) (p1 : Int32) (p2 : Int32) (p3 : Int32) (σ : Hp) : V G α 7 (kOZ σ) 0 [(0, .ref (α (55))), (1, .int p1), (2, .int p2), (3, .int p3)] [] σ (F_X7_staysBy p1 p2 p3 σ) := by
  rw [F_X7_staysBy]
  refine V_aload_n hO 0 dX7_staysBy_0 rfl rfl ?_
  refine V_get hO (v := .ref (α (58))) fl_X7_16 (by decide) (fun _ _ => ce_55) rfl dX7_staysBy_1 ?_
  refine V_bipush hO 8 dX7_staysBy_4 (by decide) ?_
  refine V_iload_n hO 1 dX7_staysBy_6 rfl rfl ?_
  refine V_imul hO dX7_staysBy_7 ?_
  refine V_chk rfl fun c1 => ?_
  refine V_iald hO (by decide) (fun _ _ => ce_58) (inb_in c1) dX7_staysBy_8 ?_
  refine V_istoreN hO (ls2 := fun v2 => [(4, .int v2), (0, .ref (α (55))), (1, .int p1), (2, .int p2), (3, .int p3)]) dX7_staysBy_9 (by decide) (fun _ => rfl) (fun v2 => ?_)
  refine V_aload_n hO 1 dX7_staysBy_11 rfl rfl ?_
  refine V_get hO (v := .ref (α (56))) fl_X7_7 (by decide) (fun _ _ => ce_55) rfl dX7_staysBy_12 ?_
  refine V_aload_n hO 1 dX7_staysBy_15 rfl rfl ?_
  refine V_get hO (v := .ref (α (58))) fl_X7_16 (by decide) (fun _ _ => ce_55) rfl dX7_staysBy_16 ?_
  refine V_bipush hO 8 dX7_staysBy_19 (by decide) ?_
  refine V_iload_n hO 2 dX7_staysBy_21 rfl rfl ?_
  refine V_imul hO dX7_staysBy_22 ?_
  refine V_iconst hO 1 dX7_staysBy_23 (by decide) ?_
  refine V_iadd hO dX7_staysBy_24 ?_
  refine V_chk rfl fun c3 => ?_
  refine V_iald hO (by decide) (fun _ _ => ce_58) (inb_in c3) dX7_staysBy_25 ?_
  refine V_chk rfl fun c4 => ?_
  refine V_iald hO (by decide) (fun _ _ => ce_56) (inb_in c4) dX7_staysBy_26 ?_
  refine V_iload_n hO 3 dX7_staysBy_27 rfl rfl ?_
  refine V_iload_n hO 4 dX7_staysBy_28 rfl rfl ?_
  refine V_imul hO dX7_staysBy_29 ?_
  refine V_isub hO dX7_staysBy_30 ?_
  refine V_istoreN hO (ls2 := fun v5 => [(5, .int v5), (4, .int v2), (0, .ref (α (55))), (1, .int p1), (2, .int p2), (3, .int p3)]) dX7_staysBy_31 (by decide) (fun _ => rfl) (fun v5 => ?_)
  refine V_aload_n hO 2 dX7_staysBy_33 rfl rfl ?_
  refine V_get hO (v := .ref (α (58))) fl_X7_16 (by decide) (fun _ _ => ce_55) rfl dX7_staysBy_34 ?_
  refine V_bipush hO 8 dX7_staysBy_37 (by decide) ?_
  refine V_iload_n hO 3 dX7_staysBy_39 rfl rfl ?_
  refine V_imul hO dX7_staysBy_40 ?_
  refine V_iconst hO 5 dX7_staysBy_41 (by decide) ?_
  refine V_iadd hO dX7_staysBy_42 ?_
  refine V_chk rfl fun c6 => ?_
  refine V_iald hO (by decide) (fun _ _ => ce_58) (inb_in c6) dX7_staysBy_43 ?_
  refine V_iload_n hO 4 dX7_staysBy_44 rfl rfl ?_
  refine V_iload hO 1 dX7_staysBy_45 rfl ?_
  refine V_iload_n hO 5 dX7_staysBy_47 rfl rfl ?_
  refine V_callS hO ml_X7_163 (C_X7_thawOf α v2 p3 σ) (rest := [.int p2, .int (σ.1 58 (Int32.toNatClampNeg (((8 : Int32) * p1) + (5 : Int32))))]) rfl rfl (Nat.le_of_ble_eq_true rfl) ⟨Nat.le_of_ble_eq_true rfl, Nat.le_of_ble_eq_true rfl⟩ dX7_staysBy_48 (kc_I ?_)
  refine V_imul hO dX7_staysBy_51 ?_
  refine V_isub hO dX7_staysBy_52 ?_
  refine V_istoreN hO (ls2 := fun v7 => [(6, .int v7), (5, .int v5), (4, .int v2), (0, .ref (α (55))), (1, .int p1), (2, .int p2), (3, .int p3)]) dX7_staysBy_53 (by decide) (fun _ => rfl) (fun v7 => ?_)
  refine V_aload_n hO 3 dX7_staysBy_55 rfl rfl ?_
  refine V_get hO (v := .ref (α (58))) fl_X7_16 (by decide) (fun _ _ => ce_55) rfl dX7_staysBy_56 ?_
  refine V_bipush hO 8 dX7_staysBy_59 (by decide) ?_
  refine V_iload_n hO 4 dX7_staysBy_61 rfl rfl ?_
  refine V_imul hO dX7_staysBy_62 ?_
  refine V_bipush hO 6 dX7_staysBy_63 (by decide) ?_
  refine V_iadd hO dX7_staysBy_65 ?_
  refine V_chk rfl fun c8 => ?_
  refine V_iald hO (by decide) (fun _ _ => ce_58) (inb_in c8) dX7_staysBy_66 ?_
  refine V_iconst hO 2 dX7_staysBy_67 (by decide) ?_
  refine V_icmp_eq hO 99 dX7_staysBy_68 (by decide) ?_ ?_
  · refine V_iconst hO 1 dX7_staysBy_99 (by decide) ?_
    refine V_goto hO 104 dX7_staysBy_100 (by decide) ?_
    exact V_zret hO hR (by decide) rfl dX7_staysBy_104
  · refine V_aload_n hO 3 dX7_staysBy_71 rfl rfl ?_
    refine V_iload_n hO 4 dX7_staysBy_72 rfl rfl ?_
    refine V_callV hO ml_X7_94 (C_X7_isThere α p1 σ) (by decide) (fun _ _ => ce_55) rfl rfl (rest := []) rfl rfl (Nat.le_of_ble_eq_true rfl) ⟨Nat.le_of_ble_eq_true rfl, Nat.le_of_ble_eq_true rfl⟩ dX7_staysBy_73 (kc_OZ rfl fun v9 => ?_)
    refine V_ifeqZ hO 103 dX7_staysBy_76 (by decide) ?_ ?_
    · refine V_iconst hO 0 dX7_staysBy_103 (by decide) ?_
      exact V_zret hO hR (by decide) rfl dX7_staysBy_104
    · refine V_iload_n hO 5 dX7_staysBy_79 rfl rfl ?_
      refine V_if_eq hO 99 dX7_staysBy_80 (by decide) ?_ ?_
      · refine V_iconst hO 1 dX7_staysBy_99 (by decide) ?_
        refine V_goto hO 104 dX7_staysBy_100 (by decide) ?_
        exact V_zret hO hR (by decide) rfl dX7_staysBy_104
      · refine V_iload hO 1 dX7_staysBy_83 rfl ?_
        refine V_if_le hO 103 dX7_staysBy_85 (by decide) ?_ ?_
        · refine V_iconst hO 0 dX7_staysBy_103 (by decide) ?_
          exact V_zret hO hR (by decide) rfl dX7_staysBy_104
        · refine V_iload hO 0 dX7_staysBy_88 rfl ?_
          refine V_if_le hO 103 dX7_staysBy_90 (by decide) ?_ ?_
          · refine V_iconst hO 0 dX7_staysBy_103 (by decide) ?_
            exact V_zret hO hR (by decide) rfl dX7_staysBy_104
          · refine V_iload hO 2 dX7_staysBy_93 rfl ?_
            refine V_iconst hO 3 dX7_staysBy_95 (by decide) ?_
            refine V_icmp_eq hO 103 dX7_staysBy_96 (by decide) ?_ ?_
            · refine V_iconst hO 0 dX7_staysBy_103 (by decide) ?_
              exact V_zret hO hR (by decide) rfl dX7_staysBy_104
            · refine V_iconst hO 1 dX7_staysBy_99 (by decide) ?_
              refine V_goto hO 104 dX7_staysBy_100 (by decide) ?_
              exact V_zret hO hR (by decide) rfl dX7_staysBy_104
set_option maxHeartbeats 4000000 in
set_option maxRecDepth 100000 in
theorem C_X7_staysBy (α : Nat → Nat) (p1 : Int32) (p2 : Int32) (p3 : Int32) (σ : Hp) : Ct yX7_staysBy cX7_staysBy 7 (some .boolean) 1 21 α [.ref (α (55)), .int p1, .int p2, .int p3] σ (kOZ σ (F_X7_staysBy p1 p2 p3 σ)) := ct_of_V (own := RX7) rfl (by decide +kernel) (Nat.le_of_ble_eq_true rfl) fun _ hO hR => T_X7_staysBy hO hR p1 p2 p3 σ
/-! X7_odds -/
noncomputable def F_X7_odds_60 (σ : Hp)  : Option Int64 :=
  some ((-102) : Int64)
noncomputable def F_X7_odds_114 (σ : Hp) (k89 : Int32 → Int32 → Int32 → Int32 → Int32 → Int64 → Int64 → Int64 → Int32 → Int64 → Int32 → (Option Int64)) (w1 : Int32) (w2 : Int32) (w3 : Int32) (w4 : Int32) (w5 : Int32) (w6 : Int64) (w8 : Int64) (w10 : Int64) (w12 : Int32) (w15 : Int32) (s0 : Int64) (s1 : Int64) : Option Int64 :=
  lt (s1 * s0) fun v1 =>
  k89 w1 w2 w3 w4 w5 w6 w8 w10 w12 v1 (w15 + 1)
noncomputable def F_X7_odds_177 (σ : Hp) (k76 : Int32 → Int32 → Int32 → Int32 → Int32 → Int64 → Int64 → Int64 → Int32 → (Option Int64)) (w1 : Int32) (w2 : Int32) (w3 : Int32) (w4 : Int32) (w5 : Int32) (w6 : Int64) (w10 : Int64) (w12 : Int32) (s0 : Int64) (s1 : Int64) : Option Int64 :=
  lt (s1 * s0) fun v2 =>
  k76 w1 w2 w3 w4 w5 w6 v2 w10 (w12 + 1)
noncomputable def F_X7_odds_143 (σ : Hp) (k76 : Int32 → Int32 → Int32 → Int32 → Int32 → Int64 → Int64 → Int64 → Int32 → (Option Int64)) (w1 : Int32) (w2 : Int32) (w3 : Int32) (w4 : Int32) (w5 : Int32) (w8 : Int64) (w10 : Int64) (w12 : Int32) (s0 : Int64) (s1 : Int64) : Option Int64 :=
  lt (s1 + s0) fun v3 =>
  if ¬ (Int32.toInt64 (w12 + (1 : Int32))) = 0 then
  lt ((w10 * (Int32.toInt64 (w2 - w12))) / (Int32.toInt64 (w12 + (1 : Int32)))) fun v4 =>
  if w2 ≤ w12 then
  F_X7_odds_177 σ k76 w1 w2 w3 w4 w5 v3 v4 w12 (1 : Int64) w8
  else
  F_X7_odds_177 σ k76 w1 w2 w3 w4 w5 v3 v4 w12 (10 : Int64) w8
  else none
noncomputable def F_X7_odds_89 (σ : Hp) (k76 : Int32 → Int32 → Int32 → Int32 → Int32 → Int64 → Int64 → Int64 → Int32 → (Option Int64)) : Nat → Int32 → Int32 → Int32 → Int32 → Int32 → Int64 → Int64 → Int64 → Int32 → Int64 → Int32 → Option Int64
  | 0, _, _, _, _, _, _, _, _, _, _, _ => none
  | n + 1, w1, w2, w3, w4, w5, w6, w8, w10, w12, w13, w15 =>
    if w2 ≤ w15 then
    (F_X7_staysBy w1 w12 w4 σ).bind fun v6 =>
    if v6 = true then
    F_X7_odds_143 σ k76 w1 w2 w3 w4 w5 w8 w10 w12 w13 w6
    else
    F_X7_odds_143 σ k76 w1 w2 w3 w4 w5 w8 w10 w12 (0 : Int64) w6
    else
    if w12 ≤ w15 then
    F_X7_odds_114 σ (F_X7_odds_89 σ k76 n) w1 w2 w3 w4 w5 w6 w8 w10 w12 w15 (Int32.toInt64 ((10 : Int32) - w3)) w13
    else
    F_X7_odds_114 σ (F_X7_odds_89 σ k76 n) w1 w2 w3 w4 w5 w6 w8 w10 w12 w15 (Int32.toInt64 w3) w13
noncomputable def F_X7_odds_76 (σ : Hp) : Nat → Int32 → Int32 → Int32 → Int32 → Int32 → Int64 → Int64 → Int64 → Int32 → Option Int64
  | 0, _, _, _, _, _, _, _, _, _ => none
  | n + 1, w1, w2, w3, w4, w5, w6, w8, w10, w12 =>
    if w2 < w12 then
    (F_X7_term w6 w8 w5 σ).bind fun v7 =>
    some v7
    else
    F_X7_odds_89 σ (F_X7_odds_76 σ n) fuel w1 w2 w3 w4 w5 w6 w8 w10 w12 w10 (0 : Int32)
noncomputable def F_X7_odds  (p1 : Int32) (p2 : Int32) (p3 : Int32) (p4 : Int32) (p5 : Int32) (σ : Hp) : Option Int64 :=
  if (F_X7_isDebt p1 σ) = true then
  if (F_X7_in (Int32.toInt64 p2) (1 : Int64) (9 : Int64) σ) = true then
  if (F_X7_in (Int32.toInt64 p3) (0 : Int64) (9 : Int64) σ) = true then
  if (F_X7_in (Int32.toInt64 p4) (1 : Int64) (9 : Int64) σ) = true then
  if (F_X7_in (Int32.toInt64 p5) (0 : Int64) (1 : Int64) σ) = true then
  F_X7_odds_76 σ fuel p1 p2 p3 p4 p5 (0 : Int64) (1 : Int64) (1 : Int64) (0 : Int32)
  else
  F_X7_odds_60 σ 
  else
  F_X7_odds_60 σ 
  else
  F_X7_odds_60 σ 
  else
  F_X7_odds_60 σ 
  else
  some ((-101) : Int64)
set_option maxHeartbeats 4000000 in
set_option maxRecDepth 100000 in
theorem T_X7_odds_60 {G : Gm} {α : Nat → Nat} (hO : Ok G α cX7_odds 16 RX7 2 47) (hR : Rt G α (some .long)) (σ : Hp) : V G α 16 (kOJ σ) 60 [] [] σ (F_X7_odds_60 σ ) := by
  rw [F_X7_odds_60]
  refine V_ldc2 hO (v := (-102)) dX7_odds_60 cn_X7_224 ?_
  exact V_lret hO hR rfl dX7_odds_63
set_option maxHeartbeats 4000000 in
set_option maxRecDepth 100000 in
theorem T_X7_odds_114 {G : Gm} {α : Nat → Nat} (hO : Ok G α cX7_odds 16 RX7 2 47) (hR : Rt G α (some .long)) (σ : Hp) (k89 : Int32 → Int32 → Int32 → Int32 → Int32 → Int64 → Int64 → Int64 → Int32 → Int64 → Int32 → (Option Int64)) (hk89 : ∀ (w1 : Int32) (w2 : Int32) (w3 : Int32) (w4 : Int32) (w5 : Int32) (w6 : Int64) (w8 : Int64) (w10 : Int64) (w12 : Int32) (w13 : Int64) (w15 : Int32), V G α 16 (kOJ σ) 89 [(0, .ref (α (55))), (1, .int w1), (2, .int w2), (3, .int w3), (4, .int w4), (5, .int w5), (6, .long w6), (8, .long w8), (10, .long w10), (12, .int w12), (13, .long w13), (15, .int w15)] [] σ (k89 w1 w2 w3 w4 w5 w6 w8 w10 w12 w13 w15)) : ∀ (w1 : Int32) (w2 : Int32) (w3 : Int32) (w4 : Int32) (w5 : Int32) (w6 : Int64) (w8 : Int64) (w10 : Int64) (w12 : Int32) (w15 : Int32) (s0 : Int64) (s1 : Int64), V G α 16 (kOJ σ) 114 [(0, .ref (α (55))), (1, .int w1), (2, .int w2), (3, .int w3), (4, .int w4), (5, .int w5), (6, .long w6), (8, .long w8), (10, .long w10), (12, .int w12), (15, .int w15)] [.long s0, .long s1] σ (F_X7_odds_114 σ k89 w1 w2 w3 w4 w5 w6 w8 w10 w12 w15 s0 s1) := by
  intro w1 w2 w3 w4 w5 w6 w8 w10 w12 w15 s0 s1
  rw [F_X7_odds_114]
  refine V_lmul hO dX7_odds_114 ?_
  refine V_lstoreN hO (ls2 := fun v1 => [(13, .long v1), (0, .ref (α (55))), (1, .int w1), (2, .int w2), (3, .int w3), (4, .int w4), (5, .int w5), (6, .long w6), (8, .long w8), (10, .long w10), (12, .int w12), (15, .int w15)]) dX7_odds_115 (by decide) (fun _ => rfl) (fun v1 => ?_)
  refine V_iinc hO (ls2 := [(15, .int (w15 + 1)), (13, .long v1), (0, .ref (α (55))), (1, .int w1), (2, .int w2), (3, .int w3), (4, .int w4), (5, .int w5), (6, .long w6), (8, .long w8), (10, .long w10), (12, .int w12)]) (z := 1) 11 dX7_odds_117 rfl (by decide) (by decide) rfl ?_
  refine V_goto hO 89 dX7_odds_120 (by decide) ?_
  exact V_sub [2, 3, 4, 5, 6, 7, 8, 9, 10, 11, 1, 0] rfl (hk89 w1 w2 w3 w4 w5 w6 w8 w10 w12 v1 (w15 + 1) )
set_option maxHeartbeats 4000000 in
set_option maxRecDepth 100000 in
theorem T_X7_odds_177 {G : Gm} {α : Nat → Nat} (hO : Ok G α cX7_odds 16 RX7 2 47) (hR : Rt G α (some .long)) (σ : Hp) (k76 : Int32 → Int32 → Int32 → Int32 → Int32 → Int64 → Int64 → Int64 → Int32 → (Option Int64)) (hk76 : ∀ (w1 : Int32) (w2 : Int32) (w3 : Int32) (w4 : Int32) (w5 : Int32) (w6 : Int64) (w8 : Int64) (w10 : Int64) (w12 : Int32), V G α 16 (kOJ σ) 76 [(0, .ref (α (55))), (1, .int w1), (2, .int w2), (3, .int w3), (4, .int w4), (5, .int w5), (6, .long w6), (8, .long w8), (10, .long w10), (12, .int w12)] [] σ (k76 w1 w2 w3 w4 w5 w6 w8 w10 w12)) : ∀ (w1 : Int32) (w2 : Int32) (w3 : Int32) (w4 : Int32) (w5 : Int32) (w6 : Int64) (w10 : Int64) (w12 : Int32) (s0 : Int64) (s1 : Int64), V G α 16 (kOJ σ) 177 [(0, .ref (α (55))), (1, .int w1), (2, .int w2), (3, .int w3), (4, .int w4), (5, .int w5), (6, .long w6), (10, .long w10), (12, .int w12)] [.long s0, .long s1] σ (F_X7_odds_177 σ k76 w1 w2 w3 w4 w5 w6 w10 w12 s0 s1) := by
  intro w1 w2 w3 w4 w5 w6 w10 w12 s0 s1
  rw [F_X7_odds_177]
  refine V_lmul hO dX7_odds_177 ?_
  refine V_lstoreN hO (ls2 := fun v2 => [(8, .long v2), (0, .ref (α (55))), (1, .int w1), (2, .int w2), (3, .int w3), (4, .int w4), (5, .int w5), (6, .long w6), (10, .long w10), (12, .int w12)]) dX7_odds_178 (by decide) (fun _ => rfl) (fun v2 => ?_)
  refine V_iinc hO (ls2 := [(12, .int (w12 + 1)), (8, .long v2), (0, .ref (α (55))), (1, .int w1), (2, .int w2), (3, .int w3), (4, .int w4), (5, .int w5), (6, .long w6), (10, .long w10)]) (z := 1) 9 dX7_odds_180 rfl (by decide) (by decide) rfl ?_
  refine V_goto hO 76 dX7_odds_183 (by decide) ?_
  exact V_sub [2, 3, 4, 5, 6, 7, 8, 1, 9, 0] rfl (hk76 w1 w2 w3 w4 w5 w6 v2 w10 (w12 + 1) )
set_option maxHeartbeats 4000000 in
set_option maxRecDepth 100000 in
theorem T_X7_odds_143 {G : Gm} {α : Nat → Nat} (hO : Ok G α cX7_odds 16 RX7 2 47) (hR : Rt G α (some .long)) (σ : Hp) (k76 : Int32 → Int32 → Int32 → Int32 → Int32 → Int64 → Int64 → Int64 → Int32 → (Option Int64)) (hk76 : ∀ (w1 : Int32) (w2 : Int32) (w3 : Int32) (w4 : Int32) (w5 : Int32) (w6 : Int64) (w8 : Int64) (w10 : Int64) (w12 : Int32), V G α 16 (kOJ σ) 76 [(0, .ref (α (55))), (1, .int w1), (2, .int w2), (3, .int w3), (4, .int w4), (5, .int w5), (6, .long w6), (8, .long w8), (10, .long w10), (12, .int w12)] [] σ (k76 w1 w2 w3 w4 w5 w6 w8 w10 w12)) : ∀ (w1 : Int32) (w2 : Int32) (w3 : Int32) (w4 : Int32) (w5 : Int32) (w8 : Int64) (w10 : Int64) (w12 : Int32) (s0 : Int64) (s1 : Int64), V G α 16 (kOJ σ) 143 [(0, .ref (α (55))), (1, .int w1), (2, .int w2), (3, .int w3), (4, .int w4), (5, .int w5), (8, .long w8), (10, .long w10), (12, .int w12)] [.long s0, .long s1] σ (F_X7_odds_143 σ k76 w1 w2 w3 w4 w5 w8 w10 w12 s0 s1) := by
  intro w1 w2 w3 w4 w5 w8 w10 w12 s0 s1
  rw [F_X7_odds_143]
  refine V_ladd hO dX7_odds_143 ?_
  refine V_lstoreN hO (ls2 := fun v3 => [(6, .long v3), (0, .ref (α (55))), (1, .int w1), (2, .int w2), (3, .int w3), (4, .int w4), (5, .int w5), (8, .long w8), (10, .long w10), (12, .int w12)]) dX7_odds_144 (by decide) (fun _ => rfl) (fun v3 => ?_)
  refine V_lload hO 8 dX7_odds_146 rfl ?_
  refine V_iload_n hO 3 dX7_odds_148 rfl rfl ?_
  refine V_iload hO 9 dX7_odds_149 rfl ?_
  refine V_isub hO dX7_odds_151 ?_
  refine V_i2l hO dX7_odds_152 ?_
  refine V_lmul hO dX7_odds_153 ?_
  refine V_iload hO 9 dX7_odds_154 rfl ?_
  refine V_iconst hO 1 dX7_odds_156 (by decide) ?_
  refine V_iadd hO dX7_odds_157 ?_
  refine V_i2l hO dX7_odds_158 ?_
  refine V_chk rfl fun c5 => ?_
  refine V_ldiv hO dX7_odds_159 c5 ?_
  refine V_lstoreN hO (ls2 := fun v4 => [(10, .long v4), (6, .long v3), (0, .ref (α (55))), (1, .int w1), (2, .int w2), (3, .int w3), (4, .int w4), (5, .int w5), (8, .long w8), (12, .int w12)]) dX7_odds_160 (by decide) (fun _ => rfl) (fun v4 => ?_)
  refine V_lload hO 8 dX7_odds_162 rfl ?_
  refine V_iload hO 9 dX7_odds_164 rfl ?_
  refine V_iload_n hO 4 dX7_odds_166 rfl rfl ?_
  refine V_icmp_ge hO 176 dX7_odds_167 (by decide) ?_ ?_
  · refine V_lconst hO 1 dX7_odds_176 (by decide) ?_
    exact V_sub [2, 3, 4, 5, 6, 7, 1, 0, 9] rfl (T_X7_odds_177 hO hR σ k76 hk76 w1 w2 w3 w4 w5 v3 v4 w12 (1 : Int64) w8 )
  · refine V_ldc2 hO (v := 10) dX7_odds_170 cn_X7_229 ?_
    refine V_goto hO 177 dX7_odds_173 (by decide) ?_
    exact V_sub [2, 3, 4, 5, 6, 7, 1, 0, 9] rfl (T_X7_odds_177 hO hR σ k76 hk76 w1 w2 w3 w4 w5 v3 v4 w12 (10 : Int64) w8 )
set_option maxHeartbeats 4000000 in
set_option maxRecDepth 100000 in
theorem T_X7_odds_89 {G : Gm} {α : Nat → Nat} (hO : Ok G α cX7_odds 16 RX7 2 47) (hR : Rt G α (some .long)) (σ : Hp) (k76 : Int32 → Int32 → Int32 → Int32 → Int32 → Int64 → Int64 → Int64 → Int32 → (Option Int64)) (hk76 : ∀ (w1 : Int32) (w2 : Int32) (w3 : Int32) (w4 : Int32) (w5 : Int32) (w6 : Int64) (w8 : Int64) (w10 : Int64) (w12 : Int32), V G α 16 (kOJ σ) 76 [(0, .ref (α (55))), (1, .int w1), (2, .int w2), (3, .int w3), (4, .int w4), (5, .int w5), (6, .long w6), (8, .long w8), (10, .long w10), (12, .int w12)] [] σ (k76 w1 w2 w3 w4 w5 w6 w8 w10 w12)) : ∀ (fuel : Nat) (w1 : Int32) (w2 : Int32) (w3 : Int32) (w4 : Int32) (w5 : Int32) (w6 : Int64) (w8 : Int64) (w10 : Int64) (w12 : Int32) (w13 : Int64) (w15 : Int32), V G α 16 (kOJ σ) 89 [(0, .ref (α (55))), (1, .int w1), (2, .int w2), (3, .int w3), (4, .int w4), (5, .int w5), (6, .long w6), (8, .long w8), (10, .long w10), (12, .int w12), (13, .long w13), (15, .int w15)] [] σ (F_X7_odds_89 σ k76 fuel w1 w2 w3 w4 w5 w6 w8 w10 w12 w13 w15) := by
  intro fuel
  induction fuel with
  | zero => intro w1 w2 w3 w4 w5 w6 w8 w10 w12 w13 w15; exact V_none rfl
  | succ n ih =>
    intro w1 w2 w3 w4 w5 w6 w8 w10 w12 w13 w15
    rw [F_X7_odds_89]
    refine V_iload hO 11 dX7_odds_89 rfl ?_
    refine V_iload_n hO 2 dX7_odds_91 rfl rfl ?_
    refine V_icmp_ge hO 123 dX7_odds_92 (by decide) ?_ ?_
    · refine V_lload hO 6 dX7_odds_123 rfl ?_
      refine V_aload_n hO 0 dX7_odds_125 rfl rfl ?_
      refine V_iload_n hO 1 dX7_odds_126 rfl rfl ?_
      refine V_iload hO 9 dX7_odds_127 rfl ?_
      refine V_iload hO 4 dX7_odds_129 rfl ?_
      refine V_callV hO ml_X7_226 (C_X7_staysBy α w1 w12 w4 σ) (by decide) (fun _ _ => ce_55) rfl rfl (rest := [.long w6]) rfl rfl (Nat.le_of_ble_eq_true rfl) ⟨Nat.le_of_ble_eq_true rfl, Nat.le_of_ble_eq_true rfl⟩ dX7_odds_131 (kc_OZ rfl fun v6 => ?_)
      refine V_ifeqZ hO 142 dX7_odds_134 (by decide) ?_ ?_
      · refine V_lconst hO 0 dX7_odds_142 (by decide) ?_
        exact V_sub [0, 1, 2, 3, 4, 5, 7, 8, 9] rfl (T_X7_odds_143 hO hR σ k76 hk76 w1 w2 w3 w4 w5 w8 w10 w12 (0 : Int64) w6 )
      · refine V_lload hO 10 dX7_odds_137 rfl ?_
        refine V_goto hO 143 dX7_odds_139 (by decide) ?_
        exact V_sub [0, 1, 2, 3, 4, 5, 7, 8, 9] rfl (T_X7_odds_143 hO hR σ k76 hk76 w1 w2 w3 w4 w5 w8 w10 w12 w13 w6 )
    · refine V_lload hO 10 dX7_odds_95 rfl ?_
      refine V_iload hO 11 dX7_odds_97 rfl ?_
      refine V_iload hO 9 dX7_odds_99 rfl ?_
      refine V_icmp_ge hO 109 dX7_odds_101 (by decide) ?_ ?_
      · refine V_bipush hO 10 dX7_odds_109 (by decide) ?_
        refine V_iload_n hO 3 dX7_odds_111 rfl rfl ?_
        refine V_isub hO dX7_odds_112 ?_
        refine V_i2l hO dX7_odds_113 ?_
        exact V_sub [0, 1, 2, 3, 4, 5, 6, 7, 8, 9, 11] rfl (T_X7_odds_114 hO hR σ (F_X7_odds_89 σ k76 n) ih w1 w2 w3 w4 w5 w6 w8 w10 w12 w15 (Int32.toInt64 ((10 : Int32) - w3)) w13 )
      · refine V_iload_n hO 3 dX7_odds_104 rfl rfl ?_
        refine V_i2l hO dX7_odds_105 ?_
        refine V_goto hO 114 dX7_odds_106 (by decide) ?_
        exact V_sub [0, 1, 2, 3, 4, 5, 6, 7, 8, 9, 11] rfl (T_X7_odds_114 hO hR σ (F_X7_odds_89 σ k76 n) ih w1 w2 w3 w4 w5 w6 w8 w10 w12 w15 (Int32.toInt64 w3) w13 )
set_option maxHeartbeats 4000000 in
set_option maxRecDepth 100000 in
theorem T_X7_odds_76 {G : Gm} {α : Nat → Nat} (hO : Ok G α cX7_odds 16 RX7 2 47) (hR : Rt G α (some .long)) (σ : Hp) : ∀ (fuel : Nat) (w1 : Int32) (w2 : Int32) (w3 : Int32) (w4 : Int32) (w5 : Int32) (w6 : Int64) (w8 : Int64) (w10 : Int64) (w12 : Int32), V G α 16 (kOJ σ) 76 [(0, .ref (α (55))), (1, .int w1), (2, .int w2), (3, .int w3), (4, .int w4), (5, .int w5), (6, .long w6), (8, .long w8), (10, .long w10), (12, .int w12)] [] σ (F_X7_odds_76 σ fuel w1 w2 w3 w4 w5 w6 w8 w10 w12) := by
  intro fuel
  induction fuel with
  | zero => intro w1 w2 w3 w4 w5 w6 w8 w10 w12; exact V_none rfl
  | succ n ih =>
    intro w1 w2 w3 w4 w5 w6 w8 w10 w12
    rw [F_X7_odds_76]
    refine V_iload hO 9 dX7_odds_76 rfl ?_
    refine V_iload_n hO 2 dX7_odds_78 rfl rfl ?_
    refine V_icmp_gt hO 186 dX7_odds_79 (by decide) ?_ ?_
    · refine V_lload hO 6 dX7_odds_186 rfl ?_
      refine V_lload hO 7 dX7_odds_188 rfl ?_
      refine V_iload hO 5 dX7_odds_190 rfl ?_
      refine V_callS hO ml_X7_231 (C_X7_term α w6 w8 w5 σ) (rest := []) rfl rfl (Nat.le_of_ble_eq_true rfl) ⟨Nat.le_of_ble_eq_true rfl, Nat.le_of_ble_eq_true rfl⟩ dX7_odds_192 (kc_OJ rfl fun v7 => ?_)
      exact V_lret hO hR rfl dX7_odds_195
    · refine V_lload hO 8 dX7_odds_82 rfl ?_
      refine V_lstore hO (ls2 := [(13, .long w10), (0, .ref (α (55))), (1, .int w1), (2, .int w2), (3, .int w3), (4, .int w4), (5, .int w5), (6, .long w6), (8, .long w8), (10, .long w10), (12, .int w12)]) dX7_odds_84 (by decide) rfl ?_
      refine V_iconst hO 0 dX7_odds_86 (by decide) ?_
      refine V_istore hO (ls2 := [(15, .int 0), (13, .long w10), (0, .ref (α (55))), (1, .int w1), (2, .int w2), (3, .int w3), (4, .int w4), (5, .int w5), (6, .long w6), (8, .long w8), (10, .long w10), (12, .int w12)]) dX7_odds_87 (by decide) rfl ?_
      exact V_sub [2, 3, 4, 5, 6, 7, 8, 9, 10, 11, 1, 0] rfl (T_X7_odds_89 hO hR σ (F_X7_odds_76 σ n) ih fuel w1 w2 w3 w4 w5 w6 w8 w10 w12 w10 (0 : Int32) )
set_option maxHeartbeats 4000000 in
set_option maxRecDepth 100000 in
theorem T_X7_odds {G : Gm} {α : Nat → Nat} (hO : Ok G α cX7_odds 16 RX7 2 47) (hR : Rt G α (some .long)) (p1 : Int32) (p2 : Int32) (p3 : Int32) (p4 : Int32) (p5 : Int32) (σ : Hp) : V G α 16 (kOJ σ) 0 [(0, .ref (α (55))), (1, .int p1), (2, .int p2), (3, .int p3), (4, .int p4), (5, .int p5)] [] σ (F_X7_odds p1 p2 p3 p4 p5 σ) := by
  rw [F_X7_odds]
  refine V_aload_n hO 0 dX7_odds_0 rfl rfl ?_
  refine V_iload_n hO 1 dX7_odds_1 rfl rfl ?_
  refine V_callV hO ml_X7_129 (C_X7_isDebt α p1 σ) (by decide) (fun _ _ => ce_55) rfl rfl (rest := []) rfl rfl (Nat.le_of_ble_eq_true rfl) ⟨Nat.le_of_ble_eq_true rfl, Nat.le_of_ble_eq_true rfl⟩ dX7_odds_2 (kc_Z ?_)
  refine V_ifneZ hO 12 dX7_odds_5 (by decide) ?_ ?_
  · refine V_iload_n hO 2 dX7_odds_12 rfl rfl ?_
    refine V_i2l hO dX7_odds_13 ?_
    refine V_lconst hO 1 dX7_odds_14 (by decide) ?_
    refine V_ldc2 hO (v := 9) dX7_odds_15 cn_X7_121 ?_
    refine V_callS hO ml_X7_75 (C_X7_in α (Int32.toInt64 p2) (1 : Int64) (9 : Int64) σ) (rest := []) rfl rfl (Nat.le_of_ble_eq_true rfl) ⟨Nat.le_of_ble_eq_true rfl, Nat.le_of_ble_eq_true rfl⟩ dX7_odds_18 (kc_Z ?_)
    refine V_ifeqZ hO 60 dX7_odds_21 (by decide) ?_ ?_
    · exact V_sub [] rfl (T_X7_odds_60 hO hR σ )
    · refine V_iload_n hO 3 dX7_odds_24 rfl rfl ?_
      refine V_i2l hO dX7_odds_25 ?_
      refine V_lconst hO 0 dX7_odds_26 (by decide) ?_
      refine V_ldc2 hO (v := 9) dX7_odds_27 cn_X7_121 ?_
      refine V_callS hO ml_X7_75 (C_X7_in α (Int32.toInt64 p3) (0 : Int64) (9 : Int64) σ) (rest := []) rfl rfl (Nat.le_of_ble_eq_true rfl) ⟨Nat.le_of_ble_eq_true rfl, Nat.le_of_ble_eq_true rfl⟩ dX7_odds_30 (kc_Z ?_)
      refine V_ifeqZ hO 60 dX7_odds_33 (by decide) ?_ ?_
      · exact V_sub [] rfl (T_X7_odds_60 hO hR σ )
      · refine V_iload hO 4 dX7_odds_36 rfl ?_
        refine V_i2l hO dX7_odds_38 ?_
        refine V_lconst hO 1 dX7_odds_39 (by decide) ?_
        refine V_ldc2 hO (v := 9) dX7_odds_40 cn_X7_121 ?_
        refine V_callS hO ml_X7_75 (C_X7_in α (Int32.toInt64 p4) (1 : Int64) (9 : Int64) σ) (rest := []) rfl rfl (Nat.le_of_ble_eq_true rfl) ⟨Nat.le_of_ble_eq_true rfl, Nat.le_of_ble_eq_true rfl⟩ dX7_odds_43 (kc_Z ?_)
        refine V_ifeqZ hO 60 dX7_odds_46 (by decide) ?_ ?_
        · exact V_sub [] rfl (T_X7_odds_60 hO hR σ )
        · refine V_iload hO 5 dX7_odds_49 rfl ?_
          refine V_i2l hO dX7_odds_51 ?_
          refine V_lconst hO 0 dX7_odds_52 (by decide) ?_
          refine V_lconst hO 1 dX7_odds_53 (by decide) ?_
          refine V_callS hO ml_X7_75 (C_X7_in α (Int32.toInt64 p5) (0 : Int64) (1 : Int64) σ) (rest := []) rfl rfl (Nat.le_of_ble_eq_true rfl) ⟨Nat.le_of_ble_eq_true rfl, Nat.le_of_ble_eq_true rfl⟩ dX7_odds_54 (kc_Z ?_)
          refine V_ifneZ hO 64 dX7_odds_57 (by decide) ?_ ?_
          · refine V_lconst hO 0 dX7_odds_64 (by decide) ?_
            refine V_lstore hO (ls2 := [(6, .long 0), (0, .ref (α (55))), (1, .int p1), (2, .int p2), (3, .int p3), (4, .int p4), (5, .int p5)]) dX7_odds_65 (by decide) rfl ?_
            refine V_lconst hO 1 dX7_odds_67 (by decide) ?_
            refine V_lstore hO (ls2 := [(8, .long 1), (6, .long 0), (0, .ref (α (55))), (1, .int p1), (2, .int p2), (3, .int p3), (4, .int p4), (5, .int p5)]) dX7_odds_68 (by decide) rfl ?_
            refine V_lconst hO 1 dX7_odds_70 (by decide) ?_
            refine V_lstore hO (ls2 := [(10, .long 1), (8, .long 1), (6, .long 0), (0, .ref (α (55))), (1, .int p1), (2, .int p2), (3, .int p3), (4, .int p4), (5, .int p5)]) dX7_odds_71 (by decide) rfl ?_
            refine V_iconst hO 0 dX7_odds_73 (by decide) ?_
            refine V_istore hO (ls2 := [(12, .int 0), (10, .long 1), (8, .long 1), (6, .long 0), (0, .ref (α (55))), (1, .int p1), (2, .int p2), (3, .int p3), (4, .int p4), (5, .int p5)]) dX7_odds_74 (by decide) rfl ?_
            exact V_sub [4, 5, 6, 7, 8, 9, 3, 2, 1, 0] rfl (T_X7_odds_76 hO hR σ fuel p1 p2 p3 p4 p5 (0 : Int64) (1 : Int64) (1 : Int64) (0 : Int32) )
          · exact V_sub [] rfl (T_X7_odds_60 hO hR σ )
  · refine V_ldc2 hO (v := (-101)) dX7_odds_8 cn_X7_222 ?_
    exact V_lret hO hR rfl dX7_odds_11
set_option maxHeartbeats 4000000 in
set_option maxRecDepth 100000 in
theorem C_X7_odds (α : Nat → Nat) (p1 : Int32) (p2 : Int32) (p3 : Int32) (p4 : Int32) (p5 : Int32) (σ : Hp) : Ct yX7_odds cX7_odds 16 (some .long) 2 47 α [.ref (α (55)), .int p1, .int p2, .int p3, .int p4, .int p5] σ (kOJ σ (F_X7_odds p1 p2 p3 p4 p5 σ)) := ct_of_V (own := RX7) rfl (by decide +kernel) (Nat.le_of_ble_eq_true rfl) fun _ hO hR => T_X7_odds hO hR p1 p2 p3 p4 p5 σ
