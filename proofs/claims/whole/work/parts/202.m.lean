/-! X3_addSet -/
noncomputable def F_X3_addSet_57 (k4 : Int32 → Int32 → Int32 → Hp → (Option Hp)) (w1 : Int32) (w2 : Int32) (w3 : Int32) (h : Hp) : Option Hp :=
  k4 w1 w2 (w3 + 1) h
noncomputable def F_X3_addSet_84  (s0 : Int32) (s1 : Int32) (h : Hp) : Option Hp :=
  if inb s1 64 = true then
  lt (up h 53 (Int32.toNatClampNeg s1) s0) fun h2 =>
  some h2
  else none
noncomputable def F_X3_addSet_4  : Nat → Int32 → Int32 → Int32 → Hp → Option Hp
  | 0, _, _, _, _ => none
  | n + 1, w1, w2, w3, h =>
    if (6 : Int32) ≤ w3 then
    if inb w1 64 = true then
    if (h.1 52 (Int32.toNatClampNeg w1)) = 0 then
    F_X3_addSet_84 (w2 + (1 : Int32)) w1 h
    else
    F_X3_addSet_84 w2 w1 h
    else none
    else
    if ((w1 >>> (w3 &&& 31)) &&& (1 : Int32)) = 0 then
    F_X3_addSet_57 (F_X3_addSet_4 n) w1 w2 w3 h
    else
    lt (w1 ^^^ ((1 : Int32) <<< (w3 &&& 31))) fun v4 =>
    if inb v4 64 = true then
    if inb w3 6 = true then
    if inb w1 64 = true then
    lt (up h 52 (Int32.toNatClampNeg w1) ((h.1 52 (Int32.toNatClampNeg v4)) + (h.1 51 (Int32.toNatClampNeg w3)))) fun h8 =>
    if inb v4 64 = true then
    lt (imax w2 (h8.1 53 (Int32.toNatClampNeg v4))) fun v10 =>
    F_X3_addSet_57 (F_X3_addSet_4 n) w1 v10 w3 h8
    else none
    else none
    else none
    else none
noncomputable def F_X3_addSet  (p1 : Int32) (σ : Hp) : Option Hp :=
  F_X3_addSet_4 fuel p1 (0 : Int32) (0 : Int32) σ
set_option maxHeartbeats 4000000 in
set_option maxRecDepth 100000 in
theorem T_X3_addSet_57 {G : Gm} {α : Nat → Nat} (hO : Ok G α cX3_addSet 5 RX3 1 21) (hR : Rt G α none) (k4 : Int32 → Int32 → Int32 → Hp → (Option Hp)) (hk4 : ∀ (w1 : Int32) (w2 : Int32) (w3 : Int32) (h : Hp), V G α 5 (kSV) 4 [(0, .ref (α (50))), (1, .int w1), (2, .int w2), (3, .int w3)] [] h (k4 w1 w2 w3 h)) : ∀ (w1 : Int32) (w2 : Int32) (w3 : Int32) (h : Hp), V G α 5 (kSV) 57 [(0, .ref (α (50))), (1, .int w1), (2, .int w2), (3, .int w3)] [] h (F_X3_addSet_57 k4 w1 w2 w3 h) := by
  intro w1 w2 w3 h
  rw [F_X3_addSet_57]
  refine V_iinc hO (ls2 := [(3, .int (w3 + 1)), (0, .ref (α (50))), (1, .int w1), (2, .int w2)]) (z := 1) 3 dX3_addSet_57 rfl (by decide) (by decide) rfl ?_
  refine V_goto hO 4 dX3_addSet_60 (by decide) ?_
  exact V_sub [1, 2, 3, 0] rfl (hk4 w1 w2 (w3 + 1) h )
set_option maxHeartbeats 4000000 in
set_option maxRecDepth 100000 in
theorem T_X3_addSet_84 {G : Gm} {α : Nat → Nat} (hO : Ok G α cX3_addSet 5 RX3 1 21) (hR : Rt G α none) : ∀ (s0 : Int32) (s1 : Int32) (h : Hp), V G α 5 (kSV) 84 [] [.int s0, .int s1, .ref (α (53))] h (F_X3_addSet_84 s0 s1 h) := by
  intro s0 s1 h
  rw [F_X3_addSet_84]
  refine V_chk rfl fun c1 => ?_
  refine V_iast hO (by decide) (fun _ _ _ => ce_53) (inb_in c1) dX3_addSet_84 (V_name fun h2 => ?_)
  exact V_vret hO hR rfl dX3_addSet_85
set_option maxHeartbeats 4000000 in
set_option maxRecDepth 100000 in
theorem T_X3_addSet_4 {G : Gm} {α : Nat → Nat} (hO : Ok G α cX3_addSet 5 RX3 1 21) (hR : Rt G α none) : ∀ (fuel : Nat) (w1 : Int32) (w2 : Int32) (w3 : Int32) (h : Hp), V G α 5 (kSV) 4 [(0, .ref (α (50))), (1, .int w1), (2, .int w2), (3, .int w3)] [] h (F_X3_addSet_4 fuel w1 w2 w3 h) := by
  intro fuel
  induction fuel with
  | zero => intro w1 w2 w3 h; exact V_none rfl
  | succ n ih =>
    intro w1 w2 w3 h
    rw [F_X3_addSet_4]
    refine V_iload_n hO 3 dX3_addSet_4 rfl rfl ?_
    refine V_bipush hO 6 dX3_addSet_5 (by decide) ?_
    refine V_icmp_ge hO 63 dX3_addSet_7 (by decide) ?_ ?_
    · refine V_aload_n hO 0 dX3_addSet_63 rfl rfl ?_
      refine V_get hO (v := .ref (α (53))) fl_X3_18 (by decide) (fun _ _ => ce_50) rfl dX3_addSet_64 ?_
      refine V_iload_n hO 1 dX3_addSet_67 rfl rfl ?_
      refine V_aload_n hO 0 dX3_addSet_68 rfl rfl ?_
      refine V_get hO (v := .ref (α (52))) fl_X3_15 (by decide) (fun _ _ => ce_50) rfl dX3_addSet_69 ?_
      refine V_iload_n hO 1 dX3_addSet_72 rfl rfl ?_
      refine V_chk rfl fun c3 => ?_
      refine V_iald hO (by decide) (fun _ _ => ce_52) (inb_in c3) dX3_addSet_73 ?_
      refine V_if_ne hO 83 dX3_addSet_74 (by decide) ?_ ?_
      · refine V_iload_n hO 2 dX3_addSet_83 rfl rfl ?_
        exact V_sub [] rfl (T_X3_addSet_84 hO hR w2 w1 h )
      · refine V_iload_n hO 2 dX3_addSet_77 rfl rfl ?_
        refine V_iconst hO 1 dX3_addSet_78 (by decide) ?_
        refine V_iadd hO dX3_addSet_79 ?_
        refine V_goto hO 84 dX3_addSet_80 (by decide) ?_
        exact V_sub [] rfl (T_X3_addSet_84 hO hR (w2 + (1 : Int32)) w1 h )
    · refine V_iload_n hO 1 dX3_addSet_10 rfl rfl ?_
      refine V_iload_n hO 3 dX3_addSet_11 rfl rfl ?_
      refine V_ishr hO dX3_addSet_12 ?_
      refine V_iconst hO 1 dX3_addSet_13 (by decide) ?_
      refine V_iand hO dX3_addSet_14 ?_
      refine V_if_eq hO 57 dX3_addSet_15 (by decide) ?_ ?_
      · exact V_sub [0, 1, 2, 3] rfl (T_X3_addSet_57 hO hR (F_X3_addSet_4 n) ih w1 w2 w3 h )
      · refine V_iload_n hO 1 dX3_addSet_18 rfl rfl ?_
        refine V_iconst hO 1 dX3_addSet_19 (by decide) ?_
        refine V_iload_n hO 3 dX3_addSet_20 rfl rfl ?_
        refine V_ishl hO dX3_addSet_21 ?_
        refine V_ixor hO dX3_addSet_22 ?_
        refine V_istoreN hO (ls2 := fun v4 => [(4, .int v4), (0, .ref (α (50))), (1, .int w1), (2, .int w2), (3, .int w3)]) dX3_addSet_23 (by decide) (fun _ => rfl) (fun v4 => ?_)
        refine V_aload_n hO 1 dX3_addSet_25 rfl rfl ?_
        refine V_get hO (v := .ref (α (52))) fl_X3_15 (by decide) (fun _ _ => ce_50) rfl dX3_addSet_26 ?_
        refine V_iload_n hO 2 dX3_addSet_29 rfl rfl ?_
        refine V_aload_n hO 1 dX3_addSet_30 rfl rfl ?_
        refine V_get hO (v := .ref (α (52))) fl_X3_15 (by decide) (fun _ _ => ce_50) rfl dX3_addSet_31 ?_
        refine V_iload hO 0 dX3_addSet_34 rfl ?_
        refine V_chk rfl fun c5 => ?_
        refine V_iald hO (by decide) (fun _ _ => ce_52) (inb_in c5) dX3_addSet_36 ?_
        refine V_aload_n hO 1 dX3_addSet_37 rfl rfl ?_
        refine V_get hO (v := .ref (α (51))) fl_X3_9 (by decide) (fun _ _ => ce_50) rfl dX3_addSet_38 ?_
        refine V_iload_n hO 4 dX3_addSet_41 rfl rfl ?_
        refine V_chk rfl fun c6 => ?_
        refine V_iald hO (by decide) (fun _ _ => ce_51) (inb_in c6) dX3_addSet_42 ?_
        refine V_iadd hO dX3_addSet_43 ?_
        refine V_chk rfl fun c7 => ?_
        refine V_iast hO (by decide) (fun _ _ _ => ce_52) (inb_in c7) dX3_addSet_44 (V_name fun h8 => ?_)
        refine V_iload_n hO 3 dX3_addSet_45 rfl rfl ?_
        refine V_aload_n hO 1 dX3_addSet_46 rfl rfl ?_
        refine V_get hO (v := .ref (α (53))) fl_X3_18 (by decide) (fun _ _ => ce_50) rfl dX3_addSet_47 ?_
        refine V_iload hO 0 dX3_addSet_50 rfl ?_
        refine V_chk rfl fun c9 => ?_
        refine V_iald hO (by decide) (fun _ _ => ce_53) (inb_in c9) dX3_addSet_52 ?_
        refine V_mmax hO mm_X3_31 (Nat.le_of_ble_eq_true rfl) ⟨by decide, by decide⟩ dX3_addSet_53 ?_
        refine V_istore_nN hO (ls2 := fun v10 => [(2, .int v10), (4, .int v4), (0, .ref (α (50))), (1, .int w1), (3, .int w3)]) dX3_addSet_56 rfl (by decide) (fun _ => rfl) (fun v10 => ?_)
        exact V_sub [2, 3, 0, 4] rfl (T_X3_addSet_57 hO hR (F_X3_addSet_4 n) ih w1 v10 w3 h8 )
set_option maxHeartbeats 4000000 in
set_option maxRecDepth 100000 in
theorem T_X3_addSet {G : Gm} {α : Nat → Nat} (hO : Ok G α cX3_addSet 5 RX3 1 21) (hR : Rt G α none) (p1 : Int32) (σ : Hp) : V G α 5 (kSV) 0 [(0, .ref (α (50))), (1, .int p1)] [] σ (F_X3_addSet p1 σ) := by
  rw [F_X3_addSet]
  refine V_iconst hO 0 dX3_addSet_0 (by decide) ?_
  refine V_istore_n hO (ls2 := [(2, .int 0), (0, .ref (α (50))), (1, .int p1)]) dX3_addSet_1 rfl (by decide) rfl ?_
  refine V_iconst hO 0 dX3_addSet_2 (by decide) ?_
  refine V_istore_n hO (ls2 := [(3, .int 0), (2, .int 0), (0, .ref (α (50))), (1, .int p1)]) dX3_addSet_3 rfl (by decide) rfl ?_
  exact V_sub [2, 3, 1, 0] rfl (T_X3_addSet_4 hO hR fuel p1 (0 : Int32) (0 : Int32) σ )
set_option maxHeartbeats 4000000 in
set_option maxRecDepth 100000 in
theorem C_X3_addSet (α : Nat → Nat) (p1 : Int32) (σ : Hp) : Ct yX3_addSet cX3_addSet 5 none 1 21 α [.ref (α (50)), .int p1] σ (kSV (F_X3_addSet p1 σ)) := ct_of_V (own := RX3) rfl (by decide +kernel) (Nat.le_of_ble_eq_true rfl) fun _ hO hR => T_X3_addSet hO hR p1 σ
/-! X3_mostGroups -/
noncomputable def F_X3_mostGroups_27  : Nat → Int32 → Hp → Option (Int32 × Hp)
  | 0, _, _ => none
  | n + 1, w2, h =>
    if (64 : Int32) ≤ w2 then
    if inb ((64 : Int32) - (1 : Int32)) 64 = true then
    some ((h.1 53 (Int32.toNatClampNeg ((64 : Int32) - (1 : Int32)))), h)
    else none
    else
    (F_X3_addSet w2 h).bind fun q2 =>
    F_X3_mostGroups_27 n (w2 + 1) q2
noncomputable def F_X3_mostGroups_2  : Nat → Int32 → Hp → Option (Int32 × Hp)
  | 0, _, _ => none
  | n + 1, w2, h =>
    if (6 : Int32) ≤ w2 then
    F_X3_mostGroups_27 fuel (1 : Int32) h
    else
    (F_X5_restOf 0 w2 h).bind fun v3 =>
    if inb w2 6 = true then
    lt (up h 51 (Int32.toNatClampNeg w2) v3) fun h5 =>
    F_X3_mostGroups_2 n (w2 + 1) h5
    else none
noncomputable def F_X3_mostGroups  (σ : Hp) : Option (Int32 × Hp) :=
  F_X3_mostGroups_2 fuel (0 : Int32) σ
set_option maxHeartbeats 4000000 in
set_option maxRecDepth 100000 in
theorem T_X3_mostGroups_27 {G : Gm} {α : Nat → Nat} (hO : Ok G α cX3_mostGroups 3 RX3 4 87) (hR : Rt G α (some .int)) : ∀ (fuel : Nat) (w2 : Int32) (h : Hp), V G α 3 (kSI) 27 [(0, .ref (α (50))), (2, .int w2)] [] h (F_X3_mostGroups_27 fuel w2 h) := by
  intro fuel
  induction fuel with
  | zero => intro w2 h; exact V_none rfl
  | succ n ih =>
    intro w2 h
    rw [F_X3_mostGroups_27]
    refine V_iload_n hO 1 dX3_mostGroups_27 rfl rfl ?_
    refine V_aload_n hO 0 dX3_mostGroups_28 rfl rfl ?_
    refine V_get hO (v := .ref (α (53))) fl_X3_18 (by decide) (fun _ _ => ce_50) rfl dX3_mostGroups_29 ?_
    refine V_alen hO (v := (64 : Int32)) (by decide) (fun _ _ => ce_53) (by decide) dX3_mostGroups_32 ?_
    refine V_icmp_ge hO 47 dX3_mostGroups_33 (by decide) ?_ ?_
    · refine V_aload_n hO 0 dX3_mostGroups_47 rfl rfl ?_
      refine V_get hO (v := .ref (α (53))) fl_X3_18 (by decide) (fun _ _ => ce_50) rfl dX3_mostGroups_48 ?_
      refine V_aload_n hO 0 dX3_mostGroups_51 rfl rfl ?_
      refine V_get hO (v := .ref (α (53))) fl_X3_18 (by decide) (fun _ _ => ce_50) rfl dX3_mostGroups_52 ?_
      refine V_alen hO (v := (64 : Int32)) (by decide) (fun _ _ => ce_53) (by decide) dX3_mostGroups_55 ?_
      refine V_iconst hO 1 dX3_mostGroups_56 (by decide) ?_
      refine V_isub hO dX3_mostGroups_57 ?_
      refine V_chk rfl fun c1 => ?_
      refine V_iald hO (by decide) (fun _ _ => ce_53) (inb_in c1) dX3_mostGroups_58 ?_
      exact V_iret hO hR rfl dX3_mostGroups_59
    · refine V_aload_n hO 0 dX3_mostGroups_36 rfl rfl ?_
      refine V_iload_n hO 1 dX3_mostGroups_37 rfl rfl ?_
      refine V_callV hO ml_X3_27 (C_X3_addSet α w2 h) (by decide) (fun _ _ => ce_50) rfl rfl (rest := []) rfl rfl (Nat.le_of_ble_eq_true rfl) ⟨Nat.le_of_ble_eq_true rfl, Nat.le_of_ble_eq_true rfl⟩ dX3_mostGroups_38 (kc_SV rfl fun q2 => ?_)
      refine V_iinc hO (ls2 := [(2, .int (w2 + 1)), (0, .ref (α (50)))]) (z := 1) 1 dX3_mostGroups_41 rfl (by decide) (by decide) rfl ?_
      refine V_goto hO 27 dX3_mostGroups_44 (by decide) ?_
      exact V_sub [1, 0] rfl (ih (w2 + 1) q2 )
set_option maxHeartbeats 4000000 in
set_option maxRecDepth 100000 in
theorem T_X3_mostGroups_2 {G : Gm} {α : Nat → Nat} (hO : Ok G α cX3_mostGroups 3 RX3 4 87) (hR : Rt G α (some .int)) : ∀ (fuel : Nat) (w2 : Int32) (h : Hp), V G α 3 (kSI) 2 [(0, .ref (α (50))), (1, .ref (α (30))), (2, .int w2)] [] h (F_X3_mostGroups_2 fuel w2 h) := by
  intro fuel
  induction fuel with
  | zero => intro w2 h; exact V_none rfl
  | succ n ih =>
    intro w2 h
    rw [F_X3_mostGroups_2]
    refine V_iload_n hO 2 dX3_mostGroups_2 rfl rfl ?_
    refine V_bipush hO 6 dX3_mostGroups_3 (by decide) ?_
    refine V_icmp_ge hO 25 dX3_mostGroups_5 (by decide) ?_ ?_
    · refine V_iconst hO 1 dX3_mostGroups_25 (by decide) ?_
      refine V_istore_n hO (ls2 := [(2, .int 1), (0, .ref (α (50))), (1, .ref (α (30)))]) dX3_mostGroups_26 rfl (by decide) rfl ?_
      exact V_sub [1, 0] rfl (T_X3_mostGroups_27 hO hR fuel (1 : Int32) h )
    · refine V_aload_n hO 0 dX3_mostGroups_8 rfl rfl ?_
      refine V_get hO (v := .ref (α (51))) fl_X3_9 (by decide) (fun _ _ => ce_50) rfl dX3_mostGroups_9 ?_
      refine V_iload_n hO 2 dX3_mostGroups_12 rfl rfl ?_
      refine V_aload_n hO 1 dX3_mostGroups_13 rfl rfl ?_
      refine V_iload_n hO 2 dX3_mostGroups_14 rfl rfl ?_
      refine V_callV hO ml_X3_21 (C_X5_restOf α (t := 0) (by decide) w2 h) (by decide) (fun _ _ => ce_town (t := 0) (by decide)) rfl rfl (rest := [.int w2, .ref (α (51))]) rfl rfl (Nat.le_of_ble_eq_true rfl) ⟨Nat.le_of_ble_eq_true rfl, Nat.le_of_ble_eq_true rfl⟩ dX3_mostGroups_15 (kc_OI rfl fun v3 => ?_)
      refine V_chk rfl fun c4 => ?_
      refine V_iast hO (by decide) (fun _ _ _ => ce_51) (inb_in c4) dX3_mostGroups_18 (V_name fun h5 => ?_)
      refine V_iinc hO (ls2 := [(2, .int (w2 + 1)), (0, .ref (α (50))), (1, .ref (α (30)))]) (z := 1) 2 dX3_mostGroups_19 rfl (by decide) (by decide) rfl ?_
      refine V_goto hO 2 dX3_mostGroups_22 (by decide) ?_
      exact V_sub [1, 2, 0] rfl (ih (w2 + 1) h5 )
set_option maxHeartbeats 4000000 in
set_option maxRecDepth 100000 in
theorem T_X3_mostGroups {G : Gm} {α : Nat → Nat} (hO : Ok G α cX3_mostGroups 3 RX3 4 87) (hR : Rt G α (some .int)) (σ : Hp) : V G α 3 (kSI) 0 [(0, .ref (α (50))), (1, .ref (α (30)))] [] σ (F_X3_mostGroups σ) := by
  rw [F_X3_mostGroups]
  refine V_iconst hO 0 dX3_mostGroups_0 (by decide) ?_
  refine V_istore_n hO (ls2 := [(2, .int 0), (0, .ref (α (50))), (1, .ref (α (30)))]) dX3_mostGroups_1 rfl (by decide) rfl ?_
  exact V_sub [1, 2, 0] rfl (T_X3_mostGroups_2 hO hR fuel (0 : Int32) σ )
set_option maxHeartbeats 4000000 in
set_option maxRecDepth 100000 in
theorem C_X3_mostGroups (α : Nat → Nat) (σ : Hp) : Ct yX3_mostGroups cX3_mostGroups 3 (some .int) 4 87 α [.ref (α (50)), .ref (α (30))] σ (kSI (F_X3_mostGroups σ)) := ct_of_V (own := RX3) rfl (by decide +kernel) (Nat.le_of_ble_eq_true rfl) fun _ hO hR => T_X3_mostGroups hO hR σ
/-! X5_readableIn -/
noncomputable def F_X5_readableIn_52 (t : Nat) (σ : Hp) (k4 : Int32 → Int32 → Int32 → (Option Int32)) (w1 : Int32) (w2 : Int32) (w3 : Int32) : Option Int32 :=
  k4 w1 w2 (w3 + 1)
noncomputable def F_X5_readableIn_4 (t : Nat) (σ : Hp) : Nat → Int32 → Int32 → Int32 → Option Int32
  | 0, _, _, _ => none
  | n + 1, w1, w2, w3 =>
    if (σ.1 (30 + t) 4) ≤ w3 then
    some w2
    else
    if (σ.1 (30 + t) 2) = 0 then
    if inb w3 10 = true then
    if (F_X0_isThere (10 * t + (Int32.toNatClampNeg w3)) σ) = true then
    if inb w3 10 = true then
    if (σ.1 ((10 * t + (Int32.toNatClampNeg w3))) 1) = w1 then
    (F_X5_worthOf t w3 σ).bind fun v3 =>
    lt (w2 + v3) fun v4 =>
    F_X5_readableIn_52 t σ (F_X5_readableIn_4 t σ n) w1 v4 w3
    else
    F_X5_readableIn_52 t σ (F_X5_readableIn_4 t σ n) w1 w2 w3
    else none
    else
    F_X5_readableIn_52 t σ (F_X5_readableIn_4 t σ n) w1 w2 w3
    else none
    else
    F_X5_readableIn_52 t σ (F_X5_readableIn_4 t σ n) w1 w2 w3
noncomputable def F_X5_readableIn (t : Nat) (p1 : Int32) (σ : Hp) : Option Int32 :=
  F_X5_readableIn_4 t σ fuel p1 (0 : Int32) (0 : Int32)
set_option maxHeartbeats 4000000 in
set_option maxRecDepth 100000 in
theorem T_X5_readableIn_52 {G : Gm} {α : Nat → Nat} {t : Nat} (hO : Ok G α cX5_readableIn 4 RX5 3 64) (hR : Rt G α (some .int)) (ht : t < 3) (σ : Hp) (k4 : Int32 → Int32 → Int32 → (Option Int32)) (hk4 : ∀ (w1 : Int32) (w2 : Int32) (w3 : Int32), V G α 4 (kOI σ) 4 [(0, .ref (α (30 + t))), (1, .int w1), (2, .int w2), (3, .int w3)] [] σ (k4 w1 w2 w3)) : ∀ (w1 : Int32) (w2 : Int32) (w3 : Int32), V G α 4 (kOI σ) 52 [(0, .ref (α (30 + t))), (1, .int w1), (2, .int w2), (3, .int w3)] [] σ (F_X5_readableIn_52 t σ k4 w1 w2 w3) := by
  intro w1 w2 w3
  rw [F_X5_readableIn_52]
  refine V_iinc hO (ls2 := [(3, .int (w3 + 1)), (0, .ref (α (30 + t))), (1, .int w1), (2, .int w2)]) (z := 1) 3 dX5_readableIn_52 rfl (by decide) (by decide) rfl ?_
  refine V_goto hO 4 dX5_readableIn_55 (by decide) ?_
  exact V_sub [1, 2, 3, 0] rfl (hk4 w1 w2 (w3 + 1) )
set_option maxHeartbeats 4000000 in
set_option maxRecDepth 100000 in
theorem T_X5_readableIn_4 {G : Gm} {α : Nat → Nat} {t : Nat} (hO : Ok G α cX5_readableIn 4 RX5 3 64) (hR : Rt G α (some .int)) (ht : t < 3) (σ : Hp) : ∀ (fuel : Nat) (w1 : Int32) (w2 : Int32) (w3 : Int32), V G α 4 (kOI σ) 4 [(0, .ref (α (30 + t))), (1, .int w1), (2, .int w2), (3, .int w3)] [] σ (F_X5_readableIn_4 t σ fuel w1 w2 w3) := by
  intro fuel
  induction fuel with
  | zero => intro w1 w2 w3; exact V_none rfl
  | succ n ih =>
    intro w1 w2 w3
    rw [F_X5_readableIn_4]
    refine V_iload_n hO 3 dX5_readableIn_4 rfl rfl ?_
    refine V_aload_n hO 0 dX5_readableIn_5 rfl rfl ?_
    refine V_get hO (v := .int (σ.1 (30 + t) 4)) fl_X5_35 (tw_X5 ht) (fun _ _ => ce_town ht) rfl dX5_readableIn_6 ?_
    refine V_icmp_ge hO 58 dX5_readableIn_9 (by decide) ?_ ?_
    · refine V_iload_n hO 2 dX5_readableIn_58 rfl rfl ?_
      exact V_iret hO hR rfl dX5_readableIn_59
    · refine V_aload_n hO 0 dX5_readableIn_12 rfl rfl ?_
      refine V_get hO (v := .int (σ.1 (30 + t) 2)) fl_X5_29 (tw_X5 ht) (fun _ _ => ce_town ht) rfl dX5_readableIn_13 ?_
      refine V_if_ne hO 52 dX5_readableIn_16 (by decide) ?_ ?_
      · exact V_sub [0, 1, 2, 3] rfl (T_X5_readableIn_52 hO hR ht σ (F_X5_readableIn_4 t σ n) ih w1 w2 w3 )
      · refine V_aload_n hO 0 dX5_readableIn_19 rfl rfl ?_
        refine V_get hO (v := .ref (α (36 + t))) fl_X5_17 (tw_X5 ht) (fun _ _ => ce_town ht) rfl dX5_readableIn_20 ?_
        refine V_iload_n hO 3 dX5_readableIn_23 rfl rfl ?_
        refine V_chk rfl fun c1 => ?_
        refine V_aald hO (tw_darr ht) (fun _ _ => ce_da ht) (inb_in c1) dX5_readableIn_24 ?_
        refine V_callV hO ml_X5_56 (C_X0_isThere α (c := (10 * t + (Int32.toNatClampNeg w3))) (cd_lt ht (inb_in c1)) σ) (Nat.lt_trans (cd_lt ht (inb_in c1)) (by decide)) (fun _ _ => ce_debt (cd_lt ht (inb_in c1))) rfl rfl (rest := []) rfl rfl (Nat.le_of_ble_eq_true rfl) ⟨Nat.le_of_ble_eq_true rfl, Nat.le_of_ble_eq_true rfl⟩ dX5_readableIn_25 (kc_Z ?_)
        refine V_ifeqZ hO 52 dX5_readableIn_28 (by decide) ?_ ?_
        · exact V_sub [0, 1, 2, 3] rfl (T_X5_readableIn_52 hO hR ht σ (F_X5_readableIn_4 t σ n) ih w1 w2 w3 )
        · refine V_aload_n hO 0 dX5_readableIn_31 rfl rfl ?_
          refine V_get hO (v := .ref (α (36 + t))) fl_X5_17 (tw_X5 ht) (fun _ _ => ce_town ht) rfl dX5_readableIn_32 ?_
          refine V_iload_n hO 3 dX5_readableIn_35 rfl rfl ?_
          refine V_chk rfl fun c2 => ?_
          refine V_aald hO (tw_darr ht) (fun _ _ => ce_da ht) (inb_in c2) dX5_readableIn_36 ?_
          refine V_get hO (v := .int (σ.1 ((10 * t + (Int32.toNatClampNeg w3))) 1)) fl_X5_46 (Nat.lt_trans (cd_lt ht (inb_in c1)) (by decide)) (fun _ _ => ce_debt (cd_lt ht (inb_in c1))) rfl dX5_readableIn_37 ?_
          refine V_iload_n hO 1 dX5_readableIn_40 rfl rfl ?_
          refine V_icmp_ne hO 52 dX5_readableIn_41 (by decide) ?_ ?_
          · exact V_sub [0, 1, 2, 3] rfl (T_X5_readableIn_52 hO hR ht σ (F_X5_readableIn_4 t σ n) ih w1 w2 w3 )
          · refine V_iload_n hO 2 dX5_readableIn_44 rfl rfl ?_
            refine V_aload_n hO 0 dX5_readableIn_45 rfl rfl ?_
            refine V_iload_n hO 3 dX5_readableIn_46 rfl rfl ?_
            refine V_callV hO ml_X5_66 (C_X5_worthOf α (t := t) ht w3 σ) (tw_X5 ht) (fun _ _ => ce_town ht) rfl rfl (rest := [.int w2]) rfl rfl (Nat.le_of_ble_eq_true rfl) ⟨Nat.le_of_ble_eq_true rfl, Nat.le_of_ble_eq_true rfl⟩ dX5_readableIn_47 (kc_OI rfl fun v3 => ?_)
            refine V_iadd hO dX5_readableIn_50 ?_
            refine V_istore_nN hO (ls2 := fun v4 => [(2, .int v4), (0, .ref (α (30 + t))), (1, .int w1), (3, .int w3)]) dX5_readableIn_51 rfl (by decide) (fun _ => rfl) (fun v4 => ?_)
            exact V_sub [1, 2, 0, 3] rfl (T_X5_readableIn_52 hO hR ht σ (F_X5_readableIn_4 t σ n) ih w1 v4 w3 )
set_option maxHeartbeats 4000000 in
set_option maxRecDepth 100000 in
theorem T_X5_readableIn {G : Gm} {α : Nat → Nat} {t : Nat} (hO : Ok G α cX5_readableIn 4 RX5 3 64) (hR : Rt G α (some .int)) (ht : t < 3) (p1 : Int32) (σ : Hp) : V G α 4 (kOI σ) 0 [(0, .ref (α (30 + t))), (1, .int p1)] [] σ (F_X5_readableIn t p1 σ) := by
  rw [F_X5_readableIn]
  refine V_iconst hO 0 dX5_readableIn_0 (by decide) ?_
  refine V_istore_n hO (ls2 := [(2, .int 0), (0, .ref (α (30 + t))), (1, .int p1)]) dX5_readableIn_1 rfl (by decide) rfl ?_
  refine V_iconst hO 0 dX5_readableIn_2 (by decide) ?_
  refine V_istore_n hO (ls2 := [(3, .int 0), (2, .int 0), (0, .ref (α (30 + t))), (1, .int p1)]) dX5_readableIn_3 rfl (by decide) rfl ?_
  exact V_sub [2, 3, 1, 0] rfl (T_X5_readableIn_4 hO hR ht σ fuel p1 (0 : Int32) (0 : Int32) )
set_option maxHeartbeats 4000000 in
set_option maxRecDepth 100000 in
theorem C_X5_readableIn (α : Nat → Nat) {t : Nat} (ht : t < 3) (p1 : Int32) (σ : Hp) : Ct yX5_readableIn cX5_readableIn 4 (some .int) 3 64 α [.ref (α (30 + t)), .int p1] σ (kOI σ (F_X5_readableIn t p1 σ)) := ct_of_V (own := RX5) rfl (by decide +kernel) (Nat.le_of_ble_eq_true rfl) fun _ hO hR => T_X5_readableIn hO hR ht p1 σ
/-! X5_bearsSkater -/
noncomputable def F_X5_bearsSkater (t : Nat) (p1 : Int32) (σ : Hp) : Option Bool :=
  if (F_X5_hasSquare t p1 σ) = true then
  if inb p1 16 = true then
  if (σ.1 (33 + t) (Int32.toNatClampNeg p1)) < (4 : Int32) then
  some false
  else
  some true
  else none
  else
  some false
set_option maxHeartbeats 4000000 in
set_option maxRecDepth 100000 in
theorem T_X5_bearsSkater {G : Gm} {α : Nat → Nat} {t : Nat} (hO : Ok G α cX5_bearsSkater 2 RX5 1 21) (hR : Rt G α (some .boolean)) (ht : t < 3) (p1 : Int32) (σ : Hp) : V G α 2 (kOZ σ) 0 [(0, .ref (α (30 + t))), (1, .int p1)] [] σ (F_X5_bearsSkater t p1 σ) := by
  rw [F_X5_bearsSkater]
  refine V_aload_n hO 0 dX5_bearsSkater_0 rfl rfl ?_
  refine V_iload_n hO 1 dX5_bearsSkater_1 rfl rfl ?_
  refine V_callV hO ml_X5_42 (C_X5_hasSquare α (t := t) ht p1 σ) (tw_X5 ht) (fun _ _ => ce_town ht) rfl rfl (rest := []) rfl rfl (Nat.le_of_ble_eq_true rfl) ⟨Nat.le_of_ble_eq_true rfl, Nat.le_of_ble_eq_true rfl⟩ dX5_bearsSkater_2 (kc_Z ?_)
  refine V_ifeqZ hO 22 dX5_bearsSkater_5 (by decide) ?_ ?_
  · refine V_iconst hO 0 dX5_bearsSkater_22 (by decide) ?_
    exact V_zret hO hR (by decide) rfl dX5_bearsSkater_23
  · refine V_aload_n hO 0 dX5_bearsSkater_8 rfl rfl ?_
    refine V_get hO (v := .ref (α (33 + t))) fl_X5_9 (tw_X5 ht) (fun _ _ => ce_town ht) rfl dX5_bearsSkater_9 ?_
    refine V_iload_n hO 1 dX5_bearsSkater_12 rfl rfl ?_
    refine V_chk rfl fun c1 => ?_
    refine V_iald hO (tw_ice ht) (fun _ _ => ce_ice ht) (inb_in c1) dX5_bearsSkater_13 ?_
    refine V_iconst hO 4 dX5_bearsSkater_14 (by decide) ?_
    refine V_icmp_lt hO 22 dX5_bearsSkater_15 (by decide) ?_ ?_
    · refine V_iconst hO 0 dX5_bearsSkater_22 (by decide) ?_
      exact V_zret hO hR (by decide) rfl dX5_bearsSkater_23
    · refine V_iconst hO 1 dX5_bearsSkater_18 (by decide) ?_
      refine V_goto hO 23 dX5_bearsSkater_19 (by decide) ?_
      exact V_zret hO hR (by decide) rfl dX5_bearsSkater_23
set_option maxHeartbeats 4000000 in
set_option maxRecDepth 100000 in
theorem C_X5_bearsSkater (α : Nat → Nat) {t : Nat} (ht : t < 3) (p1 : Int32) (σ : Hp) : Ct yX5_bearsSkater cX5_bearsSkater 2 (some .boolean) 1 21 α [.ref (α (30 + t)), .int p1] σ (kOZ σ (F_X5_bearsSkater t p1 σ)) := ct_of_V (own := RX5) rfl (by decide +kernel) (Nat.le_of_ble_eq_true rfl) fun _ hO hR => T_X5_bearsSkater hO hR ht p1 σ
/-! X4_enter -/
noncomputable def F_X4_enter  (p1 : Int32) (p2 : Int32) (p3 : Int32) (σ : Hp) : Option Hp :=
  if inb p1 16 = true then
  lt (up σ 42 (Int32.toNatClampNeg p1) p2) fun h2 =>
  if inb p1 16 = true then
  lt (up h2 43 (Int32.toNatClampNeg p1) p3) fun h4 =>
  if (16 : Int32) ≤ (h4.1 41 4) then
  some h4
  else
  if inb (h4.1 41 4) 16 = true then
  lt (up h4 45 (Int32.toNatClampNeg (h4.1 41 4)) p1) fun h6 =>
  lt (up h6 41 4 ((h6.1 41 4) + (1 : Int32))) fun h7 =>
  some h7
  else none
  else none
  else none
set_option maxHeartbeats 4000000 in
set_option maxRecDepth 100000 in
theorem T_X4_enter {G : Gm} {α : Nat → Nat} (hO : Ok G α cX4_enter 4 RX4 0 0) (hR : Rt G α none) (p1 : Int32) (p2 : Int32) (p3 : Int32) (σ : Hp) : V G α 4 (kSV) 0 [(0, .ref (α (41))), (1, .int p1), (2, .int p2), (3, .int p3)] [] σ (F_X4_enter p1 p2 p3 σ) := by
  rw [F_X4_enter]
  refine V_aload_n hO 0 dX4_enter_0 rfl rfl ?_
  refine V_get hO (v := .ref (α (42))) fl_X4_9 (by decide) (fun _ _ => ce_41) rfl dX4_enter_1 ?_
  refine V_iload_n hO 1 dX4_enter_4 rfl rfl ?_
  refine V_iload_n hO 2 dX4_enter_5 rfl rfl ?_
  refine V_chk rfl fun c1 => ?_
  refine V_iast hO (by decide) (fun _ _ _ => ce_42) (inb_in c1) dX4_enter_6 (V_name fun h2 => ?_)
  refine V_aload_n hO 0 dX4_enter_7 rfl rfl ?_
  refine V_get hO (v := .ref (α (43))) fl_X4_15 (by decide) (fun _ _ => ce_41) rfl dX4_enter_8 ?_
  refine V_iload_n hO 1 dX4_enter_11 rfl rfl ?_
  refine V_iload_n hO 3 dX4_enter_12 rfl rfl ?_
  refine V_chk rfl fun c3 => ?_
  refine V_iast hO (by decide) (fun _ _ _ => ce_43) (inb_in c3) dX4_enter_13 (V_name fun h4 => ?_)
  refine V_aload_n hO 0 dX4_enter_14 rfl rfl ?_
  refine V_get hO (v := .int (h4.1 41 4)) fl_X4_30 (by decide) (fun _ _ => ce_41) rfl dX4_enter_15 ?_
  refine V_bipush hO 16 dX4_enter_18 (by decide) ?_
  refine V_icmp_ge hO 43 dX4_enter_20 (by decide) ?_ ?_
  · exact V_vret hO hR rfl dX4_enter_43
  · refine V_aload_n hO 0 dX4_enter_23 rfl rfl ?_
    refine V_get hO (v := .ref (α (45))) fl_X4_21 (by decide) (fun _ _ => ce_41) rfl dX4_enter_24 ?_
    refine V_aload_n hO 0 dX4_enter_27 rfl rfl ?_
    refine V_get hO (v := .int (h4.1 41 4)) fl_X4_30 (by decide) (fun _ _ => ce_41) rfl dX4_enter_28 ?_
    refine V_iload_n hO 1 dX4_enter_31 rfl rfl ?_
    refine V_chk rfl fun c5 => ?_
    refine V_iast hO (by decide) (fun _ _ _ => ce_45) (inb_in c5) dX4_enter_32 (V_name fun h6 => ?_)
    refine V_aload_n hO 0 dX4_enter_33 rfl rfl ?_
    refine V_dup hO dX4_enter_34 rfl ?_
    refine V_get hO (v := .int (h6.1 41 4)) fl_X4_30 (by decide) (fun _ _ => ce_41) rfl dX4_enter_35 ?_
    refine V_iconst hO 1 dX4_enter_38 (by decide) ?_
    refine V_iadd hO dX4_enter_39 ?_
    refine V_puti hO fp_X4_30 (by decide) (fun _ _ => ce_41) (Nat.le_of_ble_eq_true rfl) (fun _ _ => pe_41_4) dX4_enter_40 (V_name fun h7 => ?_)
    exact V_vret hO hR rfl dX4_enter_43
set_option maxHeartbeats 4000000 in
set_option maxRecDepth 100000 in
theorem C_X4_enter (α : Nat → Nat) (p1 : Int32) (p2 : Int32) (p3 : Int32) (σ : Hp) : Ct yX4_enter cX4_enter 4 none 0 0 α [.ref (α (41)), .int p1, .int p2, .int p3] σ (kSV (F_X4_enter p1 p2 p3 σ)) := ct_of_V (own := RX4) rfl (by decide +kernel) (Nat.le_of_ble_eq_true rfl) fun _ hO hR => T_X4_enter hO hR p1 p2 p3 σ
/-! X4_reach -/
noncomputable def F_X4_reach  (p2 : Int32) (p3 : Int32) (σ : Hp) : Option Hp :=
  (F_X5_bearsSkater 0 p3 σ).bind fun v1 =>
  if v1 = true then
  if inb p2 16 = true then
  if inb p3 16 = true then
  lt ((σ.1 43 (Int32.toNatClampNeg p2)) + (σ.1 44 (Int32.toNatClampNeg p3))) fun v4 =>
  if inb p3 16 = true then
  if (σ.1 42 (Int32.toNatClampNeg p3)) = ((-1) : Int32) then
  if inb p2 16 = true then
  (F_X4_enter p3 ((σ.1 42 (Int32.toNatClampNeg p2)) + (1 : Int32)) v4 σ).bind fun q12 =>
  some q12
  else none
  else
  if inb p3 16 = true then
  if inb p2 16 = true then
  if (σ.1 42 (Int32.toNatClampNeg p3)) = ((σ.1 42 (Int32.toNatClampNeg p2)) + (1 : Int32)) then
  if inb p3 16 = true then
  if inb p3 16 = true then
  lt (up σ 43 (Int32.toNatClampNeg p3) (imax (σ.1 43 (Int32.toNatClampNeg p3)) v4)) fun h10 =>
  some h10
  else none
  else none
  else
  some σ
  else none
  else none
  else none
  else none
  else none
  else
  some σ
set_option maxHeartbeats 4000000 in
set_option maxRecDepth 100000 in
theorem T_X4_reach {G : Gm} {α : Nat → Nat} (hO : Ok G α cX4_reach 5 RX4 2 42) (hR : Rt G α none) (p2 : Int32) (p3 : Int32) (σ : Hp) : V G α 5 (kSV) 0 [(0, .ref (α (41))), (1, .ref (α (30))), (2, .int p2), (3, .int p3)] [] σ (F_X4_reach p2 p3 σ) := by
  rw [F_X4_reach]
  refine V_aload_n hO 1 dX4_reach_0 rfl rfl ?_
  refine V_iload_n hO 3 dX4_reach_1 rfl rfl ?_
  refine V_callV hO ml_X4_34 (C_X5_bearsSkater α (t := 0) (by decide) p3 σ) (by decide) (fun _ _ => ce_town (t := 0) (by decide)) rfl rfl (rest := []) rfl rfl (Nat.le_of_ble_eq_true rfl) ⟨Nat.le_of_ble_eq_true rfl, Nat.le_of_ble_eq_true rfl⟩ dX4_reach_2 (kc_OZ rfl fun v1 => ?_)
  refine V_ifneZ hO 9 dX4_reach_5 (by decide) ?_ ?_
  · refine V_aload_n hO 0 dX4_reach_9 rfl rfl ?_
    refine V_get hO (v := .ref (α (43))) fl_X4_15 (by decide) (fun _ _ => ce_41) rfl dX4_reach_10 ?_
    refine V_iload_n hO 2 dX4_reach_13 rfl rfl ?_
    refine V_chk rfl fun c2 => ?_
    refine V_iald hO (by decide) (fun _ _ => ce_43) (inb_in c2) dX4_reach_14 ?_
    refine V_aload_n hO 0 dX4_reach_15 rfl rfl ?_
    refine V_get hO (v := .ref (α (44))) fl_X4_18 (by decide) (fun _ _ => ce_41) rfl dX4_reach_16 ?_
    refine V_iload_n hO 3 dX4_reach_19 rfl rfl ?_
    refine V_chk rfl fun c3 => ?_
    refine V_iald hO (by decide) (fun _ _ => ce_44) (inb_in c3) dX4_reach_20 ?_
    refine V_iadd hO dX4_reach_21 ?_
    refine V_istoreN hO (ls2 := fun v4 => [(4, .int v4), (0, .ref (α (41))), (1, .ref (α (30))), (2, .int p2), (3, .int p3)]) dX4_reach_22 (by decide) (fun _ => rfl) (fun v4 => ?_)
    refine V_aload_n hO 1 dX4_reach_24 rfl rfl ?_
    refine V_get hO (v := .ref (α (42))) fl_X4_9 (by decide) (fun _ _ => ce_41) rfl dX4_reach_25 ?_
    refine V_iload_n hO 4 dX4_reach_28 rfl rfl ?_
    refine V_chk rfl fun c5 => ?_
    refine V_iald hO (by decide) (fun _ _ => ce_42) (inb_in c5) dX4_reach_29 ?_
    refine V_iconst hO (-1) dX4_reach_30 (by decide) ?_
    refine V_icmp_ne hO 52 dX4_reach_31 (by decide) ?_ ?_
    · refine V_aload_n hO 1 dX4_reach_52 rfl rfl ?_
      refine V_get hO (v := .ref (α (42))) fl_X4_9 (by decide) (fun _ _ => ce_41) rfl dX4_reach_53 ?_
      refine V_iload_n hO 4 dX4_reach_56 rfl rfl ?_
      refine V_chk rfl fun c6 => ?_
      refine V_iald hO (by decide) (fun _ _ => ce_42) (inb_in c6) dX4_reach_57 ?_
      refine V_aload_n hO 1 dX4_reach_58 rfl rfl ?_
      refine V_get hO (v := .ref (α (42))) fl_X4_9 (by decide) (fun _ _ => ce_41) rfl dX4_reach_59 ?_
      refine V_iload_n hO 3 dX4_reach_62 rfl rfl ?_
      refine V_chk rfl fun c7 => ?_
      refine V_iald hO (by decide) (fun _ _ => ce_42) (inb_in c7) dX4_reach_63 ?_
      refine V_iconst hO 1 dX4_reach_64 (by decide) ?_
      refine V_iadd hO dX4_reach_65 ?_
      refine V_icmp_ne hO 86 dX4_reach_66 (by decide) ?_ ?_
      · exact V_vret hO hR rfl dX4_reach_86
      · refine V_aload_n hO 1 dX4_reach_69 rfl rfl ?_
        refine V_get hO (v := .ref (α (43))) fl_X4_15 (by decide) (fun _ _ => ce_41) rfl dX4_reach_70 ?_
        refine V_iload_n hO 4 dX4_reach_73 rfl rfl ?_
        refine V_aload_n hO 1 dX4_reach_74 rfl rfl ?_
        refine V_get hO (v := .ref (α (43))) fl_X4_15 (by decide) (fun _ _ => ce_41) rfl dX4_reach_75 ?_
        refine V_iload_n hO 4 dX4_reach_78 rfl rfl ?_
        refine V_chk rfl fun c8 => ?_
        refine V_iald hO (by decide) (fun _ _ => ce_43) (inb_in c8) dX4_reach_79 ?_
        refine V_iload hO 0 dX4_reach_80 rfl ?_
        refine V_mmax hO mm_X4_53 (Nat.le_of_ble_eq_true rfl) ⟨by decide, by decide⟩ dX4_reach_82 ?_
        refine V_chk rfl fun c9 => ?_
        refine V_iast hO (by decide) (fun _ _ _ => ce_43) (inb_in c9) dX4_reach_85 (V_name fun h10 => ?_)
        exact V_vret hO hR rfl dX4_reach_86
    · refine V_aload_n hO 1 dX4_reach_34 rfl rfl ?_
      refine V_iload_n hO 4 dX4_reach_35 rfl rfl ?_
      refine V_aload_n hO 1 dX4_reach_36 rfl rfl ?_
      refine V_get hO (v := .ref (α (42))) fl_X4_9 (by decide) (fun _ _ => ce_41) rfl dX4_reach_37 ?_
      refine V_iload_n hO 3 dX4_reach_40 rfl rfl ?_
      refine V_chk rfl fun c11 => ?_
      refine V_iald hO (by decide) (fun _ _ => ce_42) (inb_in c11) dX4_reach_41 ?_
      refine V_iconst hO 1 dX4_reach_42 (by decide) ?_
      refine V_iadd hO dX4_reach_43 ?_
      refine V_iload hO 0 dX4_reach_44 rfl ?_
      refine V_callV hO ml_X4_38 (C_X4_enter α p3 ((σ.1 42 (Int32.toNatClampNeg p2)) + (1 : Int32)) v4 σ) (by decide) (fun _ _ => ce_41) rfl rfl (rest := []) rfl rfl (Nat.le_of_ble_eq_true rfl) ⟨Nat.le_of_ble_eq_true rfl, Nat.le_of_ble_eq_true rfl⟩ dX4_reach_46 (kc_SV rfl fun q12 => ?_)
      refine V_goto hO 86 dX4_reach_49 (by decide) ?_
      exact V_vret hO hR rfl dX4_reach_86
  · exact V_vret hO hR rfl dX4_reach_8
set_option maxHeartbeats 4000000 in
set_option maxRecDepth 100000 in
theorem C_X4_reach (α : Nat → Nat) (p2 : Int32) (p3 : Int32) (σ : Hp) : Ct yX4_reach cX4_reach 5 none 2 42 α [.ref (α (41)), .ref (α (30)), .int p2, .int p3] σ (kSV (F_X4_reach p2 p3 σ)) := ct_of_V (own := RX4) rfl (by decide +kernel) (Nat.le_of_ble_eq_true rfl) fun _ hO hR => T_X4_reach hO hR p2 p3 σ
/-! X4_leave -/
noncomputable def F_X4_leave_39  (w2 : Int32) (h : Hp) : Option Hp :=
  (F_X4_reach w2 (w2 + (h.1 30 0)) h).bind fun q1 =>
  if (q1.1 30 0) ≤ 0 then
  some q1
  else
  if ¬ (q1.1 30 0) = 0 then
  if (jrem w2 (q1.1 30 0)) = 0 then
  some q1
  else
  (F_X4_reach w2 (w2 - (1 : Int32)) q1).bind fun q2 =>
  some q2
  else none
noncomputable def F_X4_leave  (p2 : Int32) (σ : Hp) : Option Hp :=
  (F_X4_reach p2 (p2 - (σ.1 30 0)) σ).bind fun q4 =>
  if (q4.1 30 0) ≤ 0 then
  F_X4_leave_39 p2 q4
  else
  if ¬ (q4.1 30 0) = 0 then
  if (jrem (p2 + (1 : Int32)) (q4.1 30 0)) = 0 then
  F_X4_leave_39 p2 q4
  else
  (F_X4_reach p2 (p2 + (1 : Int32)) q4).bind fun q5 =>
  F_X4_leave_39 p2 q5
  else none
set_option maxHeartbeats 4000000 in
set_option maxRecDepth 100000 in
theorem T_X4_leave_39 {G : Gm} {α : Nat → Nat} (hO : Ok G α cX4_leave 3 RX4 3 66) (hR : Rt G α none) : ∀ (w2 : Int32) (h : Hp), V G α 3 (kSV) 39 [(0, .ref (α (41))), (1, .ref (α (30))), (2, .int w2)] [] h (F_X4_leave_39 w2 h) := by
  intro w2 h
  rw [F_X4_leave_39]
  refine V_aload_n hO 0 dX4_leave_39 rfl rfl ?_
  refine V_aload_n hO 1 dX4_leave_40 rfl rfl ?_
  refine V_iload_n hO 2 dX4_leave_41 rfl rfl ?_
  refine V_iload_n hO 2 dX4_leave_42 rfl rfl ?_
  refine V_aload_n hO 1 dX4_leave_43 rfl rfl ?_
  refine V_get hO (v := .int (h.1 30 0)) fl_X4_46 (by decide) (fun _ _ => ce_town (t := 0) (by decide)) rfl dX4_leave_44 ?_
  refine V_iadd hO dX4_leave_47 ?_
  refine V_callV hO ml_X4_49 (C_X4_reach α w2 (w2 + (h.1 30 0)) h) (by decide) (fun _ _ => ce_41) rfl rfl (rest := []) rfl rfl (Nat.le_of_ble_eq_true rfl) ⟨Nat.le_of_ble_eq_true rfl, Nat.le_of_ble_eq_true rfl⟩ dX4_leave_48 (kc_SV rfl fun q1 => ?_)
  refine V_aload_n hO 1 dX4_leave_51 rfl rfl ?_
  refine V_get hO (v := .int (q1.1 30 0)) fl_X4_46 (by decide) (fun _ _ => ce_town (t := 0) (by decide)) rfl dX4_leave_52 ?_
  refine V_if_le hO 76 dX4_leave_55 (by decide) ?_ ?_
  · exact V_vret hO hR rfl dX4_leave_76
  · refine V_iload_n hO 2 dX4_leave_58 rfl rfl ?_
    refine V_aload_n hO 1 dX4_leave_59 rfl rfl ?_
    refine V_get hO (v := .int (q1.1 30 0)) fl_X4_46 (by decide) (fun _ _ => ce_town (t := 0) (by decide)) rfl dX4_leave_60 ?_
    refine V_chk rfl fun c3 => ?_
    refine V_irem hO dX4_leave_63 c3 ?_
    refine V_if_eq hO 76 dX4_leave_64 (by decide) ?_ ?_
    · exact V_vret hO hR rfl dX4_leave_76
    · refine V_aload_n hO 0 dX4_leave_67 rfl rfl ?_
      refine V_aload_n hO 1 dX4_leave_68 rfl rfl ?_
      refine V_iload_n hO 2 dX4_leave_69 rfl rfl ?_
      refine V_iload_n hO 2 dX4_leave_70 rfl rfl ?_
      refine V_iconst hO 1 dX4_leave_71 (by decide) ?_
      refine V_isub hO dX4_leave_72 ?_
      refine V_callV hO ml_X4_49 (C_X4_reach α w2 (w2 - (1 : Int32)) q1) (by decide) (fun _ _ => ce_41) rfl rfl (rest := []) rfl rfl (Nat.le_of_ble_eq_true rfl) ⟨Nat.le_of_ble_eq_true rfl, Nat.le_of_ble_eq_true rfl⟩ dX4_leave_73 (kc_SV rfl fun q2 => ?_)
      exact V_vret hO hR rfl dX4_leave_76
set_option maxHeartbeats 4000000 in
set_option maxRecDepth 100000 in
theorem T_X4_leave {G : Gm} {α : Nat → Nat} (hO : Ok G α cX4_leave 3 RX4 3 66) (hR : Rt G α none) (p2 : Int32) (σ : Hp) : V G α 3 (kSV) 0 [(0, .ref (α (41))), (1, .ref (α (30))), (2, .int p2)] [] σ (F_X4_leave p2 σ) := by
  rw [F_X4_leave]
  refine V_aload_n hO 0 dX4_leave_0 rfl rfl ?_
  refine V_aload_n hO 1 dX4_leave_1 rfl rfl ?_
  refine V_iload_n hO 2 dX4_leave_2 rfl rfl ?_
  refine V_iload_n hO 2 dX4_leave_3 rfl rfl ?_
  refine V_aload_n hO 1 dX4_leave_4 rfl rfl ?_
  refine V_get hO (v := .int (σ.1 30 0)) fl_X4_46 (by decide) (fun _ _ => ce_town (t := 0) (by decide)) rfl dX4_leave_5 ?_
  refine V_isub hO dX4_leave_8 ?_
  refine V_callV hO ml_X4_49 (C_X4_reach α p2 (p2 - (σ.1 30 0)) σ) (by decide) (fun _ _ => ce_41) rfl rfl (rest := []) rfl rfl (Nat.le_of_ble_eq_true rfl) ⟨Nat.le_of_ble_eq_true rfl, Nat.le_of_ble_eq_true rfl⟩ dX4_leave_9 (kc_SV rfl fun q4 => ?_)
  refine V_aload_n hO 1 dX4_leave_12 rfl rfl ?_
  refine V_get hO (v := .int (q4.1 30 0)) fl_X4_46 (by decide) (fun _ _ => ce_town (t := 0) (by decide)) rfl dX4_leave_13 ?_
  refine V_if_le hO 39 dX4_leave_16 (by decide) ?_ ?_
  · exact V_sub [0, 1, 2] rfl (T_X4_leave_39 hO hR p2 q4 )
  · refine V_iload_n hO 2 dX4_leave_19 rfl rfl ?_
    refine V_iconst hO 1 dX4_leave_20 (by decide) ?_
    refine V_iadd hO dX4_leave_21 ?_
    refine V_aload_n hO 1 dX4_leave_22 rfl rfl ?_
    refine V_get hO (v := .int (q4.1 30 0)) fl_X4_46 (by decide) (fun _ _ => ce_town (t := 0) (by decide)) rfl dX4_leave_23 ?_
    refine V_chk rfl fun c6 => ?_
    refine V_irem hO dX4_leave_26 c6 ?_
    refine V_if_eq hO 39 dX4_leave_27 (by decide) ?_ ?_
    · exact V_sub [0, 1, 2] rfl (T_X4_leave_39 hO hR p2 q4 )
    · refine V_aload_n hO 0 dX4_leave_30 rfl rfl ?_
      refine V_aload_n hO 1 dX4_leave_31 rfl rfl ?_
      refine V_iload_n hO 2 dX4_leave_32 rfl rfl ?_
      refine V_iload_n hO 2 dX4_leave_33 rfl rfl ?_
      refine V_iconst hO 1 dX4_leave_34 (by decide) ?_
      refine V_iadd hO dX4_leave_35 ?_
      refine V_callV hO ml_X4_49 (C_X4_reach α p2 (p2 + (1 : Int32)) q4) (by decide) (fun _ _ => ce_41) rfl rfl (rest := []) rfl rfl (Nat.le_of_ble_eq_true rfl) ⟨Nat.le_of_ble_eq_true rfl, Nat.le_of_ble_eq_true rfl⟩ dX4_leave_36 (kc_SV rfl fun q5 => ?_)
      exact V_sub [0, 1, 2] rfl (T_X4_leave_39 hO hR p2 q5 )
set_option maxHeartbeats 4000000 in
set_option maxRecDepth 100000 in
theorem C_X4_leave (α : Nat → Nat) (p2 : Int32) (σ : Hp) : Ct yX4_leave cX4_leave 3 none 3 66 α [.ref (α (41)), .ref (α (30)), .int p2] σ (kSV (F_X4_leave p2 σ)) := ct_of_V (own := RX4) rfl (by decide +kernel) (Nat.le_of_ble_eq_true rfl) fun _ hO hR => T_X4_leave hO hR p2 σ
/-! X4_roam -/
noncomputable def F_X4_roam_60  : Nat → Int32 → Hp → Option Hp
  | 0, _, _ => none
  | n + 1, w3, h =>
    if (h.1 41 4) ≤ w3 then
    some h
    else
    if (16 : Int32) ≤ w3 then
    some h
    else
    if inb w3 16 = true then
    (F_X4_leave (h.1 45 (Int32.toNatClampNeg w3)) h).bind fun q2 =>
    F_X4_roam_60 n (w3 + 1) q2
    else none
noncomputable def F_X4_roam_2  : Nat → Int32 → Int32 → Hp → Option Hp
  | 0, _, _, _ => none
  | n + 1, w2, w3, h =>
    if (16 : Int32) ≤ w3 then
    lt (up h 41 4 (0 : Int32)) fun h3 =>
    (F_X5_bearsSkater 0 w2 h3).bind fun v4 =>
    if v4 = true then
    if inb w2 16 = true then
    (F_X4_enter w2 (0 : Int32) (h3.1 44 (Int32.toNatClampNeg w2)) h3).bind fun q6 =>
    F_X4_roam_60 fuel (0 : Int32) q6
    else none
    else
    some h3
    else
    if inb w3 16 = true then
    lt (up h 42 (Int32.toNatClampNeg w3) ((-1) : Int32)) fun h8 =>
    (F_X5_readableIn 0 w3 h8).bind fun v9 =>
    if inb w3 16 = true then
    lt (up h8 44 (Int32.toNatClampNeg w3) v9) fun h11 =>
    F_X4_roam_2 n w2 (w3 + 1) h11
    else none
    else none
noncomputable def F_X4_roam  (p2 : Int32) (σ : Hp) : Option Hp :=
  F_X4_roam_2 fuel p2 (0 : Int32) σ
set_option maxHeartbeats 4000000 in
set_option maxRecDepth 100000 in
theorem T_X4_roam_60 {G : Gm} {α : Nat → Nat} (hO : Ok G α cX4_roam 4 RX4 4 88) (hR : Rt G α none) : ∀ (fuel : Nat) (w3 : Int32) (h : Hp), V G α 4 (kSV) 60 [(0, .ref (α (41))), (1, .ref (α (30))), (3, .int w3)] [] h (F_X4_roam_60 fuel w3 h) := by
  intro fuel
  induction fuel with
  | zero => intro w3 h; exact V_none rfl
  | succ n ih =>
    intro w3 h
    rw [F_X4_roam_60]
    refine V_iload_n hO 2 dX4_roam_60 rfl rfl ?_
    refine V_aload_n hO 0 dX4_roam_61 rfl rfl ?_
    refine V_get hO (v := .int (h.1 41 4)) fl_X4_30 (by decide) (fun _ _ => ce_41) rfl dX4_roam_62 ?_
    refine V_icmp_ge hO 91 dX4_roam_65 (by decide) ?_ ?_
    · exact V_vret hO hR rfl dX4_roam_91
    · refine V_iload_n hO 2 dX4_roam_68 rfl rfl ?_
      refine V_bipush hO 16 dX4_roam_69 (by decide) ?_
      refine V_icmp_ge hO 91 dX4_roam_71 (by decide) ?_ ?_
      · exact V_vret hO hR rfl dX4_roam_91
      · refine V_aload_n hO 0 dX4_roam_74 rfl rfl ?_
        refine V_aload_n hO 1 dX4_roam_75 rfl rfl ?_
        refine V_aload_n hO 0 dX4_roam_76 rfl rfl ?_
        refine V_get hO (v := .ref (α (45))) fl_X4_21 (by decide) (fun _ _ => ce_41) rfl dX4_roam_77 ?_
        refine V_iload_n hO 2 dX4_roam_80 rfl rfl ?_
        refine V_chk rfl fun c1 => ?_
        refine V_iald hO (by decide) (fun _ _ => ce_45) (inb_in c1) dX4_roam_81 ?_
        refine V_callV hO ml_X4_42 (C_X4_leave α (h.1 45 (Int32.toNatClampNeg w3)) h) (by decide) (fun _ _ => ce_41) rfl rfl (rest := []) rfl rfl (Nat.le_of_ble_eq_true rfl) ⟨Nat.le_of_ble_eq_true rfl, Nat.le_of_ble_eq_true rfl⟩ dX4_roam_82 (kc_SV rfl fun q2 => ?_)
        refine V_iinc hO (ls2 := [(3, .int (w3 + 1)), (0, .ref (α (41))), (1, .ref (α (30)))]) (z := 1) 2 dX4_roam_85 rfl (by decide) (by decide) rfl ?_
        refine V_goto hO 60 dX4_roam_88 (by decide) ?_
        exact V_sub [1, 2, 0] rfl (ih (w3 + 1) q2 )
set_option maxHeartbeats 4000000 in
set_option maxRecDepth 100000 in
theorem T_X4_roam_2 {G : Gm} {α : Nat → Nat} (hO : Ok G α cX4_roam 4 RX4 4 88) (hR : Rt G α none) : ∀ (fuel : Nat) (w2 : Int32) (w3 : Int32) (h : Hp), V G α 4 (kSV) 2 [(0, .ref (α (41))), (1, .ref (α (30))), (2, .int w2), (3, .int w3)] [] h (F_X4_roam_2 fuel w2 w3 h) := by
  intro fuel
  induction fuel with
  | zero => intro w2 w3 h; exact V_none rfl
  | succ n ih =>
    intro w2 w3 h
    rw [F_X4_roam_2]
    refine V_iload_n hO 3 dX4_roam_2 rfl rfl ?_
    refine V_bipush hO 16 dX4_roam_3 (by decide) ?_
    refine V_icmp_ge hO 32 dX4_roam_5 (by decide) ?_ ?_
    · refine V_aload_n hO 0 dX4_roam_32 rfl rfl ?_
      refine V_iconst hO 0 dX4_roam_33 (by decide) ?_
      refine V_puti hO fp_X4_30 (by decide) (fun _ _ => ce_41) (Nat.le_of_ble_eq_true rfl) (fun _ _ => pe_41_4) dX4_roam_34 (V_name fun h3 => ?_)
      refine V_aload_n hO 1 dX4_roam_37 rfl rfl ?_
      refine V_iload_n hO 2 dX4_roam_38 rfl rfl ?_
      refine V_callV hO ml_X4_34 (C_X5_bearsSkater α (t := 0) (by decide) w2 h3) (by decide) (fun _ _ => ce_town (t := 0) (by decide)) rfl rfl (rest := []) rfl rfl (Nat.le_of_ble_eq_true rfl) ⟨Nat.le_of_ble_eq_true rfl, Nat.le_of_ble_eq_true rfl⟩ dX4_roam_39 (kc_OZ rfl fun v4 => ?_)
      refine V_ifneZ hO 46 dX4_roam_42 (by decide) ?_ ?_
      · refine V_aload_n hO 0 dX4_roam_46 rfl rfl ?_
        refine V_iload_n hO 2 dX4_roam_47 rfl rfl ?_
        refine V_iconst hO 0 dX4_roam_48 (by decide) ?_
        refine V_aload_n hO 0 dX4_roam_49 rfl rfl ?_
        refine V_get hO (v := .ref (α (44))) fl_X4_18 (by decide) (fun _ _ => ce_41) rfl dX4_roam_50 ?_
        refine V_iload_n hO 2 dX4_roam_53 rfl rfl ?_
        refine V_chk rfl fun c5 => ?_
        refine V_iald hO (by decide) (fun _ _ => ce_44) (inb_in c5) dX4_roam_54 ?_
        refine V_callV hO ml_X4_38 (C_X4_enter α w2 (0 : Int32) (h3.1 44 (Int32.toNatClampNeg w2)) h3) (by decide) (fun _ _ => ce_41) rfl rfl (rest := []) rfl rfl (Nat.le_of_ble_eq_true rfl) ⟨Nat.le_of_ble_eq_true rfl, Nat.le_of_ble_eq_true rfl⟩ dX4_roam_55 (kc_SV rfl fun q6 => ?_)
        refine V_iconst hO 0 dX4_roam_58 (by decide) ?_
        refine V_istore_n hO (ls2 := [(3, .int 0), (0, .ref (α (41))), (1, .ref (α (30))), (2, .int w2)]) dX4_roam_59 rfl (by decide) rfl ?_
        exact V_sub [1, 2, 0] rfl (T_X4_roam_60 hO hR fuel (0 : Int32) q6 )
      · exact V_vret hO hR rfl dX4_roam_45
    · refine V_aload_n hO 0 dX4_roam_8 rfl rfl ?_
      refine V_get hO (v := .ref (α (42))) fl_X4_9 (by decide) (fun _ _ => ce_41) rfl dX4_roam_9 ?_
      refine V_iload_n hO 3 dX4_roam_12 rfl rfl ?_
      refine V_iconst hO (-1) dX4_roam_13 (by decide) ?_
      refine V_chk rfl fun c7 => ?_
      refine V_iast hO (by decide) (fun _ _ _ => ce_42) (inb_in c7) dX4_roam_14 (V_name fun h8 => ?_)
      refine V_aload_n hO 0 dX4_roam_15 rfl rfl ?_
      refine V_get hO (v := .ref (α (44))) fl_X4_18 (by decide) (fun _ _ => ce_41) rfl dX4_roam_16 ?_
      refine V_iload_n hO 3 dX4_roam_19 rfl rfl ?_
      refine V_aload_n hO 1 dX4_roam_20 rfl rfl ?_
      refine V_iload_n hO 3 dX4_roam_21 rfl rfl ?_
      refine V_callV hO ml_X4_24 (C_X5_readableIn α (t := 0) (by decide) w3 h8) (by decide) (fun _ _ => ce_town (t := 0) (by decide)) rfl rfl (rest := [.int w3, .ref (α (44))]) rfl rfl (Nat.le_of_ble_eq_true rfl) ⟨Nat.le_of_ble_eq_true rfl, Nat.le_of_ble_eq_true rfl⟩ dX4_roam_22 (kc_OI rfl fun v9 => ?_)
      refine V_chk rfl fun c10 => ?_
      refine V_iast hO (by decide) (fun _ _ _ => ce_44) (inb_in c10) dX4_roam_25 (V_name fun h11 => ?_)
      refine V_iinc hO (ls2 := [(3, .int (w3 + 1)), (0, .ref (α (41))), (1, .ref (α (30))), (2, .int w2)]) (z := 1) 3 dX4_roam_26 rfl (by decide) (by decide) rfl ?_
      refine V_goto hO 2 dX4_roam_29 (by decide) ?_
      exact V_sub [1, 2, 3, 0] rfl (ih w2 (w3 + 1) h11 )
set_option maxHeartbeats 4000000 in
set_option maxRecDepth 100000 in
theorem T_X4_roam {G : Gm} {α : Nat → Nat} (hO : Ok G α cX4_roam 4 RX4 4 88) (hR : Rt G α none) (p2 : Int32) (σ : Hp) : V G α 4 (kSV) 0 [(0, .ref (α (41))), (1, .ref (α (30))), (2, .int p2)] [] σ (F_X4_roam p2 σ) := by
  rw [F_X4_roam]
  refine V_iconst hO 0 dX4_roam_0 (by decide) ?_
  refine V_istore_n hO (ls2 := [(3, .int 0), (0, .ref (α (41))), (1, .ref (α (30))), (2, .int p2)]) dX4_roam_1 rfl (by decide) rfl ?_
  exact V_sub [1, 2, 3, 0] rfl (T_X4_roam_2 hO hR fuel p2 (0 : Int32) σ )
set_option maxHeartbeats 4000000 in
set_option maxRecDepth 100000 in
theorem C_X4_roam (α : Nat → Nat) (p2 : Int32) (σ : Hp) : Ct yX4_roam cX4_roam 4 none 4 88 α [.ref (α (41)), .ref (α (30)), .int p2] σ (kSV (F_X4_roam p2 σ)) := ct_of_V (own := RX4) rfl (by decide +kernel) (Nat.le_of_ble_eq_true rfl) fun _ hO hR => T_X4_roam hO hR p2 σ
/-! X5_begin -/
noncomputable def F_X5_begin_29 (t : Nat) : Nat → Int32 → Hp → Option Hp
  | 0, _, _ => none
  | n + 1, w3, h =>
    if (16 : Int32) ≤ w3 then
    some h
    else
    if inb w3 16 = true then
    lt (up h (33 + t) (Int32.toNatClampNeg w3) (10 : Int32)) fun h2 =>
    F_X5_begin_29 t n (w3 + 1) h2
    else none
noncomputable def F_X5_begin (t : Nat) (p1 : Int32) (p2 : Int32) (σ : Hp) : Option Hp :=
  lt (up σ (30 + t) 0 p2) fun h3 =>
  lt (up h3 (30 + t) 1 (p1 * p2)) fun h4 =>
  lt (up h4 (30 + t) 2 (0 : Int32)) fun h5 =>
  lt (up h5 (30 + t) 3 (0 : Int32)) fun h6 =>
  lt (up h6 (30 + t) 4 (0 : Int32)) fun h7 =>
  F_X5_begin_29 t fuel (0 : Int32) h7
set_option maxHeartbeats 4000000 in
set_option maxRecDepth 100000 in
theorem T_X5_begin_29 {G : Gm} {α : Nat → Nat} {t : Nat} (hO : Ok G α cX5_begin 4 RX5 0 0) (hR : Rt G α none) (ht : t < 3) : ∀ (fuel : Nat) (w3 : Int32) (h : Hp), V G α 4 (kSV) 29 [(0, .ref (α (30 + t))), (3, .int w3)] [] h (F_X5_begin_29 t fuel w3 h) := by
  intro fuel
  induction fuel with
  | zero => intro w3 h; exact V_none rfl
  | succ n ih =>
    intro w3 h
    rw [F_X5_begin_29]
    refine V_iload_n hO 1 dX5_begin_29 rfl rfl ?_
    refine V_bipush hO 16 dX5_begin_30 (by decide) ?_
    refine V_icmp_ge hO 49 dX5_begin_32 (by decide) ?_ ?_
    · exact V_vret hO hR rfl dX5_begin_49
    · refine V_aload_n hO 0 dX5_begin_35 rfl rfl ?_
      refine V_get hO (v := .ref (α (33 + t))) fl_X5_9 (tw_X5 ht) (fun _ _ => ce_town ht) rfl dX5_begin_36 ?_
      refine V_iload_n hO 1 dX5_begin_39 rfl rfl ?_
      refine V_bipush hO 10 dX5_begin_40 (by decide) ?_
      refine V_chk rfl fun c1 => ?_
      refine V_iast hO (tw_ice ht) (fun _ _ _ => ce_ice ht) (inb_in c1) dX5_begin_42 (V_name fun h2 => ?_)
      refine V_iinc hO (ls2 := [(3, .int (w3 + 1)), (0, .ref (α (30 + t)))]) (z := 1) 1 dX5_begin_43 rfl (by decide) (by decide) rfl ?_
      refine V_goto hO 29 dX5_begin_46 (by decide) ?_
      exact V_sub [1, 0] rfl (ih (w3 + 1) h2 )
set_option maxHeartbeats 4000000 in
set_option maxRecDepth 100000 in
theorem T_X5_begin {G : Gm} {α : Nat → Nat} {t : Nat} (hO : Ok G α cX5_begin 4 RX5 0 0) (hR : Rt G α none) (ht : t < 3) (p1 : Int32) (p2 : Int32) (σ : Hp) : V G α 4 (kSV) 0 [(0, .ref (α (30 + t))), (1, .int p1), (2, .int p2)] [] σ (F_X5_begin t p1 p2 σ) := by
  rw [F_X5_begin]
  refine V_aload_n hO 0 dX5_begin_0 rfl rfl ?_
  refine V_iload_n hO 2 dX5_begin_1 rfl rfl ?_
  refine V_puti hO fp_X5_22 (tw_X5 ht) (fun _ _ => ce_town ht) (Nat.le_of_ble_eq_true rfl) (fun _ _ => pe_town0 ht) dX5_begin_2 (V_name fun h3 => ?_)
  refine V_aload_n hO 0 dX5_begin_5 rfl rfl ?_
  refine V_iload_n hO 1 dX5_begin_6 rfl rfl ?_
  refine V_iload_n hO 2 dX5_begin_7 rfl rfl ?_
  refine V_imul hO dX5_begin_8 ?_
  refine V_puti hO fp_X5_26 (tw_X5 ht) (fun _ _ => ce_town ht) (Nat.le_of_ble_eq_true rfl) (fun _ _ => pe_town1 ht) dX5_begin_9 (V_name fun h4 => ?_)
  refine V_aload_n hO 0 dX5_begin_12 rfl rfl ?_
  refine V_iconst hO 0 dX5_begin_13 (by decide) ?_
  refine V_puti hO fp_X5_29 (tw_X5 ht) (fun _ _ => ce_town ht) (Nat.le_of_ble_eq_true rfl) (fun _ _ => pe_town2 ht) dX5_begin_14 (V_name fun h5 => ?_)
  refine V_aload_n hO 0 dX5_begin_17 rfl rfl ?_
  refine V_iconst hO 0 dX5_begin_18 (by decide) ?_
  refine V_puti hO fp_X5_32 (tw_X5 ht) (fun _ _ => ce_town ht) (Nat.le_of_ble_eq_true rfl) (fun _ _ => pe_town3 ht) dX5_begin_19 (V_name fun h6 => ?_)
  refine V_aload_n hO 0 dX5_begin_22 rfl rfl ?_
  refine V_iconst hO 0 dX5_begin_23 (by decide) ?_
  refine V_puti hO fp_X5_35 (tw_X5 ht) (fun _ _ => ce_town ht) (Nat.le_of_ble_eq_true rfl) (fun _ _ => pe_town4 ht) dX5_begin_24 (V_name fun h7 => ?_)
  refine V_iconst hO 0 dX5_begin_27 (by decide) ?_
  refine V_istore_n hO (ls2 := [(3, .int 0), (0, .ref (α (30 + t))), (1, .int p1), (2, .int p2)]) dX5_begin_28 rfl (by decide) rfl ?_
  exact V_sub [1, 0] rfl (T_X5_begin_29 hO hR ht fuel (0 : Int32) h7 )
set_option maxHeartbeats 4000000 in
set_option maxRecDepth 100000 in
theorem C_X5_begin (α : Nat → Nat) {t : Nat} (ht : t < 3) (p1 : Int32) (p2 : Int32) (σ : Hp) : Ct yX5_begin cX5_begin 4 none 0 0 α [.ref (α (30 + t)), .int p1, .int p2] σ (kSV (F_X5_begin t p1 p2 σ)) := ct_of_V (own := RX5) rfl (by decide +kernel) (Nat.le_of_ble_eq_true rfl) fun _ hO hR => T_X5_begin hO hR ht p1 p2 σ
/-! X5_copyFrom -/
noncomputable def F_X5_copyFrom_68 (t : Nat) (u : Nat) : Nat → Int32 → Hp → Option Hp
  | 0, _, _ => none
  | n + 1, w2, h =>
    if (h.1 (30 + t) 4) ≤ w2 then
    some h
    else
    if inb w2 10 = true then
    if inb w2 10 = true then
    (F_X0_copyFrom (10 * t + (Int32.toNatClampNeg w2)) (10 * u + (Int32.toNatClampNeg w2)) h).bind fun q3 =>
    F_X5_copyFrom_68 t u n (w2 + 1) q3
    else none
    else none
noncomputable def F_X5_copyFrom_42 (t : Nat) (u : Nat) : Nat → Int32 → Hp → Option Hp
  | 0, _, _ => none
  | n + 1, w2, h =>
    if (16 : Int32) ≤ w2 then
    F_X5_copyFrom_68 t u fuel (0 : Int32) h
    else
    if inb w2 16 = true then
    if inb w2 16 = true then
    lt (up h (33 + t) (Int32.toNatClampNeg w2) (h.1 (33 + u) (Int32.toNatClampNeg w2))) fun h6 =>
    F_X5_copyFrom_42 t u n (w2 + 1) h6
    else none
    else none
noncomputable def F_X5_copyFrom (t : Nat) (u : Nat) (σ : Hp) : Option Hp :=
  lt (up σ (30 + t) 0 (σ.1 (30 + u) 0)) fun h7 =>
  lt (up h7 (30 + t) 1 (h7.1 (30 + u) 1)) fun h8 =>
  lt (up h8 (30 + t) 2 (h8.1 (30 + u) 2)) fun h9 =>
  lt (up h9 (30 + t) 3 (h9.1 (30 + u) 3)) fun h10 =>
  lt (up h10 (30 + t) 4 (h10.1 (30 + u) 4)) fun h11 =>
  F_X5_copyFrom_42 t u fuel (0 : Int32) h11
set_option maxHeartbeats 4000000 in
set_option maxRecDepth 100000 in
theorem T_X5_copyFrom_68 {G : Gm} {α : Nat → Nat} {t : Nat} {u : Nat} (hO : Ok G α cX5_copyFrom 3 RX5 2 45) (hR : Rt G α none) (ht : t < 3) (hu : u < 3) : ∀ (fuel : Nat) (w2 : Int32) (h : Hp), V G α 3 (kSV) 68 [(0, .ref (α (30 + t))), (1, .ref (α (30 + u))), (2, .int w2)] [] h (F_X5_copyFrom_68 t u fuel w2 h) := by
  intro fuel
  induction fuel with
  | zero => intro w2 h; exact V_none rfl
  | succ n ih =>
    intro w2 h
    rw [F_X5_copyFrom_68]
    refine V_iload_n hO 2 dX5_copyFrom_68 rfl rfl ?_
    refine V_aload_n hO 0 dX5_copyFrom_69 rfl rfl ?_
    refine V_get hO (v := .int (h.1 (30 + t) 4)) fl_X5_35 (tw_X5 ht) (fun _ _ => ce_town ht) rfl dX5_copyFrom_70 ?_
    refine V_icmp_ge hO 97 dX5_copyFrom_73 (by decide) ?_ ?_
    · exact V_vret hO hR rfl dX5_copyFrom_97
    · refine V_aload_n hO 0 dX5_copyFrom_76 rfl rfl ?_
      refine V_get hO (v := .ref (α (36 + t))) fl_X5_17 (tw_X5 ht) (fun _ _ => ce_town ht) rfl dX5_copyFrom_77 ?_
      refine V_iload_n hO 2 dX5_copyFrom_80 rfl rfl ?_
      refine V_chk rfl fun c1 => ?_
      refine V_aald hO (tw_darr ht) (fun _ _ => ce_da ht) (inb_in c1) dX5_copyFrom_81 ?_
      refine V_aload_n hO 1 dX5_copyFrom_82 rfl rfl ?_
      refine V_get hO (v := .ref (α (36 + u))) fl_X5_17 (tw_X5 hu) (fun _ _ => ce_town hu) rfl dX5_copyFrom_83 ?_
      refine V_iload_n hO 2 dX5_copyFrom_86 rfl rfl ?_
      refine V_chk rfl fun c2 => ?_
      refine V_aald hO (tw_darr hu) (fun _ _ => ce_da hu) (inb_in c2) dX5_copyFrom_87 ?_
      refine V_callV hO ml_X5_38 (C_X0_copyFrom α (c := (10 * t + (Int32.toNatClampNeg w2))) (d := (10 * u + (Int32.toNatClampNeg w2))) (cd_lt ht (inb_in c1)) (cd_lt hu (inb_in c2)) h) (Nat.lt_trans (cd_lt ht (inb_in c1)) (by decide)) (fun _ _ => ce_debt (cd_lt ht (inb_in c1))) rfl rfl (rest := []) rfl rfl (Nat.le_of_ble_eq_true rfl) ⟨Nat.le_of_ble_eq_true rfl, Nat.le_of_ble_eq_true rfl⟩ dX5_copyFrom_88 (kc_SV rfl fun q3 => ?_)
      refine V_iinc hO (ls2 := [(2, .int (w2 + 1)), (0, .ref (α (30 + t))), (1, .ref (α (30 + u)))]) (z := 1) 2 dX5_copyFrom_91 rfl (by decide) (by decide) rfl ?_
      refine V_goto hO 68 dX5_copyFrom_94 (by decide) ?_
      exact V_sub [1, 2, 0] rfl (ih (w2 + 1) q3 )
set_option maxHeartbeats 4000000 in
set_option maxRecDepth 100000 in
theorem T_X5_copyFrom_42 {G : Gm} {α : Nat → Nat} {t : Nat} {u : Nat} (hO : Ok G α cX5_copyFrom 3 RX5 2 45) (hR : Rt G α none) (ht : t < 3) (hu : u < 3) : ∀ (fuel : Nat) (w2 : Int32) (h : Hp), V G α 3 (kSV) 42 [(0, .ref (α (30 + t))), (1, .ref (α (30 + u))), (2, .int w2)] [] h (F_X5_copyFrom_42 t u fuel w2 h) := by
  intro fuel
  induction fuel with
  | zero => intro w2 h; exact V_none rfl
  | succ n ih =>
    intro w2 h
    rw [F_X5_copyFrom_42]
    refine V_iload_n hO 2 dX5_copyFrom_42 rfl rfl ?_
    refine V_bipush hO 16 dX5_copyFrom_43 (by decide) ?_
    refine V_icmp_ge hO 66 dX5_copyFrom_45 (by decide) ?_ ?_
    · refine V_iconst hO 0 dX5_copyFrom_66 (by decide) ?_
      refine V_istore_n hO (ls2 := [(2, .int 0), (0, .ref (α (30 + t))), (1, .ref (α (30 + u)))]) dX5_copyFrom_67 rfl (by decide) rfl ?_
      exact V_sub [1, 2, 0] rfl (T_X5_copyFrom_68 hO hR ht hu fuel (0 : Int32) h )
    · refine V_aload_n hO 0 dX5_copyFrom_48 rfl rfl ?_
      refine V_get hO (v := .ref (α (33 + t))) fl_X5_9 (tw_X5 ht) (fun _ _ => ce_town ht) rfl dX5_copyFrom_49 ?_
      refine V_iload_n hO 2 dX5_copyFrom_52 rfl rfl ?_
      refine V_aload_n hO 1 dX5_copyFrom_53 rfl rfl ?_
      refine V_get hO (v := .ref (α (33 + u))) fl_X5_9 (tw_X5 hu) (fun _ _ => ce_town hu) rfl dX5_copyFrom_54 ?_
      refine V_iload_n hO 2 dX5_copyFrom_57 rfl rfl ?_
      refine V_chk rfl fun c4 => ?_
      refine V_iald hO (tw_ice hu) (fun _ _ => ce_ice hu) (inb_in c4) dX5_copyFrom_58 ?_
      refine V_chk rfl fun c5 => ?_
      refine V_iast hO (tw_ice ht) (fun _ _ _ => ce_ice ht) (inb_in c5) dX5_copyFrom_59 (V_name fun h6 => ?_)
      refine V_iinc hO (ls2 := [(2, .int (w2 + 1)), (0, .ref (α (30 + t))), (1, .ref (α (30 + u)))]) (z := 1) 2 dX5_copyFrom_60 rfl (by decide) (by decide) rfl ?_
      refine V_goto hO 42 dX5_copyFrom_63 (by decide) ?_
      exact V_sub [1, 2, 0] rfl (ih (w2 + 1) h6 )
set_option maxHeartbeats 4000000 in
set_option maxRecDepth 100000 in
theorem T_X5_copyFrom {G : Gm} {α : Nat → Nat} {t : Nat} {u : Nat} (hO : Ok G α cX5_copyFrom 3 RX5 2 45) (hR : Rt G α none) (ht : t < 3) (hu : u < 3) (σ : Hp) : V G α 3 (kSV) 0 [(0, .ref (α (30 + t))), (1, .ref (α (30 + u)))] [] σ (F_X5_copyFrom t u σ) := by
  rw [F_X5_copyFrom]
  refine V_aload_n hO 0 dX5_copyFrom_0 rfl rfl ?_
  refine V_aload_n hO 1 dX5_copyFrom_1 rfl rfl ?_
  refine V_get hO (v := .int (σ.1 (30 + u) 0)) fl_X5_22 (tw_X5 hu) (fun _ _ => ce_town hu) rfl dX5_copyFrom_2 ?_
  refine V_puti hO fp_X5_22 (tw_X5 ht) (fun _ _ => ce_town ht) (Nat.le_of_ble_eq_true rfl) (fun _ _ => pe_town0 ht) dX5_copyFrom_5 (V_name fun h7 => ?_)
  refine V_aload_n hO 0 dX5_copyFrom_8 rfl rfl ?_
  refine V_aload_n hO 1 dX5_copyFrom_9 rfl rfl ?_
  refine V_get hO (v := .int (h7.1 (30 + u) 1)) fl_X5_26 (tw_X5 hu) (fun _ _ => ce_town hu) rfl dX5_copyFrom_10 ?_
  refine V_puti hO fp_X5_26 (tw_X5 ht) (fun _ _ => ce_town ht) (Nat.le_of_ble_eq_true rfl) (fun _ _ => pe_town1 ht) dX5_copyFrom_13 (V_name fun h8 => ?_)
  refine V_aload_n hO 0 dX5_copyFrom_16 rfl rfl ?_
  refine V_aload_n hO 1 dX5_copyFrom_17 rfl rfl ?_
  refine V_get hO (v := .int (h8.1 (30 + u) 2)) fl_X5_29 (tw_X5 hu) (fun _ _ => ce_town hu) rfl dX5_copyFrom_18 ?_
  refine V_puti hO fp_X5_29 (tw_X5 ht) (fun _ _ => ce_town ht) (Nat.le_of_ble_eq_true rfl) (fun _ _ => pe_town2 ht) dX5_copyFrom_21 (V_name fun h9 => ?_)
  refine V_aload_n hO 0 dX5_copyFrom_24 rfl rfl ?_
  refine V_aload_n hO 1 dX5_copyFrom_25 rfl rfl ?_
  refine V_get hO (v := .int (h9.1 (30 + u) 3)) fl_X5_32 (tw_X5 hu) (fun _ _ => ce_town hu) rfl dX5_copyFrom_26 ?_
  refine V_puti hO fp_X5_32 (tw_X5 ht) (fun _ _ => ce_town ht) (Nat.le_of_ble_eq_true rfl) (fun _ _ => pe_town3 ht) dX5_copyFrom_29 (V_name fun h10 => ?_)
  refine V_aload_n hO 0 dX5_copyFrom_32 rfl rfl ?_
  refine V_aload_n hO 1 dX5_copyFrom_33 rfl rfl ?_
  refine V_get hO (v := .int (h10.1 (30 + u) 4)) fl_X5_35 (tw_X5 hu) (fun _ _ => ce_town hu) rfl dX5_copyFrom_34 ?_
  refine V_puti hO fp_X5_35 (tw_X5 ht) (fun _ _ => ce_town ht) (Nat.le_of_ble_eq_true rfl) (fun _ _ => pe_town4 ht) dX5_copyFrom_37 (V_name fun h11 => ?_)
  refine V_iconst hO 0 dX5_copyFrom_40 (by decide) ?_
  refine V_istore_n hO (ls2 := [(2, .int 0), (0, .ref (α (30 + t))), (1, .ref (α (30 + u)))]) dX5_copyFrom_41 rfl (by decide) rfl ?_
  exact V_sub [1, 2, 0] rfl (T_X5_copyFrom_42 hO hR ht hu fuel (0 : Int32) h11 )
set_option maxHeartbeats 4000000 in
set_option maxRecDepth 100000 in
theorem C_X5_copyFrom (α : Nat → Nat) {t : Nat} {u : Nat} (ht : t < 3) (hu : u < 3) (σ : Hp) : Ct yX5_copyFrom cX5_copyFrom 3 none 2 45 α [.ref (α (30 + t)), .ref (α (30 + u))] σ (kSV (F_X5_copyFrom t u σ)) := ct_of_V (own := RX5) rfl (by decide +kernel) (Nat.le_of_ble_eq_true rfl) fun _ hO hR => T_X5_copyFrom hO hR ht hu σ
/-! X5_hasDebt -/
noncomputable def F_X5_hasDebt (t : Nat) (p1 : Int32) (σ : Hp) : Bool :=
  if p1 < 0 then
  false
  else
  if (σ.1 (30 + t) 4) ≤ p1 then
  false
  else
  true
set_option maxHeartbeats 4000000 in
set_option maxRecDepth 100000 in
theorem T_X5_hasDebt {G : Gm} {α : Nat → Nat} {t : Nat} (hO : Ok G α cX5_hasDebt 2 RX5 0 0) (hR : Rt G α (some .boolean)) (ht : t < 3) (p1 : Int32) (σ : Hp) : V G α 2 (kZ σ) 0 [(0, .ref (α (30 + t))), (1, .int p1)] [] σ (F_X5_hasDebt t p1 σ) := by
  rw [F_X5_hasDebt]
  refine V_iload_n hO 1 dX5_hasDebt_0 rfl rfl ?_
  refine V_if_lt hO 16 dX5_hasDebt_1 (by decide) ?_ ?_
  · refine V_iconst hO 0 dX5_hasDebt_16 (by decide) ?_
    exact V_zret hO hR (by decide) rfl dX5_hasDebt_17
  · refine V_iload_n hO 1 dX5_hasDebt_4 rfl rfl ?_
    refine V_aload_n hO 0 dX5_hasDebt_5 rfl rfl ?_
    refine V_get hO (v := .int (σ.1 (30 + t) 4)) fl_X5_35 (tw_X5 ht) (fun _ _ => ce_town ht) rfl dX5_hasDebt_6 ?_
    refine V_icmp_ge hO 16 dX5_hasDebt_9 (by decide) ?_ ?_
    · refine V_iconst hO 0 dX5_hasDebt_16 (by decide) ?_
      exact V_zret hO hR (by decide) rfl dX5_hasDebt_17
    · refine V_iconst hO 1 dX5_hasDebt_12 (by decide) ?_
      refine V_goto hO 17 dX5_hasDebt_13 (by decide) ?_
      exact V_zret hO hR (by decide) rfl dX5_hasDebt_17
set_option maxHeartbeats 4000000 in
set_option maxRecDepth 100000 in
theorem C_X5_hasDebt (α : Nat → Nat) {t : Nat} (ht : t < 3) (p1 : Int32) (σ : Hp) : Ct yX5_hasDebt cX5_hasDebt 2 (some .boolean) 0 0 α [.ref (α (30 + t)), .int p1] σ (kZ σ (F_X5_hasDebt t p1 σ)) := ct_of_V (own := RX5) rfl (by decide +kernel) (Nat.le_of_ble_eq_true rfl) fun _ hO hR => T_X5_hasDebt hO hR ht p1 σ
