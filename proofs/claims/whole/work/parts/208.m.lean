/-! X7_day -/
noncomputable def F_X7_day_110 (k12 : Int32 → Int32 → Int32 → Hp → (Option Hp)) (w1 : Int32) (w2 : Int32) (w3 : Int32) (s0 : Int32) (s1 : Int32) (h : Hp) : Option Hp :=
  if inb s1 16 = true then
  lt (up h 57 (Int32.toNatClampNeg s1) s0) fun h2 =>
  k12 w1 w2 (w3 + 1) h2
  else none
noncomputable def F_X7_day_104 (k12 : Int32 → Int32 → Int32 → Hp → (Option Hp)) (w1 : Int32) (w2 : Int32) (w3 : Int32) (s0 : Int32) (h : Hp) : Option Hp :=
  if inb w3 16 = true then
  F_X7_day_110 k12 w1 w2 w3 (h.1 57 (Int32.toNatClampNeg w3)) s0 h
  else none
noncomputable def F_X7_day_62 (k12 : Int32 → Int32 → Int32 → Hp → (Option Hp)) (w1 : Int32) (w2 : Int32) (w3 : Int32) (s0 : Int32) (s1 : Int32) (h : Hp) : Option Hp :=
  if inb s1 16 = true then
  lt (up h 56 (Int32.toNatClampNeg s1) s0) fun h5 =>
  if w1 = (3 : Int32) then
  F_X7_day_110 k12 w1 w2 w3 (0 : Int32) w3 h5
  else
  if w1 = (2 : Int32) then
  if inb w3 16 = true then
  if (9 : Int32) ≤ (h5.1 57 (Int32.toNatClampNeg w3)) then
  F_X7_day_104 k12 w1 w2 w3 w3 h5
  else
  if inb w3 16 = true then
  F_X7_day_110 k12 w1 w2 w3 ((h5.1 57 (Int32.toNatClampNeg w3)) + (1 : Int32)) w3 h5
  else none
  else none
  else
  F_X7_day_104 k12 w1 w2 w3 w3 h5
  else none
noncomputable def F_X7_day_12  : Nat → Int32 → Int32 → Int32 → Hp → Option Hp
  | 0, _, _, _, _ => none
  | n + 1, w1, w2, w3, h =>
    if (16 : Int32) ≤ w3 then
    some h
    else
    if w1 = 0 then
    if inb w3 16 = true then
    if ((h.1 56 (Int32.toNatClampNeg w3)) + w2) ≤ (99 : Int32) then
    if inb w3 16 = true then
    F_X7_day_62 (F_X7_day_12 n) w1 w2 w3 ((h.1 56 (Int32.toNatClampNeg w3)) + w2) w3 h
    else none
    else
    F_X7_day_62 (F_X7_day_12 n) w1 w2 w3 (99 : Int32) w3 h
    else none
    else
    if inb w3 16 = true then
    F_X7_day_62 (F_X7_day_12 n) w1 w2 w3 (h.1 56 (Int32.toNatClampNeg w3)) w3 h
    else none
noncomputable def F_X7_day  (p1 : Int32) (p2 : Int32) (σ : Hp) : Option Hp :=
  if p1 = (1 : Int32) then
  (F_X7_thaw p2 σ).bind fun q11 =>
  F_X7_day_12 fuel p1 p2 (0 : Int32) q11
  else
  F_X7_day_12 fuel p1 p2 (0 : Int32) σ
set_option maxHeartbeats 4000000 in
set_option maxRecDepth 100000 in
theorem T_X7_day_110 {G : Gm} {α : Nat → Nat} (hO : Ok G α cX7_day 4 RX7 2 44) (hR : Rt G α none) (k12 : Int32 → Int32 → Int32 → Hp → (Option Hp)) (hk12 : ∀ (w1 : Int32) (w2 : Int32) (w3 : Int32) (h : Hp), V G α 4 (kSV) 12 [(0, .ref (α (55))), (1, .int w1), (2, .int w2), (3, .int w3)] [] h (k12 w1 w2 w3 h)) : ∀ (w1 : Int32) (w2 : Int32) (w3 : Int32) (s0 : Int32) (s1 : Int32) (h : Hp), V G α 4 (kSV) 110 [(0, .ref (α (55))), (1, .int w1), (2, .int w2), (3, .int w3)] [.int s0, .int s1, .ref (α (57))] h (F_X7_day_110 k12 w1 w2 w3 s0 s1 h) := by
  intro w1 w2 w3 s0 s1 h
  rw [F_X7_day_110]
  refine V_chk rfl fun c1 => ?_
  refine V_iast hO (by decide) (fun _ _ _ => ce_57) (inb_in c1) dX7_day_110 (V_name fun h2 => ?_)
  refine V_iinc hO (ls2 := [(3, .int (w3 + 1)), (0, .ref (α (55))), (1, .int w1), (2, .int w2)]) (z := 1) 3 dX7_day_111 rfl (by decide) (by decide) rfl ?_
  refine V_goto hO 12 dX7_day_114 (by decide) ?_
  exact V_sub [1, 2, 3, 0] rfl (hk12 w1 w2 (w3 + 1) h2 )
set_option maxHeartbeats 4000000 in
set_option maxRecDepth 100000 in
theorem T_X7_day_104 {G : Gm} {α : Nat → Nat} (hO : Ok G α cX7_day 4 RX7 2 44) (hR : Rt G α none) (k12 : Int32 → Int32 → Int32 → Hp → (Option Hp)) (hk12 : ∀ (w1 : Int32) (w2 : Int32) (w3 : Int32) (h : Hp), V G α 4 (kSV) 12 [(0, .ref (α (55))), (1, .int w1), (2, .int w2), (3, .int w3)] [] h (k12 w1 w2 w3 h)) : ∀ (w1 : Int32) (w2 : Int32) (w3 : Int32) (s0 : Int32) (h : Hp), V G α 4 (kSV) 104 [(0, .ref (α (55))), (1, .int w1), (2, .int w2), (3, .int w3)] [.int s0, .ref (α (57))] h (F_X7_day_104 k12 w1 w2 w3 s0 h) := by
  intro w1 w2 w3 s0 h
  rw [F_X7_day_104]
  refine V_aload_n hO 0 dX7_day_104 rfl rfl ?_
  refine V_get hO (v := .ref (α (57))) fl_X7_13 (by decide) (fun _ _ => ce_55) rfl dX7_day_105 ?_
  refine V_iload_n hO 3 dX7_day_108 rfl rfl ?_
  refine V_chk rfl fun c3 => ?_
  refine V_iald hO (by decide) (fun _ _ => ce_57) (inb_in c3) dX7_day_109 ?_
  exact V_sub [0, 1, 2, 3] rfl (T_X7_day_110 hO hR k12 hk12 w1 w2 w3 (h.1 57 (Int32.toNatClampNeg w3)) s0 h )
set_option maxHeartbeats 4000000 in
set_option maxRecDepth 100000 in
theorem T_X7_day_62 {G : Gm} {α : Nat → Nat} (hO : Ok G α cX7_day 4 RX7 2 44) (hR : Rt G α none) (k12 : Int32 → Int32 → Int32 → Hp → (Option Hp)) (hk12 : ∀ (w1 : Int32) (w2 : Int32) (w3 : Int32) (h : Hp), V G α 4 (kSV) 12 [(0, .ref (α (55))), (1, .int w1), (2, .int w2), (3, .int w3)] [] h (k12 w1 w2 w3 h)) : ∀ (w1 : Int32) (w2 : Int32) (w3 : Int32) (s0 : Int32) (s1 : Int32) (h : Hp), V G α 4 (kSV) 62 [(0, .ref (α (55))), (1, .int w1), (2, .int w2), (3, .int w3)] [.int s0, .int s1, .ref (α (56))] h (F_X7_day_62 k12 w1 w2 w3 s0 s1 h) := by
  intro w1 w2 w3 s0 s1 h
  rw [F_X7_day_62]
  refine V_chk rfl fun c4 => ?_
  refine V_iast hO (by decide) (fun _ _ _ => ce_56) (inb_in c4) dX7_day_62 (V_name fun h5 => ?_)
  refine V_aload_n hO 0 dX7_day_63 rfl rfl ?_
  refine V_get hO (v := .ref (α (57))) fl_X7_13 (by decide) (fun _ _ => ce_55) rfl dX7_day_64 ?_
  refine V_iload_n hO 3 dX7_day_67 rfl rfl ?_
  refine V_iload_n hO 1 dX7_day_68 rfl rfl ?_
  refine V_iconst hO 3 dX7_day_69 (by decide) ?_
  refine V_icmp_ne hO 77 dX7_day_70 (by decide) ?_ ?_
  · refine V_iload_n hO 1 dX7_day_77 rfl rfl ?_
    refine V_iconst hO 2 dX7_day_78 (by decide) ?_
    refine V_icmp_ne hO 104 dX7_day_79 (by decide) ?_ ?_
    · exact V_sub [0, 1, 2, 3] rfl (T_X7_day_104 hO hR k12 hk12 w1 w2 w3 w3 h5 )
    · refine V_aload_n hO 0 dX7_day_82 rfl rfl ?_
      refine V_get hO (v := .ref (α (57))) fl_X7_13 (by decide) (fun _ _ => ce_55) rfl dX7_day_83 ?_
      refine V_iload_n hO 3 dX7_day_86 rfl rfl ?_
      refine V_chk rfl fun c6 => ?_
      refine V_iald hO (by decide) (fun _ _ => ce_57) (inb_in c6) dX7_day_87 ?_
      refine V_bipush hO 9 dX7_day_88 (by decide) ?_
      refine V_icmp_ge hO 104 dX7_day_90 (by decide) ?_ ?_
      · exact V_sub [0, 1, 2, 3] rfl (T_X7_day_104 hO hR k12 hk12 w1 w2 w3 w3 h5 )
      · refine V_aload_n hO 0 dX7_day_93 rfl rfl ?_
        refine V_get hO (v := .ref (α (57))) fl_X7_13 (by decide) (fun _ _ => ce_55) rfl dX7_day_94 ?_
        refine V_iload_n hO 3 dX7_day_97 rfl rfl ?_
        refine V_chk rfl fun c7 => ?_
        refine V_iald hO (by decide) (fun _ _ => ce_57) (inb_in c7) dX7_day_98 ?_
        refine V_iconst hO 1 dX7_day_99 (by decide) ?_
        refine V_iadd hO dX7_day_100 ?_
        refine V_goto hO 110 dX7_day_101 (by decide) ?_
        exact V_sub [0, 1, 2, 3] rfl (T_X7_day_110 hO hR k12 hk12 w1 w2 w3 ((h5.1 57 (Int32.toNatClampNeg w3)) + (1 : Int32)) w3 h5 )
  · refine V_iconst hO 0 dX7_day_73 (by decide) ?_
    refine V_goto hO 110 dX7_day_74 (by decide) ?_
    exact V_sub [0, 1, 2, 3] rfl (T_X7_day_110 hO hR k12 hk12 w1 w2 w3 (0 : Int32) w3 h5 )
set_option maxHeartbeats 4000000 in
set_option maxRecDepth 100000 in
theorem T_X7_day_12 {G : Gm} {α : Nat → Nat} (hO : Ok G α cX7_day 4 RX7 2 44) (hR : Rt G α none) : ∀ (fuel : Nat) (w1 : Int32) (w2 : Int32) (w3 : Int32) (h : Hp), V G α 4 (kSV) 12 [(0, .ref (α (55))), (1, .int w1), (2, .int w2), (3, .int w3)] [] h (F_X7_day_12 fuel w1 w2 w3 h) := by
  intro fuel
  induction fuel with
  | zero => intro w1 w2 w3 h; exact V_none rfl
  | succ n ih =>
    intro w1 w2 w3 h
    rw [F_X7_day_12]
    refine V_iload_n hO 3 dX7_day_12 rfl rfl ?_
    refine V_bipush hO 16 dX7_day_13 (by decide) ?_
    refine V_icmp_ge hO 117 dX7_day_15 (by decide) ?_ ?_
    · exact V_vret hO hR rfl dX7_day_117
    · refine V_aload_n hO 0 dX7_day_18 rfl rfl ?_
      refine V_get hO (v := .ref (α (56))) fl_X7_7 (by decide) (fun _ _ => ce_55) rfl dX7_day_19 ?_
      refine V_iload_n hO 3 dX7_day_22 rfl rfl ?_
      refine V_iload_n hO 1 dX7_day_23 rfl rfl ?_
      refine V_if_ne hO 56 dX7_day_24 (by decide) ?_ ?_
      · refine V_aload_n hO 0 dX7_day_56 rfl rfl ?_
        refine V_get hO (v := .ref (α (56))) fl_X7_7 (by decide) (fun _ _ => ce_55) rfl dX7_day_57 ?_
        refine V_iload_n hO 3 dX7_day_60 rfl rfl ?_
        refine V_chk rfl fun c8 => ?_
        refine V_iald hO (by decide) (fun _ _ => ce_56) (inb_in c8) dX7_day_61 ?_
        exact V_sub [0, 1, 2, 3] rfl (T_X7_day_62 hO hR (F_X7_day_12 n) ih w1 w2 w3 (h.1 56 (Int32.toNatClampNeg w3)) w3 h )
      · refine V_aload_n hO 0 dX7_day_27 rfl rfl ?_
        refine V_get hO (v := .ref (α (56))) fl_X7_7 (by decide) (fun _ _ => ce_55) rfl dX7_day_28 ?_
        refine V_iload_n hO 3 dX7_day_31 rfl rfl ?_
        refine V_chk rfl fun c9 => ?_
        refine V_iald hO (by decide) (fun _ _ => ce_56) (inb_in c9) dX7_day_32 ?_
        refine V_iload_n hO 2 dX7_day_33 rfl rfl ?_
        refine V_iadd hO dX7_day_34 ?_
        refine V_bipush hO 99 dX7_day_35 (by decide) ?_
        refine V_icmp_le hO 45 dX7_day_37 (by decide) ?_ ?_
        · refine V_aload_n hO 0 dX7_day_45 rfl rfl ?_
          refine V_get hO (v := .ref (α (56))) fl_X7_7 (by decide) (fun _ _ => ce_55) rfl dX7_day_46 ?_
          refine V_iload_n hO 3 dX7_day_49 rfl rfl ?_
          refine V_chk rfl fun c10 => ?_
          refine V_iald hO (by decide) (fun _ _ => ce_56) (inb_in c10) dX7_day_50 ?_
          refine V_iload_n hO 2 dX7_day_51 rfl rfl ?_
          refine V_iadd hO dX7_day_52 ?_
          refine V_goto hO 62 dX7_day_53 (by decide) ?_
          exact V_sub [0, 1, 2, 3] rfl (T_X7_day_62 hO hR (F_X7_day_12 n) ih w1 w2 w3 ((h.1 56 (Int32.toNatClampNeg w3)) + w2) w3 h )
        · refine V_bipush hO 99 dX7_day_40 (by decide) ?_
          refine V_goto hO 62 dX7_day_42 (by decide) ?_
          exact V_sub [0, 1, 2, 3] rfl (T_X7_day_62 hO hR (F_X7_day_12 n) ih w1 w2 w3 (99 : Int32) w3 h )
set_option maxHeartbeats 4000000 in
set_option maxRecDepth 100000 in
theorem T_X7_day {G : Gm} {α : Nat → Nat} (hO : Ok G α cX7_day 4 RX7 2 44) (hR : Rt G α none) (p1 : Int32) (p2 : Int32) (σ : Hp) : V G α 4 (kSV) 0 [(0, .ref (α (55))), (1, .int p1), (2, .int p2)] [] σ (F_X7_day p1 p2 σ) := by
  rw [F_X7_day]
  refine V_iload_n hO 1 dX7_day_0 rfl rfl ?_
  refine V_iconst hO 1 dX7_day_1 (by decide) ?_
  refine V_icmp_ne hO 10 dX7_day_2 (by decide) ?_ ?_
  · refine V_iconst hO 0 dX7_day_10 (by decide) ?_
    refine V_istore_n hO (ls2 := [(3, .int 0), (0, .ref (α (55))), (1, .int p1), (2, .int p2)]) dX7_day_11 rfl (by decide) rfl ?_
    exact V_sub [1, 2, 3, 0] rfl (T_X7_day_12 hO hR fuel p1 p2 (0 : Int32) σ )
  · refine V_aload_n hO 0 dX7_day_5 rfl rfl ?_
    refine V_iload_n hO 2 dX7_day_6 rfl rfl ?_
    refine V_callV hO ml_X7_166 (C_X7_thaw α p2 σ) (by decide) (fun _ _ => ce_55) rfl rfl (rest := []) rfl rfl (Nat.le_of_ble_eq_true rfl) ⟨Nat.le_of_ble_eq_true rfl, Nat.le_of_ble_eq_true rfl⟩ dX7_day_7 (kc_SV rfl fun q11 => ?_)
    refine V_iconst hO 0 dX7_day_10 (by decide) ?_
    refine V_istore_n hO (ls2 := [(3, .int 0), (0, .ref (α (55))), (1, .int p1), (2, .int p2)]) dX7_day_11 rfl (by decide) rfl ?_
    exact V_sub [1, 2, 3, 0] rfl (T_X7_day_12 hO hR fuel p1 p2 (0 : Int32) q11 )
set_option maxHeartbeats 4000000 in
set_option maxRecDepth 100000 in
theorem C_X7_day (α : Nat → Nat) (p1 : Int32) (p2 : Int32) (σ : Hp) : Ct yX7_day cX7_day 4 none 2 44 α [.ref (α (55)), .int p1, .int p2] σ (kSV (F_X7_day p1 p2 σ)) := ct_of_V (own := RX7) rfl (by decide +kernel) (Nat.le_of_ble_eq_true rfl) fun _ hO hR => T_X7_day hO hR p1 p2 σ
/-! X7_thereMany -/
noncomputable def F_X7_thereMany_33 (σ : Hp) (k4 : Int32 → Int32 → (Option Int32)) (w2 : Int32) (s0 : Bool) (s1 : Int32) : Option Int32 :=
  lt (s1 + (b2i s0)) fun v1 =>
  k4 v1 (w2 + 1)
noncomputable def F_X7_thereMany_4 (σ : Hp) : Nat → Int32 → Int32 → Option Int32
  | 0, _, _ => none
  | n + 1, w1, w2 =>
    if (σ.1 55 6) ≤ w2 then
    some w1
    else
    if inb (((8 : Int32) * w2) + (6 : Int32)) 80 = true then
    if (σ.1 58 (Int32.toNatClampNeg (((8 : Int32) * w2) + (6 : Int32)))) ≤ 0 then
    F_X7_thereMany_33 σ (F_X7_thereMany_4 σ n) w2 false w1
    else
    F_X7_thereMany_33 σ (F_X7_thereMany_4 σ n) w2 true w1
    else none
noncomputable def F_X7_thereMany  (σ : Hp) : Option Int32 :=
  F_X7_thereMany_4 σ fuel (0 : Int32) (0 : Int32)
set_option maxHeartbeats 4000000 in
set_option maxRecDepth 100000 in
theorem T_X7_thereMany_33 {G : Gm} {α : Nat → Nat} (hO : Ok G α cX7_thereMany 3 RX7 0 0) (hR : Rt G α (some .int)) (σ : Hp) (k4 : Int32 → Int32 → (Option Int32)) (hk4 : ∀ (w1 : Int32) (w2 : Int32), V G α 3 (kOI σ) 4 [(0, .ref (α (55))), (1, .int w1), (2, .int w2)] [] σ (k4 w1 w2)) : ∀ (w2 : Int32) (s0 : Bool) (s1 : Int32), V G α 3 (kOI σ) 33 [(0, .ref (α (55))), (2, .int w2)] [.int (b2i s0), .int s1] σ (F_X7_thereMany_33 σ k4 w2 s0 s1) := by
  intro w2 s0 s1
  rw [F_X7_thereMany_33]
  refine V_iadd hO dX7_thereMany_33 ?_
  refine V_istore_nN hO (ls2 := fun v1 => [(1, .int v1), (0, .ref (α (55))), (2, .int w2)]) dX7_thereMany_34 rfl (by decide) (fun _ => rfl) (fun v1 => ?_)
  refine V_iinc hO (ls2 := [(2, .int (w2 + 1)), (1, .int v1), (0, .ref (α (55)))]) (z := 1) 2 dX7_thereMany_35 rfl (by decide) (by decide) rfl ?_
  refine V_goto hO 4 dX7_thereMany_38 (by decide) ?_
  exact V_sub [2, 1, 0] rfl (hk4 v1 (w2 + 1) )
set_option maxHeartbeats 4000000 in
set_option maxRecDepth 100000 in
theorem T_X7_thereMany_4 {G : Gm} {α : Nat → Nat} (hO : Ok G α cX7_thereMany 3 RX7 0 0) (hR : Rt G α (some .int)) (σ : Hp) : ∀ (fuel : Nat) (w1 : Int32) (w2 : Int32), V G α 3 (kOI σ) 4 [(0, .ref (α (55))), (1, .int w1), (2, .int w2)] [] σ (F_X7_thereMany_4 σ fuel w1 w2) := by
  intro fuel
  induction fuel with
  | zero => intro w1 w2; exact V_none rfl
  | succ n ih =>
    intro w1 w2
    rw [F_X7_thereMany_4]
    refine V_iload_n hO 2 dX7_thereMany_4 rfl rfl ?_
    refine V_aload_n hO 0 dX7_thereMany_5 rfl rfl ?_
    refine V_get hO (v := .int (σ.1 55 6)) fl_X7_79 (by decide) (fun _ _ => ce_55) rfl dX7_thereMany_6 ?_
    refine V_icmp_ge hO 41 dX7_thereMany_9 (by decide) ?_ ?_
    · refine V_iload_n hO 1 dX7_thereMany_41 rfl rfl ?_
      exact V_iret hO hR rfl dX7_thereMany_42
    · refine V_iload_n hO 1 dX7_thereMany_12 rfl rfl ?_
      refine V_aload_n hO 0 dX7_thereMany_13 rfl rfl ?_
      refine V_get hO (v := .ref (α (58))) fl_X7_16 (by decide) (fun _ _ => ce_55) rfl dX7_thereMany_14 ?_
      refine V_bipush hO 8 dX7_thereMany_17 (by decide) ?_
      refine V_iload_n hO 2 dX7_thereMany_19 rfl rfl ?_
      refine V_imul hO dX7_thereMany_20 ?_
      refine V_bipush hO 6 dX7_thereMany_21 (by decide) ?_
      refine V_iadd hO dX7_thereMany_23 ?_
      refine V_chk rfl fun c2 => ?_
      refine V_iald hO (by decide) (fun _ _ => ce_58) (inb_in c2) dX7_thereMany_24 ?_
      refine V_if_le hO 32 dX7_thereMany_25 (by decide) ?_ ?_
      · refine V_iconst hO 0 dX7_thereMany_32 (by decide) ?_
        exact V_sub [0, 2] rfl (T_X7_thereMany_33 hO hR σ (F_X7_thereMany_4 σ n) ih w2 false w1 )
      · refine V_iconst hO 1 dX7_thereMany_28 (by decide) ?_
        refine V_goto hO 33 dX7_thereMany_29 (by decide) ?_
        exact V_sub [0, 2] rfl (T_X7_thereMany_33 hO hR σ (F_X7_thereMany_4 σ n) ih w2 true w1 )
set_option maxHeartbeats 4000000 in
set_option maxRecDepth 100000 in
theorem T_X7_thereMany {G : Gm} {α : Nat → Nat} (hO : Ok G α cX7_thereMany 3 RX7 0 0) (hR : Rt G α (some .int)) (σ : Hp) : V G α 3 (kOI σ) 0 [(0, .ref (α (55)))] [] σ (F_X7_thereMany σ) := by
  rw [F_X7_thereMany]
  refine V_iconst hO 0 dX7_thereMany_0 (by decide) ?_
  refine V_istore_n hO (ls2 := [(1, .int 0), (0, .ref (α (55)))]) dX7_thereMany_1 rfl (by decide) rfl ?_
  refine V_iconst hO 0 dX7_thereMany_2 (by decide) ?_
  refine V_istore_n hO (ls2 := [(2, .int 0), (1, .int 0), (0, .ref (α (55)))]) dX7_thereMany_3 rfl (by decide) rfl ?_
  exact V_sub [2, 1, 0] rfl (T_X7_thereMany_4 hO hR σ fuel (0 : Int32) (0 : Int32) )
set_option maxHeartbeats 4000000 in
set_option maxRecDepth 100000 in
theorem C_X7_thereMany (α : Nat → Nat) (σ : Hp) : Ct yX7_thereMany cX7_thereMany 3 (some .int) 0 0 α [.ref (α (55))] σ (kOI σ (F_X7_thereMany σ)) := ct_of_V (own := RX7) rfl (by decide +kernel) (Nat.le_of_ble_eq_true rfl) fun _ hO hR => T_X7_thereMany hO hR σ
/-! X7_days -/
noncomputable def F_X7_days_17  : Nat → Int32 → Int32 → Hp → Option (Int32 × Hp)
  | 0, _, _, _ => none
  | n + 1, w1, w2, h =>
    if (h.1 55 10) ≤ w2 then
    lt (up h 55 5 ((h.1 55 5) + (h.1 55 10))) fun h1 =>
    lt (up h1 55 9 (0 : Int32)) fun h2 =>
    (F_X7_thereMany h2).bind fun v3 =>
    some ((w1 - v3), h2)
    else
    if inb w2 12 = true then
    if inb w2 12 = true then
    (F_X7_day (h.1 60 (Int32.toNatClampNeg w2)) (h.1 61 (Int32.toNatClampNeg w2)) h).bind fun q6 =>
    F_X7_days_17 n w1 (w2 + 1) q6
    else none
    else none
noncomputable def F_X7_days  (σ : Hp) : Option (Int32 × Hp) :=
  (F_X7_areDays σ).bind fun q7 =>
  if q7.1 = true then
  (F_X7_thereMany q7.2).bind fun v8 =>
  F_X7_days_17 fuel v8 (0 : Int32) q7.2
  else
  some (((-103) : Int32), q7.2)
set_option maxHeartbeats 4000000 in
set_option maxRecDepth 100000 in
theorem T_X7_days_17 {G : Gm} {α : Nat → Nat} (hO : Ok G α cX7_days 3 RX7 4 88) (hR : Rt G α (some .int)) : ∀ (fuel : Nat) (w1 : Int32) (w2 : Int32) (h : Hp), V G α 3 (kSI) 17 [(0, .ref (α (55))), (1, .int w1), (2, .int w2)] [] h (F_X7_days_17 fuel w1 w2 h) := by
  intro fuel
  induction fuel with
  | zero => intro w1 w2 h; exact V_none rfl
  | succ n ih =>
    intro w1 w2 h
    rw [F_X7_days_17]
    refine V_iload_n hO 2 dX7_days_17 rfl rfl ?_
    refine V_aload_n hO 0 dX7_days_18 rfl rfl ?_
    refine V_get hO (v := .int (h.1 55 10)) fl_X7_144 (by decide) (fun _ _ => ce_55) rfl dX7_days_19 ?_
    refine V_icmp_ge hO 47 dX7_days_22 (by decide) ?_ ?_
    · refine V_aload_n hO 0 dX7_days_47 rfl rfl ?_
      refine V_dup hO dX7_days_48 rfl ?_
      refine V_get hO (v := .int (h.1 55 5)) fl_X7_88 (by decide) (fun _ _ => ce_55) rfl dX7_days_49 ?_
      refine V_aload_n hO 0 dX7_days_52 rfl rfl ?_
      refine V_get hO (v := .int (h.1 55 10)) fl_X7_144 (by decide) (fun _ _ => ce_55) rfl dX7_days_53 ?_
      refine V_iadd hO dX7_days_56 ?_
      refine V_puti hO fp_X7_88 (by decide) (fun _ _ => ce_55) (Nat.le_of_ble_eq_true rfl) (fun _ _ => pe_55_5) dX7_days_57 (V_name fun h1 => ?_)
      refine V_aload_n hO 0 dX7_days_60 rfl rfl ?_
      refine V_iconst hO 0 dX7_days_61 (by decide) ?_
      refine V_puti hO fp_X7_137 (by decide) (fun _ _ => ce_55) (Nat.le_of_ble_eq_true rfl) (fun _ _ => pe_55_9) dX7_days_62 (V_name fun h2 => ?_)
      refine V_iload_n hO 1 dX7_days_65 rfl rfl ?_
      refine V_aload_n hO 0 dX7_days_66 rfl rfl ?_
      refine V_callV hO ml_X7_173 (C_X7_thereMany α h2) (by decide) (fun _ _ => ce_55) rfl rfl (rest := [.int w1]) rfl rfl (Nat.le_of_ble_eq_true rfl) ⟨Nat.le_of_ble_eq_true rfl, Nat.le_of_ble_eq_true rfl⟩ dX7_days_67 (kc_OI rfl fun v3 => ?_)
      refine V_isub hO dX7_days_70 ?_
      exact V_iret hO hR rfl dX7_days_71
    · refine V_aload_n hO 0 dX7_days_25 rfl rfl ?_
      refine V_aload_n hO 0 dX7_days_26 rfl rfl ?_
      refine V_get hO (v := .ref (α (60))) fl_X7_22 (by decide) (fun _ _ => ce_55) rfl dX7_days_27 ?_
      refine V_iload_n hO 2 dX7_days_30 rfl rfl ?_
      refine V_chk rfl fun c4 => ?_
      refine V_iald hO (by decide) (fun _ _ => ce_60) (inb_in c4) dX7_days_31 ?_
      refine V_aload_n hO 0 dX7_days_32 rfl rfl ?_
      refine V_get hO (v := .ref (α (61))) fl_X7_25 (by decide) (fun _ _ => ce_55) rfl dX7_days_33 ?_
      refine V_iload_n hO 2 dX7_days_36 rfl rfl ?_
      refine V_chk rfl fun c5 => ?_
      refine V_iald hO (by decide) (fun _ _ => ce_61) (inb_in c5) dX7_days_37 ?_
      refine V_callV hO ml_X7_176 (C_X7_day α (h.1 60 (Int32.toNatClampNeg w2)) (h.1 61 (Int32.toNatClampNeg w2)) h) (by decide) (fun _ _ => ce_55) rfl rfl (rest := []) rfl rfl (Nat.le_of_ble_eq_true rfl) ⟨Nat.le_of_ble_eq_true rfl, Nat.le_of_ble_eq_true rfl⟩ dX7_days_38 (kc_SV rfl fun q6 => ?_)
      refine V_iinc hO (ls2 := [(2, .int (w2 + 1)), (0, .ref (α (55))), (1, .int w1)]) (z := 1) 2 dX7_days_41 rfl (by decide) (by decide) rfl ?_
      refine V_goto hO 17 dX7_days_44 (by decide) ?_
      exact V_sub [1, 2, 0] rfl (ih w1 (w2 + 1) q6 )
set_option maxHeartbeats 4000000 in
set_option maxRecDepth 100000 in
theorem T_X7_days {G : Gm} {α : Nat → Nat} (hO : Ok G α cX7_days 3 RX7 4 88) (hR : Rt G α (some .int)) (σ : Hp) : V G α 3 (kSI) 0 [(0, .ref (α (55)))] [] σ (F_X7_days σ) := by
  rw [F_X7_days]
  refine V_aload_n hO 0 dX7_days_0 rfl rfl ?_
  refine V_callV hO ml_X7_169 (C_X7_areDays α σ) (by decide) (fun _ _ => ce_55) rfl rfl (rest := []) rfl rfl (Nat.le_of_ble_eq_true rfl) ⟨Nat.le_of_ble_eq_true rfl, Nat.le_of_ble_eq_true rfl⟩ dX7_days_1 (kc_SZ rfl fun q7 => ?_)
  refine V_ifneZ hO 10 dX7_days_4 (by decide) ?_ ?_
  · refine V_aload_n hO 0 dX7_days_10 rfl rfl ?_
    refine V_callV hO ml_X7_173 (C_X7_thereMany α q7.2) (by decide) (fun _ _ => ce_55) rfl rfl (rest := []) rfl rfl (Nat.le_of_ble_eq_true rfl) ⟨Nat.le_of_ble_eq_true rfl, Nat.le_of_ble_eq_true rfl⟩ dX7_days_11 (kc_OI rfl fun v8 => ?_)
    refine V_istore_n hO (ls2 := [(1, .int v8), (0, .ref (α (55)))]) dX7_days_14 rfl (by decide) rfl ?_
    refine V_iconst hO 0 dX7_days_15 (by decide) ?_
    refine V_istore_n hO (ls2 := [(2, .int 0), (1, .int v8), (0, .ref (α (55)))]) dX7_days_16 rfl (by decide) rfl ?_
    exact V_sub [2, 1, 0] rfl (T_X7_days_17 hO hR fuel v8 (0 : Int32) q7.2 )
  · refine V_bipush hO (-103) dX7_days_7 (by decide) ?_
    exact V_iret hO hR rfl dX7_days_9
set_option maxHeartbeats 4000000 in
set_option maxRecDepth 100000 in
theorem C_X7_days (α : Nat → Nat) (σ : Hp) : Ct yX7_days cX7_days 3 (some .int) 4 88 α [.ref (α (55))] σ (kSI (F_X7_days σ)) := ct_of_V (own := RX7) rfl (by decide +kernel) (Nat.le_of_ble_eq_true rfl) fun _ hO hR => T_X7_days hO hR σ
/-! X7_stays -/
noncomputable def F_X7_stays_136 (σ : Hp) (k23 : Int32 → Int32 → Int32 → Bool → Int32 → (Option Bool)) (w1 : Int32) (w4 : Int32) (w5 : Int32) (w6 : Bool) (w7 : Int32) : Option Bool :=
  k23 w1 w4 w5 w6 (w7 + 1)
noncomputable def F_X7_stays_99 (σ : Hp) (k23 : Int32 → Int32 → Int32 → Bool → Int32 → (Option Bool)) (w1 : Int32) (w4 : Int32) (w5 : Int32) (w7 : Int32) (s0 : Bool) : Option Bool :=
  F_X7_stays_136 σ k23 w1 w4 w5 s0 w7
noncomputable def F_X7_stays_134 (σ : Hp) (k23 : Int32 → Int32 → Int32 → Bool → Int32 → (Option Bool)) (w1 : Int32) (w4 : Int32) (w6 : Bool) (w7 : Int32) (s0 : Int32) : Option Bool :=
  F_X7_stays_136 σ k23 w1 w4 s0 w6 w7
noncomputable def F_X7_stays_23 (σ : Hp) : Nat → Int32 → Int32 → Int32 → Bool → Int32 → Option Bool
  | 0, _, _, _, _, _ => none
  | n + 1, w1, w4, w5, w6, w7 =>
    if (σ.1 55 10) ≤ w7 then
    some w6
    else
    if w6 = true then
    if inb w7 12 = true then
    lt (σ.1 61 (Int32.toNatClampNeg w7)) fun v2 =>
    if inb w7 12 = true then
    if (σ.1 60 (Int32.toNatClampNeg w7)) = (1 : Int32) then
    lt (F_X7_less w5 v2 σ) fun v5 =>
    lt (F_X7_less w4 (F_X7_thawOf w1 v2 σ) σ) fun v6 =>
    if v5 ≤ 0 then
    F_X7_stays_99 σ (F_X7_stays_23 σ n) w1 v6 v5 w7 false
    else
    if v6 ≤ 0 then
    F_X7_stays_99 σ (F_X7_stays_23 σ n) w1 v6 v5 w7 false
    else
    if w1 = (3 : Int32) then
    F_X7_stays_99 σ (F_X7_stays_23 σ n) w1 v6 v5 w7 false
    else
    F_X7_stays_99 σ (F_X7_stays_23 σ n) w1 v6 v5 w7 true
    else
    if inb w7 12 = true then
    if (σ.1 60 (Int32.toNatClampNeg w7)) = 0 then
    if (w5 + v2) ≤ (99 : Int32) then
    F_X7_stays_134 σ (F_X7_stays_23 σ n) w1 w4 w6 w7 (w5 + v2)
    else
    F_X7_stays_134 σ (F_X7_stays_23 σ n) w1 w4 w6 w7 (99 : Int32)
    else
    F_X7_stays_136 σ (F_X7_stays_23 σ n) w1 w4 w5 w6 w7
    else none
    else none
    else none
    else
    some w6
noncomputable def F_X7_stays_18 (σ : Hp) (w1 : Int32) (w4 : Int32) (w5 : Int32) (s0 : Bool) : Option Bool :=
  F_X7_stays_23 σ fuel w1 w4 w5 s0 (0 : Int32)
noncomputable def F_X7_stays  (p1 : Int32) (p2 : Int32) (p3 : Int32) (σ : Hp) : Option Bool :=
  if p3 < p2 then
  F_X7_stays_18 σ p1 p2 p3 false
  else
  F_X7_stays_18 σ p1 p2 p3 true
set_option maxHeartbeats 4000000 in
set_option maxRecDepth 100000 in
theorem T_X7_stays_136 {G : Gm} {α : Nat → Nat} (hO : Ok G α cX7_stays 9 RX7 1 21) (hR : Rt G α (some .boolean)) (σ : Hp) (k23 : Int32 → Int32 → Int32 → Bool → Int32 → (Option Bool)) (hk23 : ∀ (w1 : Int32) (w4 : Int32) (w5 : Int32) (w6 : Bool) (w7 : Int32), V G α 9 (kOZ σ) 23 [(0, .ref (α (55))), (1, .int w1), (4, .int w4), (5, .int w5), (6, .int (b2i w6)), (7, .int w7)] [] σ (k23 w1 w4 w5 w6 w7)) : ∀ (w1 : Int32) (w4 : Int32) (w5 : Int32) (w6 : Bool) (w7 : Int32), V G α 9 (kOZ σ) 136 [(0, .ref (α (55))), (1, .int w1), (4, .int w4), (5, .int w5), (6, .int (b2i w6)), (7, .int w7)] [] σ (F_X7_stays_136 σ k23 w1 w4 w5 w6 w7) := by
  intro w1 w4 w5 w6 w7
  rw [F_X7_stays_136]
  refine V_iinc hO (ls2 := [(7, .int (w7 + 1)), (0, .ref (α (55))), (1, .int w1), (4, .int w4), (5, .int w5), (6, .int (b2i w6))]) (z := 1) 5 dX7_stays_136 rfl (by decide) (by decide) rfl ?_
  refine V_goto hO 23 dX7_stays_139 (by decide) ?_
  exact V_sub [1, 2, 3, 4, 5, 0] rfl (hk23 w1 w4 w5 w6 (w7 + 1) )
set_option maxHeartbeats 4000000 in
set_option maxRecDepth 100000 in
theorem T_X7_stays_99 {G : Gm} {α : Nat → Nat} (hO : Ok G α cX7_stays 9 RX7 1 21) (hR : Rt G α (some .boolean)) (σ : Hp) (k23 : Int32 → Int32 → Int32 → Bool → Int32 → (Option Bool)) (hk23 : ∀ (w1 : Int32) (w4 : Int32) (w5 : Int32) (w6 : Bool) (w7 : Int32), V G α 9 (kOZ σ) 23 [(0, .ref (α (55))), (1, .int w1), (4, .int w4), (5, .int w5), (6, .int (b2i w6)), (7, .int w7)] [] σ (k23 w1 w4 w5 w6 w7)) : ∀ (w1 : Int32) (w4 : Int32) (w5 : Int32) (w7 : Int32) (s0 : Bool), V G α 9 (kOZ σ) 99 [(0, .ref (α (55))), (1, .int w1), (4, .int w4), (5, .int w5), (7, .int w7)] [.int (b2i s0)] σ (F_X7_stays_99 σ k23 w1 w4 w5 w7 s0) := by
  intro w1 w4 w5 w7 s0
  rw [F_X7_stays_99]
  refine V_istore hO (ls2 := [(6, .int (b2i s0)), (0, .ref (α (55))), (1, .int w1), (4, .int w4), (5, .int w5), (7, .int w7)]) dX7_stays_99 (by decide) rfl ?_
  refine V_goto hO 136 dX7_stays_101 (by decide) ?_
  exact V_sub [1, 2, 3, 4, 0, 5] rfl (T_X7_stays_136 hO hR σ k23 hk23 w1 w4 w5 s0 w7 )
set_option maxHeartbeats 4000000 in
set_option maxRecDepth 100000 in
theorem T_X7_stays_134 {G : Gm} {α : Nat → Nat} (hO : Ok G α cX7_stays 9 RX7 1 21) (hR : Rt G α (some .boolean)) (σ : Hp) (k23 : Int32 → Int32 → Int32 → Bool → Int32 → (Option Bool)) (hk23 : ∀ (w1 : Int32) (w4 : Int32) (w5 : Int32) (w6 : Bool) (w7 : Int32), V G α 9 (kOZ σ) 23 [(0, .ref (α (55))), (1, .int w1), (4, .int w4), (5, .int w5), (6, .int (b2i w6)), (7, .int w7)] [] σ (k23 w1 w4 w5 w6 w7)) : ∀ (w1 : Int32) (w4 : Int32) (w6 : Bool) (w7 : Int32) (s0 : Int32), V G α 9 (kOZ σ) 134 [(0, .ref (α (55))), (1, .int w1), (4, .int w4), (6, .int (b2i w6)), (7, .int w7)] [.int s0] σ (F_X7_stays_134 σ k23 w1 w4 w6 w7 s0) := by
  intro w1 w4 w6 w7 s0
  rw [F_X7_stays_134]
  refine V_istore hO (ls2 := [(5, .int s0), (0, .ref (α (55))), (1, .int w1), (4, .int w4), (6, .int (b2i w6)), (7, .int w7)]) dX7_stays_134 (by decide) rfl ?_
  exact V_sub [1, 2, 3, 0, 4, 5] rfl (T_X7_stays_136 hO hR σ k23 hk23 w1 w4 s0 w6 w7 )
set_option maxHeartbeats 4000000 in
set_option maxRecDepth 100000 in
theorem T_X7_stays_23 {G : Gm} {α : Nat → Nat} (hO : Ok G α cX7_stays 9 RX7 1 21) (hR : Rt G α (some .boolean)) (σ : Hp) : ∀ (fuel : Nat) (w1 : Int32) (w4 : Int32) (w5 : Int32) (w6 : Bool) (w7 : Int32), V G α 9 (kOZ σ) 23 [(0, .ref (α (55))), (1, .int w1), (4, .int w4), (5, .int w5), (6, .int (b2i w6)), (7, .int w7)] [] σ (F_X7_stays_23 σ fuel w1 w4 w5 w6 w7) := by
  intro fuel
  induction fuel with
  | zero => intro w1 w4 w5 w6 w7; exact V_none rfl
  | succ n ih =>
    intro w1 w4 w5 w6 w7
    rw [F_X7_stays_23]
    refine V_iload hO 5 dX7_stays_23 rfl ?_
    refine V_aload_n hO 0 dX7_stays_25 rfl rfl ?_
    refine V_get hO (v := .int (σ.1 55 10)) fl_X7_144 (by decide) (fun _ _ => ce_55) rfl dX7_stays_26 ?_
    refine V_icmp_ge hO 142 dX7_stays_29 (by decide) ?_ ?_
    · refine V_iload hO 4 dX7_stays_142 rfl ?_
      exact V_zret hO hR (b2i_01 _) rfl dX7_stays_144
    · refine V_iload hO 4 dX7_stays_32 rfl ?_
      refine V_ifeqZ hO 142 dX7_stays_34 (by decide) ?_ ?_
      · refine V_iload hO 4 dX7_stays_142 rfl ?_
        exact V_zret hO hR (b2i_01 _) rfl dX7_stays_144
      · refine V_aload_n hO 0 dX7_stays_37 rfl rfl ?_
        refine V_get hO (v := .ref (α (61))) fl_X7_25 (by decide) (fun _ _ => ce_55) rfl dX7_stays_38 ?_
        refine V_iload hO 5 dX7_stays_41 rfl ?_
        refine V_chk rfl fun c1 => ?_
        refine V_iald hO (by decide) (fun _ _ => ce_61) (inb_in c1) dX7_stays_43 ?_
        refine V_istoreN hO (ls2 := fun v2 => [(8, .int v2), (0, .ref (α (55))), (1, .int w1), (4, .int w4), (5, .int w5), (6, .int (b2i w6)), (7, .int w7)]) dX7_stays_44 (by decide) (fun _ => rfl) (fun v2 => ?_)
        refine V_aload_n hO 1 dX7_stays_46 rfl rfl ?_
        refine V_get hO (v := .ref (α (60))) fl_X7_22 (by decide) (fun _ _ => ce_55) rfl dX7_stays_47 ?_
        refine V_iload hO 6 dX7_stays_50 rfl ?_
        refine V_chk rfl fun c3 => ?_
        refine V_iald hO (by decide) (fun _ _ => ce_60) (inb_in c3) dX7_stays_52 ?_
        refine V_iconst hO 1 dX7_stays_53 (by decide) ?_
        refine V_icmp_ne hO 104 dX7_stays_54 (by decide) ?_ ?_
        · refine V_aload_n hO 1 dX7_stays_104 rfl rfl ?_
          refine V_get hO (v := .ref (α (60))) fl_X7_22 (by decide) (fun _ _ => ce_55) rfl dX7_stays_105 ?_
          refine V_iload hO 6 dX7_stays_108 rfl ?_
          refine V_chk rfl fun c4 => ?_
          refine V_iald hO (by decide) (fun _ _ => ce_60) (inb_in c4) dX7_stays_110 ?_
          refine V_if_ne hO 136 dX7_stays_111 (by decide) ?_ ?_
          · exact V_sub [1, 2, 3, 4, 5, 6] rfl (T_X7_stays_136 hO hR σ (F_X7_stays_23 σ n) ih w1 w4 w5 w6 w7 )
          · refine V_iload hO 4 dX7_stays_114 rfl ?_
            refine V_iload hO 0 dX7_stays_116 rfl ?_
            refine V_iadd hO dX7_stays_118 ?_
            refine V_bipush hO 99 dX7_stays_119 (by decide) ?_
            refine V_icmp_le hO 129 dX7_stays_121 (by decide) ?_ ?_
            · refine V_iload hO 4 dX7_stays_129 rfl ?_
              refine V_iload hO 0 dX7_stays_131 rfl ?_
              refine V_iadd hO dX7_stays_133 ?_
              exact V_sub [1, 2, 3, 5, 6] rfl (T_X7_stays_134 hO hR σ (F_X7_stays_23 σ n) ih w1 w4 w6 w7 (w5 + v2) )
            · refine V_bipush hO 99 dX7_stays_124 (by decide) ?_
              refine V_goto hO 134 dX7_stays_126 (by decide) ?_
              exact V_sub [1, 2, 3, 5, 6] rfl (T_X7_stays_134 hO hR σ (F_X7_stays_23 σ n) ih w1 w4 w6 w7 (99 : Int32) )
        · refine V_iload hO 4 dX7_stays_57 rfl ?_
          refine V_iload hO 0 dX7_stays_59 rfl ?_
          refine V_callS hO ml_X7_160 (C_X7_less α w5 v2 σ) (rest := []) rfl rfl (Nat.le_of_ble_eq_true rfl) ⟨Nat.le_of_ble_eq_true rfl, Nat.le_of_ble_eq_true rfl⟩ dX7_stays_61 (kc_I ?_)
          refine V_istoreN hO (ls2 := fun v5 => [(5, .int v5), (8, .int v2), (0, .ref (α (55))), (1, .int w1), (4, .int w4), (6, .int (b2i w6)), (7, .int w7)]) dX7_stays_64 (by decide) (fun _ => rfl) (fun v5 => ?_)
          refine V_iload hO 4 dX7_stays_66 rfl ?_
          refine V_iload_n hO 3 dX7_stays_68 rfl rfl ?_
          refine V_iload hO 1 dX7_stays_69 rfl ?_
          refine V_callS hO ml_X7_163 (C_X7_thawOf α w1 v2 σ) (rest := [.int w4]) rfl rfl (Nat.le_of_ble_eq_true rfl) ⟨Nat.le_of_ble_eq_true rfl, Nat.le_of_ble_eq_true rfl⟩ dX7_stays_71 (kc_I ?_)
          refine V_callS hO ml_X7_160 (C_X7_less α w4 (F_X7_thawOf w1 v2 σ) σ) (rest := []) rfl rfl (Nat.le_of_ble_eq_true rfl) ⟨Nat.le_of_ble_eq_true rfl, Nat.le_of_ble_eq_true rfl⟩ dX7_stays_74 (kc_I ?_)
          refine V_istoreN hO (ls2 := fun v6 => [(4, .int v6), (5, .int v5), (8, .int v2), (0, .ref (α (55))), (1, .int w1), (6, .int (b2i w6)), (7, .int w7)]) dX7_stays_77 (by decide) (fun _ => rfl) (fun v6 => ?_)
          refine V_iload hO 1 dX7_stays_79 rfl ?_
          refine V_if_le hO 98 dX7_stays_81 (by decide) ?_ ?_
          · refine V_iconst hO 0 dX7_stays_98 (by decide) ?_
            exact V_sub [3, 4, 0, 1, 6] rfl (T_X7_stays_99 hO hR σ (F_X7_stays_23 σ n) ih w1 v6 v5 w7 false )
          · refine V_iload hO 0 dX7_stays_84 rfl ?_
            refine V_if_le hO 98 dX7_stays_86 (by decide) ?_ ?_
            · refine V_iconst hO 0 dX7_stays_98 (by decide) ?_
              exact V_sub [3, 4, 0, 1, 6] rfl (T_X7_stays_99 hO hR σ (F_X7_stays_23 σ n) ih w1 v6 v5 w7 false )
            · refine V_iload_n hO 4 dX7_stays_89 rfl rfl ?_
              refine V_iconst hO 3 dX7_stays_90 (by decide) ?_
              refine V_icmp_eq hO 98 dX7_stays_91 (by decide) ?_ ?_
              · refine V_iconst hO 0 dX7_stays_98 (by decide) ?_
                exact V_sub [3, 4, 0, 1, 6] rfl (T_X7_stays_99 hO hR σ (F_X7_stays_23 σ n) ih w1 v6 v5 w7 false )
              · refine V_iconst hO 1 dX7_stays_94 (by decide) ?_
                refine V_goto hO 99 dX7_stays_95 (by decide) ?_
                exact V_sub [3, 4, 0, 1, 6] rfl (T_X7_stays_99 hO hR σ (F_X7_stays_23 σ n) ih w1 v6 v5 w7 true )
set_option maxHeartbeats 4000000 in
set_option maxRecDepth 100000 in
theorem T_X7_stays_18 {G : Gm} {α : Nat → Nat} (hO : Ok G α cX7_stays 9 RX7 1 21) (hR : Rt G α (some .boolean)) (σ : Hp) : ∀ (w1 : Int32) (w4 : Int32) (w5 : Int32) (s0 : Bool), V G α 9 (kOZ σ) 18 [(0, .ref (α (55))), (1, .int w1), (4, .int w4), (5, .int w5)] [.int (b2i s0)] σ (F_X7_stays_18 σ w1 w4 w5 s0) := by
  intro w1 w4 w5 s0
  rw [F_X7_stays_18]
  refine V_istore hO (ls2 := [(6, .int (b2i s0)), (0, .ref (α (55))), (1, .int w1), (4, .int w4), (5, .int w5)]) dX7_stays_18 (by decide) rfl ?_
  refine V_iconst hO 0 dX7_stays_20 (by decide) ?_
  refine V_istore hO (ls2 := [(7, .int 0), (6, .int (b2i s0)), (0, .ref (α (55))), (1, .int w1), (4, .int w4), (5, .int w5)]) dX7_stays_21 (by decide) rfl ?_
  exact V_sub [2, 3, 4, 5, 1, 0] rfl (T_X7_stays_23 hO hR σ fuel w1 w4 w5 s0 (0 : Int32) )
set_option maxHeartbeats 4000000 in
set_option maxRecDepth 100000 in
theorem T_X7_stays {G : Gm} {α : Nat → Nat} (hO : Ok G α cX7_stays 9 RX7 1 21) (hR : Rt G α (some .boolean)) (p1 : Int32) (p2 : Int32) (p3 : Int32) (σ : Hp) : V G α 9 (kOZ σ) 0 [(0, .ref (α (55))), (1, .int p1), (2, .int p2), (3, .int p3)] [] σ (F_X7_stays p1 p2 p3 σ) := by
  rw [F_X7_stays]
  refine V_iload_n hO 2 dX7_stays_0 rfl rfl ?_
  refine V_istore hO (ls2 := [(4, .int p2), (0, .ref (α (55))), (1, .int p1), (2, .int p2), (3, .int p3)]) dX7_stays_1 (by decide) rfl ?_
  refine V_iload_n hO 4 dX7_stays_3 rfl rfl ?_
  refine V_istore hO (ls2 := [(5, .int p3), (4, .int p2), (0, .ref (α (55))), (1, .int p1), (2, .int p2), (3, .int p3)]) dX7_stays_4 (by decide) rfl ?_
  refine V_iload hO 1 dX7_stays_6 rfl ?_
  refine V_iload hO 0 dX7_stays_8 rfl ?_
  refine V_icmp_gt hO 17 dX7_stays_10 (by decide) ?_ ?_
  · refine V_iconst hO 0 dX7_stays_17 (by decide) ?_
    exact V_sub [2, 3, 1, 0] rfl (T_X7_stays_18 hO hR σ p1 p2 p3 false )
  · refine V_iconst hO 1 dX7_stays_13 (by decide) ?_
    refine V_goto hO 18 dX7_stays_14 (by decide) ?_
    exact V_sub [2, 3, 1, 0] rfl (T_X7_stays_18 hO hR σ p1 p2 p3 true )
set_option maxHeartbeats 4000000 in
set_option maxRecDepth 100000 in
theorem C_X7_stays (α : Nat → Nat) (p1 : Int32) (p2 : Int32) (p3 : Int32) (σ : Hp) : Ct yX7_stays cX7_stays 9 (some .boolean) 1 21 α [.ref (α (55)), .int p1, .int p2, .int p3] σ (kOZ σ (F_X7_stays p1 p2 p3 σ)) := ct_of_V (own := RX7) rfl (by decide +kernel) (Nat.le_of_ble_eq_true rfl) fun _ hO hR => T_X7_stays hO hR p1 p2 p3 σ
/-! X7_needed -/
noncomputable def F_X7_needed_58 (k38 : Int32 → Int32 → Int32 → Hp → (Option (Int32 × Hp))) (w1 : Int32) (w2 : Int32) (w3 : Int32) (s0 : Int32) (s1 : Int32) (h : Hp) : Option (Int32 × Hp) :=
  if inb w2 16 = true then
  (F_X7_stays s1 s0 (h.1 56 (Int32.toNatClampNeg w2)) h).bind fun v2 =>
  if v2 = true then
  some (w3, h)
  else
  k38 w1 w2 (w3 + 1) h
  else none
noncomputable def F_X7_needed_38  : Nat → Int32 → Int32 → Int32 → Hp → Option (Int32 × Hp)
  | 0, _, _, _, _ => none
  | n + 1, w1, w2, w3, h =>
    if (10 : Int32) ≤ w3 then
    some (((-1) : Int32), h)
    else
    if w1 = (1 : Int32) then
    F_X7_needed_58 (F_X7_needed_38 n) w1 w2 w3 ((2 : Int32) * w3) w1 h
    else
    F_X7_needed_58 (F_X7_needed_38 n) w1 w2 w3 w3 w1 h
noncomputable def F_X7_needed  (p1 : Int32) (p2 : Int32) (σ : Hp) : Option (Int32 × Hp) :=
  if (F_X7_isSquare p2 σ) = true then
  if (F_X7_in (Int32.toInt64 p1) (0 : Int64) (4 : Int64) σ) = true then
  (F_X7_areDays σ).bind fun q3 =>
  if q3.1 = true then
  F_X7_needed_38 fuel p1 p2 (1 : Int32) q3.2
  else
  some (((-103) : Int32), q3.2)
  else
  some (((-102) : Int32), σ)
  else
  some (((-101) : Int32), σ)
set_option maxHeartbeats 4000000 in
set_option maxRecDepth 100000 in
theorem T_X7_needed_58 {G : Gm} {α : Nat → Nat} (hO : Ok G α cX7_needed 4 RX7 4 88) (hR : Rt G α (some .int)) (k38 : Int32 → Int32 → Int32 → Hp → (Option (Int32 × Hp))) (hk38 : ∀ (w1 : Int32) (w2 : Int32) (w3 : Int32) (h : Hp), V G α 4 (kSI) 38 [(0, .ref (α (55))), (1, .int w1), (2, .int w2), (3, .int w3)] [] h (k38 w1 w2 w3 h)) : ∀ (w1 : Int32) (w2 : Int32) (w3 : Int32) (s0 : Int32) (s1 : Int32) (h : Hp), V G α 4 (kSI) 58 [(0, .ref (α (55))), (1, .int w1), (2, .int w2), (3, .int w3)] [.int s0, .int s1, .ref (α (55))] h (F_X7_needed_58 k38 w1 w2 w3 s0 s1 h) := by
  intro w1 w2 w3 s0 s1 h
  rw [F_X7_needed_58]
  refine V_aload_n hO 0 dX7_needed_58 rfl rfl ?_
  refine V_get hO (v := .ref (α (56))) fl_X7_7 (by decide) (fun _ _ => ce_55) rfl dX7_needed_59 ?_
  refine V_iload_n hO 2 dX7_needed_62 rfl rfl ?_
  refine V_chk rfl fun c1 => ?_
  refine V_iald hO (by decide) (fun _ _ => ce_56) (inb_in c1) dX7_needed_63 ?_
  refine V_callV hO ml_X7_180 (C_X7_stays α s1 s0 (h.1 56 (Int32.toNatClampNeg w2)) h) (by decide) (fun _ _ => ce_55) rfl rfl (rest := []) rfl rfl (Nat.le_of_ble_eq_true rfl) ⟨Nat.le_of_ble_eq_true rfl, Nat.le_of_ble_eq_true rfl⟩ dX7_needed_64 (kc_OZ rfl fun v2 => ?_)
  refine V_ifeqZ hO 72 dX7_needed_67 (by decide) ?_ ?_
  · refine V_iinc hO (ls2 := [(3, .int (w3 + 1)), (0, .ref (α (55))), (1, .int w1), (2, .int w2)]) (z := 1) 3 dX7_needed_72 rfl (by decide) (by decide) rfl ?_
    refine V_goto hO 38 dX7_needed_75 (by decide) ?_
    exact V_sub [1, 2, 3, 0] rfl (hk38 w1 w2 (w3 + 1) h )
  · refine V_iload_n hO 3 dX7_needed_70 rfl rfl ?_
    exact V_iret hO hR rfl dX7_needed_71
set_option maxHeartbeats 4000000 in
set_option maxRecDepth 100000 in
theorem T_X7_needed_38 {G : Gm} {α : Nat → Nat} (hO : Ok G α cX7_needed 4 RX7 4 88) (hR : Rt G α (some .int)) : ∀ (fuel : Nat) (w1 : Int32) (w2 : Int32) (w3 : Int32) (h : Hp), V G α 4 (kSI) 38 [(0, .ref (α (55))), (1, .int w1), (2, .int w2), (3, .int w3)] [] h (F_X7_needed_38 fuel w1 w2 w3 h) := by
  intro fuel
  induction fuel with
  | zero => intro w1 w2 w3 h; exact V_none rfl
  | succ n ih =>
    intro w1 w2 w3 h
    rw [F_X7_needed_38]
    refine V_iload_n hO 3 dX7_needed_38 rfl rfl ?_
    refine V_bipush hO 10 dX7_needed_39 (by decide) ?_
    refine V_icmp_ge hO 78 dX7_needed_41 (by decide) ?_ ?_
    · refine V_iconst hO (-1) dX7_needed_78 (by decide) ?_
      exact V_iret hO hR rfl dX7_needed_79
    · refine V_aload_n hO 0 dX7_needed_44 rfl rfl ?_
      refine V_iload_n hO 1 dX7_needed_45 rfl rfl ?_
      refine V_iload_n hO 1 dX7_needed_46 rfl rfl ?_
      refine V_iconst hO 1 dX7_needed_47 (by decide) ?_
      refine V_icmp_ne hO 57 dX7_needed_48 (by decide) ?_ ?_
      · refine V_iload_n hO 3 dX7_needed_57 rfl rfl ?_
        exact V_sub [0, 1, 2, 3] rfl (T_X7_needed_58 hO hR (F_X7_needed_38 n) ih w1 w2 w3 w3 w1 h )
      · refine V_iconst hO 2 dX7_needed_51 (by decide) ?_
        refine V_iload_n hO 3 dX7_needed_52 rfl rfl ?_
        refine V_imul hO dX7_needed_53 ?_
        refine V_goto hO 58 dX7_needed_54 (by decide) ?_
        exact V_sub [0, 1, 2, 3] rfl (T_X7_needed_58 hO hR (F_X7_needed_38 n) ih w1 w2 w3 ((2 : Int32) * w3) w1 h )
set_option maxHeartbeats 4000000 in
set_option maxRecDepth 100000 in
theorem T_X7_needed {G : Gm} {α : Nat → Nat} (hO : Ok G α cX7_needed 4 RX7 4 88) (hR : Rt G α (some .int)) (p1 : Int32) (p2 : Int32) (σ : Hp) : V G α 4 (kSI) 0 [(0, .ref (α (55))), (1, .int p1), (2, .int p2)] [] σ (F_X7_needed p1 p2 σ) := by
  rw [F_X7_needed]
  refine V_aload_n hO 0 dX7_needed_0 rfl rfl ?_
  refine V_iload_n hO 2 dX7_needed_1 rfl rfl ?_
  refine V_callV hO ml_X7_98 (C_X7_isSquare α p2 σ) (by decide) (fun _ _ => ce_55) rfl rfl (rest := []) rfl rfl (Nat.le_of_ble_eq_true rfl) ⟨Nat.le_of_ble_eq_true rfl, Nat.le_of_ble_eq_true rfl⟩ dX7_needed_2 (kc_Z ?_)
  refine V_ifneZ hO 11 dX7_needed_5 (by decide) ?_ ?_
  · refine V_iload_n hO 1 dX7_needed_11 rfl rfl ?_
    refine V_i2l hO dX7_needed_12 ?_
    refine V_lconst hO 0 dX7_needed_13 (by decide) ?_
    refine V_ldc2 hO (v := 4) dX7_needed_14 cn_X7_86 ?_
    refine V_callS hO ml_X7_75 (C_X7_in α (Int32.toInt64 p1) (0 : Int64) (4 : Int64) σ) (rest := []) rfl rfl (Nat.le_of_ble_eq_true rfl) ⟨Nat.le_of_ble_eq_true rfl, Nat.le_of_ble_eq_true rfl⟩ dX7_needed_17 (kc_Z ?_)
    refine V_ifneZ hO 26 dX7_needed_20 (by decide) ?_ ?_
    · refine V_aload_n hO 0 dX7_needed_26 rfl rfl ?_
      refine V_callV hO ml_X7_169 (C_X7_areDays α σ) (by decide) (fun _ _ => ce_55) rfl rfl (rest := []) rfl rfl (Nat.le_of_ble_eq_true rfl) ⟨Nat.le_of_ble_eq_true rfl, Nat.le_of_ble_eq_true rfl⟩ dX7_needed_27 (kc_SZ rfl fun q3 => ?_)
      refine V_ifneZ hO 36 dX7_needed_30 (by decide) ?_ ?_
      · refine V_iconst hO 1 dX7_needed_36 (by decide) ?_
        refine V_istore_n hO (ls2 := [(3, .int 1), (0, .ref (α (55))), (1, .int p1), (2, .int p2)]) dX7_needed_37 rfl (by decide) rfl ?_
        exact V_sub [1, 2, 3, 0] rfl (T_X7_needed_38 hO hR fuel p1 p2 (1 : Int32) q3.2 )
      · refine V_bipush hO (-103) dX7_needed_33 (by decide) ?_
        exact V_iret hO hR rfl dX7_needed_35
    · refine V_bipush hO (-102) dX7_needed_23 (by decide) ?_
      exact V_iret hO hR rfl dX7_needed_25
  · refine V_bipush hO (-101) dX7_needed_8 (by decide) ?_
    exact V_iret hO hR rfl dX7_needed_10
set_option maxHeartbeats 4000000 in
set_option maxRecDepth 100000 in
theorem C_X7_needed (α : Nat → Nat) (p1 : Int32) (p2 : Int32) (σ : Hp) : Ct yX7_needed cX7_needed 4 (some .int) 4 88 α [.ref (α (55)), .int p1, .int p2] σ (kSI (F_X7_needed p1 p2 σ)) := ct_of_V (own := RX7) rfl (by decide +kernel) (Nat.le_of_ble_eq_true rfl) fun _ hO hR => T_X7_needed hO hR p1 p2 σ
/-! X7_bears -/
noncomputable def F_X7_bears_94  (w2 : Int32) (w3 : Int32) (h : Hp) : Option (Int32 × Hp) :=
  if (4 : Int32) ≤ w2 then
  some (w3, h)
  else
  some (((-1) : Int32), h)
noncomputable def F_X7_bears_87 (k30 : Int32 → Int32 → Hp → (Option (Int32 × Hp))) (w3 : Int32) (s0 : Int32) (h : Hp) : Option (Int32 × Hp) :=
  k30 s0 (w3 + 1) h
noncomputable def F_X7_bears_30  : Nat → Int32 → Int32 → Hp → Option (Int32 × Hp)
  | 0, _, _, _ => none
  | n + 1, w2, w3, h =>
    if (4 : Int32) ≤ w2 then
    F_X7_bears_94 w2 w3 h
    else
    if (h.1 55 10) ≤ w3 then
    F_X7_bears_94 w2 w3 h
    else
    if inb w3 12 = true then
    if (h.1 60 (Int32.toNatClampNeg w3)) = 0 then
    if inb w3 12 = true then
    F_X7_bears_87 (F_X7_bears_30 n) w3 (w2 + (h.1 61 (Int32.toNatClampNeg w3))) h
    else none
    else
    if inb w3 12 = true then
    if (h.1 60 (Int32.toNatClampNeg w3)) = (1 : Int32) then
    if inb w3 12 = true then
    F_X7_bears_87 (F_X7_bears_30 n) w3 (F_X7_less w2 (h.1 61 (Int32.toNatClampNeg w3)) h) h
    else none
    else
    F_X7_bears_87 (F_X7_bears_30 n) w3 w2 h
    else none
    else none
noncomputable def F_X7_bears  (p1 : Int32) (σ : Hp) : Option (Int32 × Hp) :=
  if (F_X7_isSquare p1 σ) = true then
  (F_X7_areDays σ).bind fun q5 =>
  if q5.1 = true then
  if inb p1 16 = true then
  lt (q5.2.1 56 (Int32.toNatClampNeg p1)) fun v7 =>
  F_X7_bears_30 fuel v7 (0 : Int32) q5.2
  else none
  else
  some (((-103) : Int32), q5.2)
  else
  some (((-101) : Int32), σ)
set_option maxHeartbeats 4000000 in
set_option maxRecDepth 100000 in
theorem T_X7_bears_94 {G : Gm} {α : Nat → Nat} (hO : Ok G α cX7_bears 4 RX7 4 88) (hR : Rt G α (some .int)) : ∀ (w2 : Int32) (w3 : Int32) (h : Hp), V G α 4 (kSI) 94 [(2, .int w2), (3, .int w3)] [] h (F_X7_bears_94 w2 w3 h) := by
  intro w2 w3 h
  rw [F_X7_bears_94]
  refine V_iload_n hO 0 dX7_bears_94 rfl rfl ?_
  refine V_iconst hO 4 dX7_bears_95 (by decide) ?_
  refine V_icmp_ge hO 103 dX7_bears_96 (by decide) ?_ ?_
  · refine V_iload_n hO 1 dX7_bears_103 rfl rfl ?_
    exact V_iret hO hR rfl dX7_bears_104
  · refine V_iconst hO (-1) dX7_bears_99 (by decide) ?_
    refine V_goto hO 104 dX7_bears_100 (by decide) ?_
    exact V_iret hO hR rfl dX7_bears_104
set_option maxHeartbeats 4000000 in
set_option maxRecDepth 100000 in
theorem T_X7_bears_87 {G : Gm} {α : Nat → Nat} (hO : Ok G α cX7_bears 4 RX7 4 88) (hR : Rt G α (some .int)) (k30 : Int32 → Int32 → Hp → (Option (Int32 × Hp))) (hk30 : ∀ (w2 : Int32) (w3 : Int32) (h : Hp), V G α 4 (kSI) 30 [(0, .ref (α (55))), (2, .int w2), (3, .int w3)] [] h (k30 w2 w3 h)) : ∀ (w3 : Int32) (s0 : Int32) (h : Hp), V G α 4 (kSI) 87 [(0, .ref (α (55))), (3, .int w3)] [.int s0] h (F_X7_bears_87 k30 w3 s0 h) := by
  intro w3 s0 h
  rw [F_X7_bears_87]
  refine V_istore_n hO (ls2 := [(2, .int s0), (0, .ref (α (55))), (3, .int w3)]) dX7_bears_87 rfl (by decide) rfl ?_
  refine V_iinc hO (ls2 := [(3, .int (w3 + 1)), (2, .int s0), (0, .ref (α (55)))]) (z := 1) 2 dX7_bears_88 rfl (by decide) (by decide) rfl ?_
  refine V_goto hO 30 dX7_bears_91 (by decide) ?_
  exact V_sub [2, 1, 0] rfl (hk30 s0 (w3 + 1) h )
set_option maxHeartbeats 4000000 in
set_option maxRecDepth 100000 in
theorem T_X7_bears_30 {G : Gm} {α : Nat → Nat} (hO : Ok G α cX7_bears 4 RX7 4 88) (hR : Rt G α (some .int)) : ∀ (fuel : Nat) (w2 : Int32) (w3 : Int32) (h : Hp), V G α 4 (kSI) 30 [(0, .ref (α (55))), (2, .int w2), (3, .int w3)] [] h (F_X7_bears_30 fuel w2 w3 h) := by
  intro fuel
  induction fuel with
  | zero => intro w2 w3 h; exact V_none rfl
  | succ n ih =>
    intro w2 w3 h
    rw [F_X7_bears_30]
    refine V_iload_n hO 1 dX7_bears_30 rfl rfl ?_
    refine V_iconst hO 4 dX7_bears_31 (by decide) ?_
    refine V_icmp_ge hO 94 dX7_bears_32 (by decide) ?_ ?_
    · exact V_sub [1, 2] rfl (T_X7_bears_94 hO hR w2 w3 h )
    · refine V_iload_n hO 2 dX7_bears_35 rfl rfl ?_
      refine V_aload_n hO 0 dX7_bears_36 rfl rfl ?_
      refine V_get hO (v := .int (h.1 55 10)) fl_X7_144 (by decide) (fun _ _ => ce_55) rfl dX7_bears_37 ?_
      refine V_icmp_ge hO 94 dX7_bears_40 (by decide) ?_ ?_
      · exact V_sub [1, 2] rfl (T_X7_bears_94 hO hR w2 w3 h )
      · refine V_aload_n hO 0 dX7_bears_43 rfl rfl ?_
        refine V_get hO (v := .ref (α (60))) fl_X7_22 (by decide) (fun _ _ => ce_55) rfl dX7_bears_44 ?_
        refine V_iload_n hO 2 dX7_bears_47 rfl rfl ?_
        refine V_chk rfl fun c1 => ?_
        refine V_iald hO (by decide) (fun _ _ => ce_60) (inb_in c1) dX7_bears_48 ?_
        refine V_if_ne hO 63 dX7_bears_49 (by decide) ?_ ?_
        · refine V_aload_n hO 0 dX7_bears_63 rfl rfl ?_
          refine V_get hO (v := .ref (α (60))) fl_X7_22 (by decide) (fun _ _ => ce_55) rfl dX7_bears_64 ?_
          refine V_iload_n hO 2 dX7_bears_67 rfl rfl ?_
          refine V_chk rfl fun c2 => ?_
          refine V_iald hO (by decide) (fun _ _ => ce_60) (inb_in c2) dX7_bears_68 ?_
          refine V_iconst hO 1 dX7_bears_69 (by decide) ?_
          refine V_icmp_ne hO 86 dX7_bears_70 (by decide) ?_ ?_
          · refine V_iload_n hO 1 dX7_bears_86 rfl rfl ?_
            exact V_sub [0, 2] rfl (T_X7_bears_87 hO hR (F_X7_bears_30 n) ih w3 w2 h )
          · refine V_iload_n hO 1 dX7_bears_73 rfl rfl ?_
            refine V_aload_n hO 0 dX7_bears_74 rfl rfl ?_
            refine V_get hO (v := .ref (α (61))) fl_X7_25 (by decide) (fun _ _ => ce_55) rfl dX7_bears_75 ?_
            refine V_iload_n hO 2 dX7_bears_78 rfl rfl ?_
            refine V_chk rfl fun c3 => ?_
            refine V_iald hO (by decide) (fun _ _ => ce_61) (inb_in c3) dX7_bears_79 ?_
            refine V_callS hO ml_X7_160 (C_X7_less α w2 (h.1 61 (Int32.toNatClampNeg w3)) h) (rest := []) rfl rfl (Nat.le_of_ble_eq_true rfl) ⟨Nat.le_of_ble_eq_true rfl, Nat.le_of_ble_eq_true rfl⟩ dX7_bears_80 (kc_I ?_)
            refine V_goto hO 87 dX7_bears_83 (by decide) ?_
            exact V_sub [0, 2] rfl (T_X7_bears_87 hO hR (F_X7_bears_30 n) ih w3 (F_X7_less w2 (h.1 61 (Int32.toNatClampNeg w3)) h) h )
        · refine V_iload_n hO 1 dX7_bears_52 rfl rfl ?_
          refine V_aload_n hO 0 dX7_bears_53 rfl rfl ?_
          refine V_get hO (v := .ref (α (61))) fl_X7_25 (by decide) (fun _ _ => ce_55) rfl dX7_bears_54 ?_
          refine V_iload_n hO 2 dX7_bears_57 rfl rfl ?_
          refine V_chk rfl fun c4 => ?_
          refine V_iald hO (by decide) (fun _ _ => ce_61) (inb_in c4) dX7_bears_58 ?_
          refine V_iadd hO dX7_bears_59 ?_
          refine V_goto hO 87 dX7_bears_60 (by decide) ?_
          exact V_sub [0, 2] rfl (T_X7_bears_87 hO hR (F_X7_bears_30 n) ih w3 (w2 + (h.1 61 (Int32.toNatClampNeg w3))) h )
set_option maxHeartbeats 4000000 in
set_option maxRecDepth 100000 in
theorem T_X7_bears {G : Gm} {α : Nat → Nat} (hO : Ok G α cX7_bears 4 RX7 4 88) (hR : Rt G α (some .int)) (p1 : Int32) (σ : Hp) : V G α 4 (kSI) 0 [(0, .ref (α (55))), (1, .int p1)] [] σ (F_X7_bears p1 σ) := by
  rw [F_X7_bears]
  refine V_aload_n hO 0 dX7_bears_0 rfl rfl ?_
  refine V_iload_n hO 1 dX7_bears_1 rfl rfl ?_
  refine V_callV hO ml_X7_98 (C_X7_isSquare α p1 σ) (by decide) (fun _ _ => ce_55) rfl rfl (rest := []) rfl rfl (Nat.le_of_ble_eq_true rfl) ⟨Nat.le_of_ble_eq_true rfl, Nat.le_of_ble_eq_true rfl⟩ dX7_bears_2 (kc_Z ?_)
  refine V_ifneZ hO 11 dX7_bears_5 (by decide) ?_ ?_
  · refine V_aload_n hO 0 dX7_bears_11 rfl rfl ?_
    refine V_callV hO ml_X7_169 (C_X7_areDays α σ) (by decide) (fun _ _ => ce_55) rfl rfl (rest := []) rfl rfl (Nat.le_of_ble_eq_true rfl) ⟨Nat.le_of_ble_eq_true rfl, Nat.le_of_ble_eq_true rfl⟩ dX7_bears_12 (kc_SZ rfl fun q5 => ?_)
    refine V_ifneZ hO 21 dX7_bears_15 (by decide) ?_ ?_
    · refine V_aload_n hO 0 dX7_bears_21 rfl rfl ?_
      refine V_get hO (v := .ref (α (56))) fl_X7_7 (by decide) (fun _ _ => ce_55) rfl dX7_bears_22 ?_
      refine V_iload_n hO 1 dX7_bears_25 rfl rfl ?_
      refine V_chk rfl fun c6 => ?_
      refine V_iald hO (by decide) (fun _ _ => ce_56) (inb_in c6) dX7_bears_26 ?_
      refine V_istore_nN hO (ls2 := fun v7 => [(2, .int v7), (0, .ref (α (55))), (1, .int p1)]) dX7_bears_27 rfl (by decide) (fun _ => rfl) (fun v7 => ?_)
      refine V_iconst hO 0 dX7_bears_28 (by decide) ?_
      refine V_istore_n hO (ls2 := [(3, .int 0), (2, .int v7), (0, .ref (α (55))), (1, .int p1)]) dX7_bears_29 rfl (by decide) rfl ?_
      exact V_sub [2, 1, 0] rfl (T_X7_bears_30 hO hR fuel v7 (0 : Int32) q5.2 )
    · refine V_bipush hO (-103) dX7_bears_18 (by decide) ?_
      exact V_iret hO hR rfl dX7_bears_20
  · refine V_bipush hO (-101) dX7_bears_8 (by decide) ?_
    exact V_iret hO hR rfl dX7_bears_10
set_option maxHeartbeats 4000000 in
set_option maxRecDepth 100000 in
theorem C_X7_bears (α : Nat → Nat) (p1 : Int32) (σ : Hp) : Ct yX7_bears cX7_bears 4 (some .int) 4 88 α [.ref (α (55)), .int p1] σ (kSI (F_X7_bears p1 σ)) := ct_of_V (own := RX7) rfl (by decide +kernel) (Nat.le_of_ble_eq_true rfl) fun _ hO hR => T_X7_bears hO hR p1 σ
/-! X7_owesOf -/
noncomputable def F_X7_owesOf_85 (σ : Hp) (k6 : Int32 → Int32 → Bool → Int32 → Int32 → (Option Int32)) (w1 : Int32) (w2 : Int32) (w3 : Bool) (w5 : Int32) (s0 : Int32) (s1 : Int32) : Option Int32 :=
  lt (s1 + s0) fun v1 =>
  k6 w1 w2 w3 v1 (w5 + 1)
noncomputable def F_X7_owesOf_66 (σ : Hp) (k6 : Int32 → Int32 → Bool → Int32 → Int32 → (Option Int32)) (w1 : Int32) (w2 : Int32) (w3 : Bool) (w4 : Int32) (w5 : Int32) (s0 : Bool) : Option Int32 :=
  if s0 = true then
  (F_X7_worthOf w5 σ).bind fun v2 =>
  F_X7_owesOf_85 σ k6 w1 w2 w3 w5 v2 w4
  else
  F_X7_owesOf_85 σ k6 w1 w2 w3 w5 (0 : Int32) w4
noncomputable def F_X7_owesOf_6 (σ : Hp) : Nat → Int32 → Int32 → Bool → Int32 → Int32 → Option Int32
  | 0, _, _, _, _, _ => none
  | n + 1, w1, w2, w3, w4, w5 =>
    if (σ.1 55 6) ≤ w5 then
    some w4
    else
    if inb (((8 : Int32) * w5) + (2 : Int32)) 80 = true then
    if (σ.1 58 (Int32.toNatClampNeg (((8 : Int32) * w5) + (2 : Int32)))) = w1 then
    if inb (((8 : Int32) * w5) + (3 : Int32)) 80 = true then
    if (σ.1 58 (Int32.toNatClampNeg (((8 : Int32) * w5) + (3 : Int32)))) = w2 then
    if w3 = true then
    (F_X7_lookOf w5 σ).bind fun v5 =>
    if v5 ≤ (1 : Int32) then
    F_X7_owesOf_66 σ (F_X7_owesOf_6 σ n) w1 w2 w3 w4 w5 false
    else
    F_X7_owesOf_66 σ (F_X7_owesOf_6 σ n) w1 w2 w3 w4 w5 true
    else
    F_X7_owesOf_66 σ (F_X7_owesOf_6 σ n) w1 w2 w3 w4 w5 true
    else
    F_X7_owesOf_66 σ (F_X7_owesOf_6 σ n) w1 w2 w3 w4 w5 false
    else none
    else
    F_X7_owesOf_66 σ (F_X7_owesOf_6 σ n) w1 w2 w3 w4 w5 false
    else none
noncomputable def F_X7_owesOf  (p1 : Int32) (p2 : Int32) (p3 : Bool) (σ : Hp) : Option Int32 :=
  F_X7_owesOf_6 σ fuel p1 p2 p3 (0 : Int32) (0 : Int32)
set_option maxHeartbeats 4000000 in
set_option maxRecDepth 100000 in
theorem T_X7_owesOf_85 {G : Gm} {α : Nat → Nat} (hO : Ok G α cX7_owesOf 7 RX7 1 25) (hR : Rt G α (some .int)) (σ : Hp) (k6 : Int32 → Int32 → Bool → Int32 → Int32 → (Option Int32)) (hk6 : ∀ (w1 : Int32) (w2 : Int32) (w3 : Bool) (w4 : Int32) (w5 : Int32), V G α 7 (kOI σ) 6 [(0, .ref (α (55))), (1, .int w1), (2, .int w2), (3, .int (b2i w3)), (4, .int w4), (5, .int w5)] [] σ (k6 w1 w2 w3 w4 w5)) : ∀ (w1 : Int32) (w2 : Int32) (w3 : Bool) (w5 : Int32) (s0 : Int32) (s1 : Int32), V G α 7 (kOI σ) 85 [(0, .ref (α (55))), (1, .int w1), (2, .int w2), (3, .int (b2i w3)), (5, .int w5)] [.int s0, .int s1] σ (F_X7_owesOf_85 σ k6 w1 w2 w3 w5 s0 s1) := by
  intro w1 w2 w3 w5 s0 s1
  rw [F_X7_owesOf_85]
  refine V_iadd hO dX7_owesOf_85 ?_
  refine V_istoreN hO (ls2 := fun v1 => [(4, .int v1), (0, .ref (α (55))), (1, .int w1), (2, .int w2), (3, .int (b2i w3)), (5, .int w5)]) dX7_owesOf_86 (by decide) (fun _ => rfl) (fun v1 => ?_)
  refine V_iinc hO (ls2 := [(5, .int (w5 + 1)), (4, .int v1), (0, .ref (α (55))), (1, .int w1), (2, .int w2), (3, .int (b2i w3))]) (z := 1) 5 dX7_owesOf_88 rfl (by decide) (by decide) rfl ?_
  refine V_goto hO 6 dX7_owesOf_91 (by decide) ?_
  exact V_sub [2, 3, 4, 5, 1, 0] rfl (hk6 w1 w2 w3 v1 (w5 + 1) )
set_option maxHeartbeats 4000000 in
set_option maxRecDepth 100000 in
theorem T_X7_owesOf_66 {G : Gm} {α : Nat → Nat} (hO : Ok G α cX7_owesOf 7 RX7 1 25) (hR : Rt G α (some .int)) (σ : Hp) (k6 : Int32 → Int32 → Bool → Int32 → Int32 → (Option Int32)) (hk6 : ∀ (w1 : Int32) (w2 : Int32) (w3 : Bool) (w4 : Int32) (w5 : Int32), V G α 7 (kOI σ) 6 [(0, .ref (α (55))), (1, .int w1), (2, .int w2), (3, .int (b2i w3)), (4, .int w4), (5, .int w5)] [] σ (k6 w1 w2 w3 w4 w5)) : ∀ (w1 : Int32) (w2 : Int32) (w3 : Bool) (w4 : Int32) (w5 : Int32) (s0 : Bool), V G α 7 (kOI σ) 66 [(0, .ref (α (55))), (1, .int w1), (2, .int w2), (3, .int (b2i w3)), (4, .int w4), (5, .int w5)] [.int (b2i s0)] σ (F_X7_owesOf_66 σ k6 w1 w2 w3 w4 w5 s0) := by
  intro w1 w2 w3 w4 w5 s0
  rw [F_X7_owesOf_66]
  refine V_istore hO (ls2 := [(6, .int (b2i s0)), (0, .ref (α (55))), (1, .int w1), (2, .int w2), (3, .int (b2i w3)), (4, .int w4), (5, .int w5)]) dX7_owesOf_66 (by decide) rfl ?_
  refine V_iload hO 5 dX7_owesOf_68 rfl ?_
  refine V_iload hO 0 dX7_owesOf_70 rfl ?_
  refine V_ifeqZ hO 84 dX7_owesOf_72 (by decide) ?_ ?_
  · refine V_iconst hO 0 dX7_owesOf_84 (by decide) ?_
    exact V_sub [1, 2, 3, 4, 6] rfl (T_X7_owesOf_85 hO hR σ k6 hk6 w1 w2 w3 w5 (0 : Int32) w4 )
  · refine V_aload_n hO 1 dX7_owesOf_75 rfl rfl ?_
    refine V_iload hO 6 dX7_owesOf_76 rfl ?_
    refine V_callV hO ml_X7_123 (C_X7_worthOf α w5 σ) (by decide) (fun _ _ => ce_55) rfl rfl (rest := [.int w4]) rfl rfl (Nat.le_of_ble_eq_true rfl) ⟨Nat.le_of_ble_eq_true rfl, Nat.le_of_ble_eq_true rfl⟩ dX7_owesOf_78 (kc_OI rfl fun v2 => ?_)
    refine V_goto hO 85 dX7_owesOf_81 (by decide) ?_
    exact V_sub [1, 2, 3, 4, 6] rfl (T_X7_owesOf_85 hO hR σ k6 hk6 w1 w2 w3 w5 v2 w4 )
set_option maxHeartbeats 4000000 in
set_option maxRecDepth 100000 in
theorem T_X7_owesOf_6 {G : Gm} {α : Nat → Nat} (hO : Ok G α cX7_owesOf 7 RX7 1 25) (hR : Rt G α (some .int)) (σ : Hp) : ∀ (fuel : Nat) (w1 : Int32) (w2 : Int32) (w3 : Bool) (w4 : Int32) (w5 : Int32), V G α 7 (kOI σ) 6 [(0, .ref (α (55))), (1, .int w1), (2, .int w2), (3, .int (b2i w3)), (4, .int w4), (5, .int w5)] [] σ (F_X7_owesOf_6 σ fuel w1 w2 w3 w4 w5) := by
  intro fuel
  induction fuel with
  | zero => intro w1 w2 w3 w4 w5; exact V_none rfl
  | succ n ih =>
    intro w1 w2 w3 w4 w5
    rw [F_X7_owesOf_6]
    refine V_iload hO 5 dX7_owesOf_6 rfl ?_
    refine V_aload_n hO 0 dX7_owesOf_8 rfl rfl ?_
    refine V_get hO (v := .int (σ.1 55 6)) fl_X7_79 (by decide) (fun _ _ => ce_55) rfl dX7_owesOf_9 ?_
    refine V_icmp_ge hO 94 dX7_owesOf_12 (by decide) ?_ ?_
    · refine V_iload hO 4 dX7_owesOf_94 rfl ?_
      exact V_iret hO hR rfl dX7_owesOf_96
    · refine V_aload_n hO 0 dX7_owesOf_15 rfl rfl ?_
      refine V_get hO (v := .ref (α (58))) fl_X7_16 (by decide) (fun _ _ => ce_55) rfl dX7_owesOf_16 ?_
      refine V_bipush hO 8 dX7_owesOf_19 (by decide) ?_
      refine V_iload hO 5 dX7_owesOf_21 rfl ?_
      refine V_imul hO dX7_owesOf_23 ?_
      refine V_iconst hO 2 dX7_owesOf_24 (by decide) ?_
      refine V_iadd hO dX7_owesOf_25 ?_
      refine V_chk rfl fun c3 => ?_
      refine V_iald hO (by decide) (fun _ _ => ce_58) (inb_in c3) dX7_owesOf_26 ?_
      refine V_iload_n hO 1 dX7_owesOf_27 rfl rfl ?_
      refine V_icmp_ne hO 65 dX7_owesOf_28 (by decide) ?_ ?_
      · refine V_iconst hO 0 dX7_owesOf_65 (by decide) ?_
        exact V_sub [0, 1, 2, 3, 4, 5] rfl (T_X7_owesOf_66 hO hR σ (F_X7_owesOf_6 σ n) ih w1 w2 w3 w4 w5 false )
      · refine V_aload_n hO 0 dX7_owesOf_31 rfl rfl ?_
        refine V_get hO (v := .ref (α (58))) fl_X7_16 (by decide) (fun _ _ => ce_55) rfl dX7_owesOf_32 ?_
        refine V_bipush hO 8 dX7_owesOf_35 (by decide) ?_
        refine V_iload hO 5 dX7_owesOf_37 rfl ?_
        refine V_imul hO dX7_owesOf_39 ?_
        refine V_iconst hO 3 dX7_owesOf_40 (by decide) ?_
        refine V_iadd hO dX7_owesOf_41 ?_
        refine V_chk rfl fun c4 => ?_
        refine V_iald hO (by decide) (fun _ _ => ce_58) (inb_in c4) dX7_owesOf_42 ?_
        refine V_iload_n hO 2 dX7_owesOf_43 rfl rfl ?_
        refine V_icmp_ne hO 65 dX7_owesOf_44 (by decide) ?_ ?_
        · refine V_iconst hO 0 dX7_owesOf_65 (by decide) ?_
          exact V_sub [0, 1, 2, 3, 4, 5] rfl (T_X7_owesOf_66 hO hR σ (F_X7_owesOf_6 σ n) ih w1 w2 w3 w4 w5 false )
        · refine V_iload_n hO 3 dX7_owesOf_47 rfl rfl ?_
          refine V_ifeqZ hO 61 dX7_owesOf_48 (by decide) ?_ ?_
          · refine V_iconst hO 1 dX7_owesOf_61 (by decide) ?_
            refine V_goto hO 66 dX7_owesOf_62 (by decide) ?_
            exact V_sub [0, 1, 2, 3, 4, 5] rfl (T_X7_owesOf_66 hO hR σ (F_X7_owesOf_6 σ n) ih w1 w2 w3 w4 w5 true )
          · refine V_aload_n hO 0 dX7_owesOf_51 rfl rfl ?_
            refine V_iload hO 5 dX7_owesOf_52 rfl ?_
            refine V_callV hO ml_X7_126 (C_X7_lookOf α w5 σ) (by decide) (fun _ _ => ce_55) rfl rfl (rest := []) rfl rfl (Nat.le_of_ble_eq_true rfl) ⟨Nat.le_of_ble_eq_true rfl, Nat.le_of_ble_eq_true rfl⟩ dX7_owesOf_54 (kc_OI rfl fun v5 => ?_)
            refine V_iconst hO 1 dX7_owesOf_57 (by decide) ?_
            refine V_icmp_le hO 65 dX7_owesOf_58 (by decide) ?_ ?_
            · refine V_iconst hO 0 dX7_owesOf_65 (by decide) ?_
              exact V_sub [0, 1, 2, 3, 4, 5] rfl (T_X7_owesOf_66 hO hR σ (F_X7_owesOf_6 σ n) ih w1 w2 w3 w4 w5 false )
            · refine V_iconst hO 1 dX7_owesOf_61 (by decide) ?_
              refine V_goto hO 66 dX7_owesOf_62 (by decide) ?_
              exact V_sub [0, 1, 2, 3, 4, 5] rfl (T_X7_owesOf_66 hO hR σ (F_X7_owesOf_6 σ n) ih w1 w2 w3 w4 w5 true )
set_option maxHeartbeats 4000000 in
set_option maxRecDepth 100000 in
theorem T_X7_owesOf {G : Gm} {α : Nat → Nat} (hO : Ok G α cX7_owesOf 7 RX7 1 25) (hR : Rt G α (some .int)) (p1 : Int32) (p2 : Int32) (p3 : Bool) (σ : Hp) : V G α 7 (kOI σ) 0 [(0, .ref (α (55))), (1, .int p1), (2, .int p2), (3, .int (b2i p3))] [] σ (F_X7_owesOf p1 p2 p3 σ) := by
  rw [F_X7_owesOf]
  refine V_iconst hO 0 dX7_owesOf_0 (by decide) ?_
  refine V_istore hO (ls2 := [(4, .int 0), (0, .ref (α (55))), (1, .int p1), (2, .int p2), (3, .int (b2i p3))]) dX7_owesOf_1 (by decide) rfl ?_
  refine V_iconst hO 0 dX7_owesOf_3 (by decide) ?_
  refine V_istore hO (ls2 := [(5, .int 0), (4, .int 0), (0, .ref (α (55))), (1, .int p1), (2, .int p2), (3, .int (b2i p3))]) dX7_owesOf_4 (by decide) rfl ?_
  exact V_sub [2, 3, 4, 5, 1, 0] rfl (T_X7_owesOf_6 hO hR σ fuel p1 p2 p3 (0 : Int32) (0 : Int32) )
set_option maxHeartbeats 4000000 in
set_option maxRecDepth 100000 in
theorem C_X7_owesOf (α : Nat → Nat) (p1 : Int32) (p2 : Int32) (p3 : Bool) (σ : Hp) : Ct yX7_owesOf cX7_owesOf 7 (some .int) 1 25 α [.ref (α (55)), .int p1, .int p2, .int (b2i p3)] σ (kOI σ (F_X7_owesOf p1 p2 p3 σ)) := ct_of_V (own := RX7) rfl (by decide +kernel) (Nat.le_of_ble_eq_true rfl) fun _ hO hR => T_X7_owesOf hO hR p1 p2 p3 σ
