/-! X7_square -/
noncomputable def F_X7_square  (p1 : Int32) (p2 : Int32) (σ : Hp) : Option Int32 :=
  if (F_X7_isSquare p1 σ) = true then
  (F_X7_tellSquare p1 p2 σ).bind fun v1 =>
  some v1
  else
  some ((-101) : Int32)
set_option maxHeartbeats 4000000 in
set_option maxRecDepth 100000 in
theorem T_X7_square {G : Gm} {α : Nat → Nat} (hO : Ok G α cX7_square 3 RX7 3 66) (hR : Rt G α (some .int)) (p1 : Int32) (p2 : Int32) (σ : Hp) : V G α 3 (kOI σ) 0 [(0, .ref (α (55))), (1, .int p1), (2, .int p2)] [] σ (F_X7_square p1 p2 σ) := by
  rw [F_X7_square]
  refine V_aload_n hO 0 dX7_square_0 rfl rfl ?_
  refine V_iload_n hO 1 dX7_square_1 rfl rfl ?_
  refine V_callV hO ml_X7_98 (C_X7_isSquare α p1 σ) (by decide) (fun _ _ => ce_55) rfl rfl (rest := []) rfl rfl (Nat.le_of_ble_eq_true rfl) ⟨Nat.le_of_ble_eq_true rfl, Nat.le_of_ble_eq_true rfl⟩ dX7_square_2 (kc_Z ?_)
  refine V_ifeqZ hO 17 dX7_square_5 (by decide) ?_ ?_
  · refine V_bipush hO (-101) dX7_square_17 (by decide) ?_
    exact V_iret hO hR rfl dX7_square_19
  · refine V_aload_n hO 0 dX7_square_8 rfl rfl ?_
    refine V_iload_n hO 1 dX7_square_9 rfl rfl ?_
    refine V_iload_n hO 2 dX7_square_10 rfl rfl ?_
    refine V_callV hO ml_X7_110 (C_X7_tellSquare α p1 p2 σ) (by decide) (fun _ _ => ce_55) rfl rfl (rest := []) rfl rfl (Nat.le_of_ble_eq_true rfl) ⟨Nat.le_of_ble_eq_true rfl, Nat.le_of_ble_eq_true rfl⟩ dX7_square_11 (kc_OI rfl fun v1 => ?_)
    refine V_goto hO 19 dX7_square_14 (by decide) ?_
    exact V_iret hO hR rfl dX7_square_19
set_option maxHeartbeats 4000000 in
set_option maxRecDepth 100000 in
theorem C_X7_square (α : Nat → Nat) (p1 : Int32) (p2 : Int32) (σ : Hp) : Ct yX7_square cX7_square 3 (some .int) 3 66 α [.ref (α (55)), .int p1, .int p2] σ (kOI σ (F_X7_square p1 p2 σ)) := ct_of_V (own := RX7) rfl (by decide +kernel) (Nat.le_of_ble_eq_true rfl) fun _ hO hR => T_X7_square hO hR p1 p2 σ
/-! X7_lose -/
noncomputable def F_X7_lose  (p1 : Int32) (σ : Hp) : Option Hp :=
  if inb (((8 : Int32) * p1) + (6 : Int32)) 80 = true then
  lt (up σ 58 (Int32.toNatClampNeg (((8 : Int32) * p1) + (6 : Int32))) (0 : Int32)) fun h2 =>
  if inb (((8 : Int32) * p1) + (5 : Int32)) 80 = true then
  lt (up h2 58 (Int32.toNatClampNeg (((8 : Int32) * p1) + (5 : Int32))) (0 : Int32)) fun h4 =>
  some h4
  else none
  else none
set_option maxHeartbeats 4000000 in
set_option maxRecDepth 100000 in
theorem T_X7_lose {G : Gm} {α : Nat → Nat} (hO : Ok G α cX7_lose 2 RX7 0 0) (hR : Rt G α none) (p1 : Int32) (σ : Hp) : V G α 2 (kSV) 0 [(0, .ref (α (55))), (1, .int p1)] [] σ (F_X7_lose p1 σ) := by
  rw [F_X7_lose]
  refine V_aload_n hO 0 dX7_lose_0 rfl rfl ?_
  refine V_get hO (v := .ref (α (58))) fl_X7_16 (by decide) (fun _ _ => ce_55) rfl dX7_lose_1 ?_
  refine V_bipush hO 8 dX7_lose_4 (by decide) ?_
  refine V_iload_n hO 1 dX7_lose_6 rfl rfl ?_
  refine V_imul hO dX7_lose_7 ?_
  refine V_bipush hO 6 dX7_lose_8 (by decide) ?_
  refine V_iadd hO dX7_lose_10 ?_
  refine V_iconst hO 0 dX7_lose_11 (by decide) ?_
  refine V_chk rfl fun c1 => ?_
  refine V_iast hO (by decide) (fun _ _ _ => ce_58) (inb_in c1) dX7_lose_12 (V_name fun h2 => ?_)
  refine V_aload_n hO 0 dX7_lose_13 rfl rfl ?_
  refine V_get hO (v := .ref (α (58))) fl_X7_16 (by decide) (fun _ _ => ce_55) rfl dX7_lose_14 ?_
  refine V_bipush hO 8 dX7_lose_17 (by decide) ?_
  refine V_iload_n hO 1 dX7_lose_19 rfl rfl ?_
  refine V_imul hO dX7_lose_20 ?_
  refine V_iconst hO 5 dX7_lose_21 (by decide) ?_
  refine V_iadd hO dX7_lose_22 ?_
  refine V_iconst hO 0 dX7_lose_23 (by decide) ?_
  refine V_chk rfl fun c3 => ?_
  refine V_iast hO (by decide) (fun _ _ _ => ce_58) (inb_in c3) dX7_lose_24 (V_name fun h4 => ?_)
  exact V_vret hO hR rfl dX7_lose_25
set_option maxHeartbeats 4000000 in
set_option maxRecDepth 100000 in
theorem C_X7_lose (α : Nat → Nat) (p1 : Int32) (σ : Hp) : Ct yX7_lose cX7_lose 2 none 0 0 α [.ref (α (55)), .int p1] σ (kSV (F_X7_lose p1 σ)) := ct_of_V (own := RX7) rfl (by decide +kernel) (Nat.le_of_ble_eq_true rfl) fun _ hO hR => T_X7_lose hO hR p1 σ
/-! X7_fish -/
noncomputable def F_X7_fish_67 (k31 : Int32 → Int32 → Int32 → Hp → (Option (Int32 × Hp))) (w1 : Int32) (w2 : Int32) (w3 : Int32) (h : Hp) : Option (Int32 × Hp) :=
  k31 w1 w2 (w3 + 1) h
noncomputable def F_X7_fish_31  : Nat → Int32 → Int32 → Int32 → Hp → Option (Int32 × Hp)
  | 0, _, _, _, _ => none
  | n + 1, w1, w2, w3, h =>
    if (h.1 55 6) ≤ w3 then
    if inb w1 16 = true then
    lt (up h 56 (Int32.toNatClampNeg w1) (0 : Int32)) fun h2 =>
    some (w2, h2)
    else none
    else
    (F_X7_isThere w3 h).bind fun v3 =>
    if v3 = true then
    if inb (((8 : Int32) * w3) + (1 : Int32)) 80 = true then
    if (h.1 58 (Int32.toNatClampNeg (((8 : Int32) * w3) + (1 : Int32)))) = w1 then
    (F_X7_lose w3 h).bind fun q5 =>
    F_X7_fish_67 (F_X7_fish_31 n) w1 w2 w3 q5
    else
    F_X7_fish_67 (F_X7_fish_31 n) w1 w2 w3 h
    else none
    else
    F_X7_fish_67 (F_X7_fish_31 n) w1 w2 w3 h
noncomputable def F_X7_fish  (p1 : Int32) (σ : Hp) : Option (Int32 × Hp) :=
  if (F_X7_isSquare p1 σ) = true then
  if inb p1 16 = true then
  if (σ.1 56 (Int32.toNatClampNeg p1)) = 0 then
  some (((-103) : Int32), σ)
  else
  (F_X7_thereIn p1 σ).bind fun v7 =>
  F_X7_fish_31 fuel p1 v7 (0 : Int32) σ
  else none
  else
  some (((-101) : Int32), σ)
set_option maxHeartbeats 4000000 in
set_option maxRecDepth 100000 in
theorem T_X7_fish_67 {G : Gm} {α : Nat → Nat} (hO : Ok G α cX7_fish 4 RX7 2 46) (hR : Rt G α (some .int)) (k31 : Int32 → Int32 → Int32 → Hp → (Option (Int32 × Hp))) (hk31 : ∀ (w1 : Int32) (w2 : Int32) (w3 : Int32) (h : Hp), V G α 4 (kSI) 31 [(0, .ref (α (55))), (1, .int w1), (2, .int w2), (3, .int w3)] [] h (k31 w1 w2 w3 h)) : ∀ (w1 : Int32) (w2 : Int32) (w3 : Int32) (h : Hp), V G α 4 (kSI) 67 [(0, .ref (α (55))), (1, .int w1), (2, .int w2), (3, .int w3)] [] h (F_X7_fish_67 k31 w1 w2 w3 h) := by
  intro w1 w2 w3 h
  rw [F_X7_fish_67]
  refine V_iinc hO (ls2 := [(3, .int (w3 + 1)), (0, .ref (α (55))), (1, .int w1), (2, .int w2)]) (z := 1) 3 dX7_fish_67 rfl (by decide) (by decide) rfl ?_
  refine V_goto hO 31 dX7_fish_70 (by decide) ?_
  exact V_sub [1, 2, 3, 0] rfl (hk31 w1 w2 (w3 + 1) h )
set_option maxHeartbeats 4000000 in
set_option maxRecDepth 100000 in
theorem T_X7_fish_31 {G : Gm} {α : Nat → Nat} (hO : Ok G α cX7_fish 4 RX7 2 46) (hR : Rt G α (some .int)) : ∀ (fuel : Nat) (w1 : Int32) (w2 : Int32) (w3 : Int32) (h : Hp), V G α 4 (kSI) 31 [(0, .ref (α (55))), (1, .int w1), (2, .int w2), (3, .int w3)] [] h (F_X7_fish_31 fuel w1 w2 w3 h) := by
  intro fuel
  induction fuel with
  | zero => intro w1 w2 w3 h; exact V_none rfl
  | succ n ih =>
    intro w1 w2 w3 h
    rw [F_X7_fish_31]
    refine V_iload_n hO 3 dX7_fish_31 rfl rfl ?_
    refine V_aload_n hO 0 dX7_fish_32 rfl rfl ?_
    refine V_get hO (v := .int (h.1 55 6)) fl_X7_79 (by decide) (fun _ _ => ce_55) rfl dX7_fish_33 ?_
    refine V_icmp_ge hO 73 dX7_fish_36 (by decide) ?_ ?_
    · refine V_aload_n hO 0 dX7_fish_73 rfl rfl ?_
      refine V_get hO (v := .ref (α (56))) fl_X7_7 (by decide) (fun _ _ => ce_55) rfl dX7_fish_74 ?_
      refine V_iload_n hO 1 dX7_fish_77 rfl rfl ?_
      refine V_iconst hO 0 dX7_fish_78 (by decide) ?_
      refine V_chk rfl fun c1 => ?_
      refine V_iast hO (by decide) (fun _ _ _ => ce_56) (inb_in c1) dX7_fish_79 (V_name fun h2 => ?_)
      refine V_iload_n hO 2 dX7_fish_80 rfl rfl ?_
      exact V_iret hO hR rfl dX7_fish_81
    · refine V_aload_n hO 0 dX7_fish_39 rfl rfl ?_
      refine V_iload_n hO 3 dX7_fish_40 rfl rfl ?_
      refine V_callV hO ml_X7_94 (C_X7_isThere α w3 h) (by decide) (fun _ _ => ce_55) rfl rfl (rest := []) rfl rfl (Nat.le_of_ble_eq_true rfl) ⟨Nat.le_of_ble_eq_true rfl, Nat.le_of_ble_eq_true rfl⟩ dX7_fish_41 (kc_OZ rfl fun v3 => ?_)
      refine V_ifeqZ hO 67 dX7_fish_44 (by decide) ?_ ?_
      · exact V_sub [0, 1, 2, 3] rfl (T_X7_fish_67 hO hR (F_X7_fish_31 n) ih w1 w2 w3 h )
      · refine V_aload_n hO 0 dX7_fish_47 rfl rfl ?_
        refine V_get hO (v := .ref (α (58))) fl_X7_16 (by decide) (fun _ _ => ce_55) rfl dX7_fish_48 ?_
        refine V_bipush hO 8 dX7_fish_51 (by decide) ?_
        refine V_iload_n hO 3 dX7_fish_53 rfl rfl ?_
        refine V_imul hO dX7_fish_54 ?_
        refine V_iconst hO 1 dX7_fish_55 (by decide) ?_
        refine V_iadd hO dX7_fish_56 ?_
        refine V_chk rfl fun c4 => ?_
        refine V_iald hO (by decide) (fun _ _ => ce_58) (inb_in c4) dX7_fish_57 ?_
        refine V_iload_n hO 1 dX7_fish_58 rfl rfl ?_
        refine V_icmp_ne hO 67 dX7_fish_59 (by decide) ?_ ?_
        · exact V_sub [0, 1, 2, 3] rfl (T_X7_fish_67 hO hR (F_X7_fish_31 n) ih w1 w2 w3 h )
        · refine V_aload_n hO 0 dX7_fish_62 rfl rfl ?_
          refine V_iload_n hO 3 dX7_fish_63 rfl rfl ?_
          refine V_callV hO ml_X7_114 (C_X7_lose α w3 h) (by decide) (fun _ _ => ce_55) rfl rfl (rest := []) rfl rfl (Nat.le_of_ble_eq_true rfl) ⟨Nat.le_of_ble_eq_true rfl, Nat.le_of_ble_eq_true rfl⟩ dX7_fish_64 (kc_SV rfl fun q5 => ?_)
          exact V_sub [0, 1, 2, 3] rfl (T_X7_fish_67 hO hR (F_X7_fish_31 n) ih w1 w2 w3 q5 )
set_option maxHeartbeats 4000000 in
set_option maxRecDepth 100000 in
theorem T_X7_fish {G : Gm} {α : Nat → Nat} (hO : Ok G α cX7_fish 4 RX7 2 46) (hR : Rt G α (some .int)) (p1 : Int32) (σ : Hp) : V G α 4 (kSI) 0 [(0, .ref (α (55))), (1, .int p1)] [] σ (F_X7_fish p1 σ) := by
  rw [F_X7_fish]
  refine V_aload_n hO 0 dX7_fish_0 rfl rfl ?_
  refine V_iload_n hO 1 dX7_fish_1 rfl rfl ?_
  refine V_callV hO ml_X7_98 (C_X7_isSquare α p1 σ) (by decide) (fun _ _ => ce_55) rfl rfl (rest := []) rfl rfl (Nat.le_of_ble_eq_true rfl) ⟨Nat.le_of_ble_eq_true rfl, Nat.le_of_ble_eq_true rfl⟩ dX7_fish_2 (kc_Z ?_)
  refine V_ifneZ hO 11 dX7_fish_5 (by decide) ?_ ?_
  · refine V_aload_n hO 0 dX7_fish_11 rfl rfl ?_
    refine V_get hO (v := .ref (α (56))) fl_X7_7 (by decide) (fun _ _ => ce_55) rfl dX7_fish_12 ?_
    refine V_iload_n hO 1 dX7_fish_15 rfl rfl ?_
    refine V_chk rfl fun c6 => ?_
    refine V_iald hO (by decide) (fun _ _ => ce_56) (inb_in c6) dX7_fish_16 ?_
    refine V_if_ne hO 23 dX7_fish_17 (by decide) ?_ ?_
    · refine V_aload_n hO 0 dX7_fish_23 rfl rfl ?_
      refine V_iload_n hO 1 dX7_fish_24 rfl rfl ?_
      refine V_callV hO ml_X7_103 (C_X7_thereIn α p1 σ) (by decide) (fun _ _ => ce_55) rfl rfl (rest := []) rfl rfl (Nat.le_of_ble_eq_true rfl) ⟨Nat.le_of_ble_eq_true rfl, Nat.le_of_ble_eq_true rfl⟩ dX7_fish_25 (kc_OI rfl fun v7 => ?_)
      refine V_istore_n hO (ls2 := [(2, .int v7), (0, .ref (α (55))), (1, .int p1)]) dX7_fish_28 rfl (by decide) rfl ?_
      refine V_iconst hO 0 dX7_fish_29 (by decide) ?_
      refine V_istore_n hO (ls2 := [(3, .int 0), (2, .int v7), (0, .ref (α (55))), (1, .int p1)]) dX7_fish_30 rfl (by decide) rfl ?_
      exact V_sub [2, 3, 1, 0] rfl (T_X7_fish_31 hO hR fuel p1 v7 (0 : Int32) σ )
    · refine V_bipush hO (-103) dX7_fish_20 (by decide) ?_
      exact V_iret hO hR rfl dX7_fish_22
  · refine V_bipush hO (-101) dX7_fish_8 (by decide) ?_
    exact V_iret hO hR rfl dX7_fish_10
set_option maxHeartbeats 4000000 in
set_option maxRecDepth 100000 in
theorem C_X7_fish (α : Nat → Nat) (p1 : Int32) (σ : Hp) : Ct yX7_fish cX7_fish 4 (some .int) 2 46 α [.ref (α (55)), .int p1] σ (kSI (F_X7_fish p1 σ)) := ct_of_V (own := RX7) rfl (by decide +kernel) (Nat.le_of_ble_eq_true rfl) fun _ hO hR => T_X7_fish hO hR p1 σ
/-! X7_write -/
noncomputable def F_X7_write_87  (w1 : Int32) (w2 : Int32) (w3 : Int32) (w4 : Int32) (w5 : Int32) (s0 : Int32) (h : Hp) : Option (Int32 × Hp) :=
  if inb w2 16 = true then
  if s0 ≤ (h.1 56 (Int32.toNatClampNeg w2)) then
  if (h.1 55 6) = (10 : Int32) then
  some (((-104) : Int32), h)
  else
  lt ((8 : Int32) * (h.1 55 6)) fun v2 =>
  if inb v2 80 = true then
  lt (up h 58 (Int32.toNatClampNeg v2) w1) fun h4 =>
  if inb (v2 + (1 : Int32)) 80 = true then
  lt (up h4 58 (Int32.toNatClampNeg (v2 + (1 : Int32))) w2) fun h6 =>
  if inb (v2 + (2 : Int32)) 80 = true then
  lt (up h6 58 (Int32.toNatClampNeg (v2 + (2 : Int32))) w3) fun h8 =>
  if inb (v2 + (3 : Int32)) 80 = true then
  lt (up h8 58 (Int32.toNatClampNeg (v2 + (3 : Int32))) w4) fun h10 =>
  if inb (v2 + (4 : Int32)) 80 = true then
  lt (up h10 58 (Int32.toNatClampNeg (v2 + (4 : Int32))) w5) fun h12 =>
  if inb (v2 + (5 : Int32)) 80 = true then
  lt (up h12 58 (Int32.toNatClampNeg (v2 + (5 : Int32))) s0) fun h14 =>
  if inb (v2 + (6 : Int32)) 80 = true then
  lt (up h14 58 (Int32.toNatClampNeg (v2 + (6 : Int32))) (1 : Int32)) fun h16 =>
  if inb (v2 + (7 : Int32)) 80 = true then
  lt (up h16 58 (Int32.toNatClampNeg (v2 + (7 : Int32))) (0 : Int32)) fun h18 =>
  lt (up h18 55 6 ((h18.1 55 6) + (1 : Int32))) fun h19 =>
  some (((h19.1 55 6) - (1 : Int32)), h19)
  else none
  else none
  else none
  else none
  else none
  else none
  else none
  else none
  else
  some (((-103) : Int32), h)
  else none
noncomputable def F_X7_write  (p1 : Int32) (p2 : Int32) (p3 : Int32) (p4 : Int32) (p5 : Int32) (p6 : Int32) (σ : Hp) : Option (Int32 × Hp) :=
  if (F_X7_isSquare p2 σ) = true then
  if (F_X7_isPerson p3 σ) = true then
  if (F_X7_isPerson p4 σ) = true then
  if p3 = p4 then
  some (((-101) : Int32), σ)
  else
  if (F_X7_in (Int32.toInt64 p1) (0 : Int64) (4 : Int64) σ) = true then
  if (F_X7_in (Int32.toInt64 p5) (1 : Int64) (99 : Int64) σ) = true then
  if (F_X7_in (Int32.toInt64 p6) (1 : Int64) (9 : Int64) σ) = true then
  if p1 = (1 : Int32) then
  F_X7_write_87 p1 p2 p3 p4 p5 ((2 : Int32) * p6) σ
  else
  F_X7_write_87 p1 p2 p3 p4 p5 p6 σ
  else
  some (((-102) : Int32), σ)
  else
  some (((-102) : Int32), σ)
  else
  some (((-102) : Int32), σ)
  else
  some (((-101) : Int32), σ)
  else
  some (((-101) : Int32), σ)
  else
  some (((-101) : Int32), σ)
set_option maxHeartbeats 4000000 in
set_option maxRecDepth 100000 in
theorem T_X7_write_87 {G : Gm} {α : Nat → Nat} (hO : Ok G α cX7_write 9 RX7 2 46) (hR : Rt G α (some .int)) : ∀ (w1 : Int32) (w2 : Int32) (w3 : Int32) (w4 : Int32) (w5 : Int32) (s0 : Int32) (h : Hp), V G α 9 (kSI) 87 [(0, .ref (α (55))), (1, .int w1), (2, .int w2), (3, .int w3), (4, .int w4), (5, .int w5)] [.int s0] h (F_X7_write_87 w1 w2 w3 w4 w5 s0 h) := by
  intro w1 w2 w3 w4 w5 s0 h
  rw [F_X7_write_87]
  refine V_istore hO (ls2 := [(7, .int s0), (0, .ref (α (55))), (1, .int w1), (2, .int w2), (3, .int w3), (4, .int w4), (5, .int w5)]) dX7_write_87 (by decide) rfl ?_
  refine V_iload hO 0 dX7_write_89 rfl ?_
  refine V_aload_n hO 1 dX7_write_91 rfl rfl ?_
  refine V_get hO (v := .ref (α (56))) fl_X7_7 (by decide) (fun _ _ => ce_55) rfl dX7_write_92 ?_
  refine V_iload_n hO 3 dX7_write_95 rfl rfl ?_
  refine V_chk rfl fun c1 => ?_
  refine V_iald hO (by decide) (fun _ _ => ce_56) (inb_in c1) dX7_write_96 ?_
  refine V_icmp_le hO 103 dX7_write_97 (by decide) ?_ ?_
  · refine V_aload_n hO 1 dX7_write_103 rfl rfl ?_
    refine V_get hO (v := .int (h.1 55 6)) fl_X7_79 (by decide) (fun _ _ => ce_55) rfl dX7_write_104 ?_
    refine V_bipush hO 10 dX7_write_107 (by decide) ?_
    refine V_icmp_ne hO 115 dX7_write_109 (by decide) ?_ ?_
    · refine V_bipush hO 8 dX7_write_115 (by decide) ?_
      refine V_aload_n hO 1 dX7_write_117 rfl rfl ?_
      refine V_get hO (v := .int (h.1 55 6)) fl_X7_79 (by decide) (fun _ _ => ce_55) rfl dX7_write_118 ?_
      refine V_imul hO dX7_write_121 ?_
      refine V_istoreN hO (ls2 := fun v2 => [(8, .int v2), (7, .int s0), (0, .ref (α (55))), (1, .int w1), (2, .int w2), (3, .int w3), (4, .int w4), (5, .int w5)]) dX7_write_122 (by decide) (fun _ => rfl) (fun v2 => ?_)
      refine V_aload_n hO 2 dX7_write_124 rfl rfl ?_
      refine V_get hO (v := .ref (α (58))) fl_X7_16 (by decide) (fun _ _ => ce_55) rfl dX7_write_125 ?_
      refine V_iload hO 0 dX7_write_128 rfl ?_
      refine V_iload_n hO 3 dX7_write_130 rfl rfl ?_
      refine V_chk rfl fun c3 => ?_
      refine V_iast hO (by decide) (fun _ _ _ => ce_58) (inb_in c3) dX7_write_131 (V_name fun h4 => ?_)
      refine V_aload_n hO 2 dX7_write_132 rfl rfl ?_
      refine V_get hO (v := .ref (α (58))) fl_X7_16 (by decide) (fun _ _ => ce_55) rfl dX7_write_133 ?_
      refine V_iload hO 0 dX7_write_136 rfl ?_
      refine V_iconst hO 1 dX7_write_138 (by decide) ?_
      refine V_iadd hO dX7_write_139 ?_
      refine V_iload_n hO 4 dX7_write_140 rfl rfl ?_
      refine V_chk rfl fun c5 => ?_
      refine V_iast hO (by decide) (fun _ _ _ => ce_58) (inb_in c5) dX7_write_141 (V_name fun h6 => ?_)
      refine V_aload_n hO 2 dX7_write_142 rfl rfl ?_
      refine V_get hO (v := .ref (α (58))) fl_X7_16 (by decide) (fun _ _ => ce_55) rfl dX7_write_143 ?_
      refine V_iload hO 0 dX7_write_146 rfl ?_
      refine V_iconst hO 2 dX7_write_148 (by decide) ?_
      refine V_iadd hO dX7_write_149 ?_
      refine V_iload_n hO 5 dX7_write_150 rfl rfl ?_
      refine V_chk rfl fun c7 => ?_
      refine V_iast hO (by decide) (fun _ _ _ => ce_58) (inb_in c7) dX7_write_151 (V_name fun h8 => ?_)
      refine V_aload_n hO 2 dX7_write_152 rfl rfl ?_
      refine V_get hO (v := .ref (α (58))) fl_X7_16 (by decide) (fun _ _ => ce_55) rfl dX7_write_153 ?_
      refine V_iload hO 0 dX7_write_156 rfl ?_
      refine V_iconst hO 3 dX7_write_158 (by decide) ?_
      refine V_iadd hO dX7_write_159 ?_
      refine V_iload hO 6 dX7_write_160 rfl ?_
      refine V_chk rfl fun c9 => ?_
      refine V_iast hO (by decide) (fun _ _ _ => ce_58) (inb_in c9) dX7_write_162 (V_name fun h10 => ?_)
      refine V_aload_n hO 2 dX7_write_163 rfl rfl ?_
      refine V_get hO (v := .ref (α (58))) fl_X7_16 (by decide) (fun _ _ => ce_55) rfl dX7_write_164 ?_
      refine V_iload hO 0 dX7_write_167 rfl ?_
      refine V_iconst hO 4 dX7_write_169 (by decide) ?_
      refine V_iadd hO dX7_write_170 ?_
      refine V_iload hO 7 dX7_write_171 rfl ?_
      refine V_chk rfl fun c11 => ?_
      refine V_iast hO (by decide) (fun _ _ _ => ce_58) (inb_in c11) dX7_write_173 (V_name fun h12 => ?_)
      refine V_aload_n hO 2 dX7_write_174 rfl rfl ?_
      refine V_get hO (v := .ref (α (58))) fl_X7_16 (by decide) (fun _ _ => ce_55) rfl dX7_write_175 ?_
      refine V_iload hO 0 dX7_write_178 rfl ?_
      refine V_iconst hO 5 dX7_write_180 (by decide) ?_
      refine V_iadd hO dX7_write_181 ?_
      refine V_iload hO 1 dX7_write_182 rfl ?_
      refine V_chk rfl fun c13 => ?_
      refine V_iast hO (by decide) (fun _ _ _ => ce_58) (inb_in c13) dX7_write_184 (V_name fun h14 => ?_)
      refine V_aload_n hO 2 dX7_write_185 rfl rfl ?_
      refine V_get hO (v := .ref (α (58))) fl_X7_16 (by decide) (fun _ _ => ce_55) rfl dX7_write_186 ?_
      refine V_iload hO 0 dX7_write_189 rfl ?_
      refine V_bipush hO 6 dX7_write_191 (by decide) ?_
      refine V_iadd hO dX7_write_193 ?_
      refine V_iconst hO 1 dX7_write_194 (by decide) ?_
      refine V_chk rfl fun c15 => ?_
      refine V_iast hO (by decide) (fun _ _ _ => ce_58) (inb_in c15) dX7_write_195 (V_name fun h16 => ?_)
      refine V_aload_n hO 2 dX7_write_196 rfl rfl ?_
      refine V_get hO (v := .ref (α (58))) fl_X7_16 (by decide) (fun _ _ => ce_55) rfl dX7_write_197 ?_
      refine V_iload hO 0 dX7_write_200 rfl ?_
      refine V_bipush hO 7 dX7_write_202 (by decide) ?_
      refine V_iadd hO dX7_write_204 ?_
      refine V_iconst hO 0 dX7_write_205 (by decide) ?_
      refine V_chk rfl fun c17 => ?_
      refine V_iast hO (by decide) (fun _ _ _ => ce_58) (inb_in c17) dX7_write_206 (V_name fun h18 => ?_)
      refine V_aload_n hO 2 dX7_write_207 rfl rfl ?_
      refine V_dup hO dX7_write_208 rfl ?_
      refine V_get hO (v := .int (h18.1 55 6)) fl_X7_79 (by decide) (fun _ _ => ce_55) rfl dX7_write_209 ?_
      refine V_iconst hO 1 dX7_write_212 (by decide) ?_
      refine V_iadd hO dX7_write_213 ?_
      refine V_puti hO fp_X7_79 (by decide) (fun _ _ => ce_55) (Nat.le_of_ble_eq_true rfl) (fun _ _ => pe_55_6) dX7_write_214 (V_name fun h19 => ?_)
      refine V_aload_n hO 2 dX7_write_217 rfl rfl ?_
      refine V_get hO (v := .int (h19.1 55 6)) fl_X7_79 (by decide) (fun _ _ => ce_55) rfl dX7_write_218 ?_
      refine V_iconst hO 1 dX7_write_221 (by decide) ?_
      refine V_isub hO dX7_write_222 ?_
      exact V_iret hO hR rfl dX7_write_223
    · refine V_bipush hO (-104) dX7_write_112 (by decide) ?_
      exact V_iret hO hR rfl dX7_write_114
  · refine V_bipush hO (-103) dX7_write_100 (by decide) ?_
    exact V_iret hO hR rfl dX7_write_102
set_option maxHeartbeats 4000000 in
set_option maxRecDepth 100000 in
theorem T_X7_write {G : Gm} {α : Nat → Nat} (hO : Ok G α cX7_write 9 RX7 2 46) (hR : Rt G α (some .int)) (p1 : Int32) (p2 : Int32) (p3 : Int32) (p4 : Int32) (p5 : Int32) (p6 : Int32) (σ : Hp) : V G α 9 (kSI) 0 [(0, .ref (α (55))), (1, .int p1), (2, .int p2), (3, .int p3), (4, .int p4), (5, .int p5), (6, .int p6)] [] σ (F_X7_write p1 p2 p3 p4 p5 p6 σ) := by
  rw [F_X7_write]
  refine V_aload_n hO 0 dX7_write_0 rfl rfl ?_
  refine V_iload_n hO 2 dX7_write_1 rfl rfl ?_
  refine V_callV hO ml_X7_98 (C_X7_isSquare α p2 σ) (by decide) (fun _ _ => ce_55) rfl rfl (rest := []) rfl rfl (Nat.le_of_ble_eq_true rfl) ⟨Nat.le_of_ble_eq_true rfl, Nat.le_of_ble_eq_true rfl⟩ dX7_write_2 (kc_Z ?_)
  refine V_ifeqZ hO 29 dX7_write_5 (by decide) ?_ ?_
  · refine V_bipush hO (-101) dX7_write_29 (by decide) ?_
    exact V_iret hO hR rfl dX7_write_31
  · refine V_iload_n hO 3 dX7_write_8 rfl rfl ?_
    refine V_callS hO ml_X7_118 (C_X7_isPerson α p3 σ) (rest := []) rfl rfl (Nat.le_of_ble_eq_true rfl) ⟨Nat.le_of_ble_eq_true rfl, Nat.le_of_ble_eq_true rfl⟩ dX7_write_9 (kc_Z ?_)
    refine V_ifeqZ hO 29 dX7_write_12 (by decide) ?_ ?_
    · refine V_bipush hO (-101) dX7_write_29 (by decide) ?_
      exact V_iret hO hR rfl dX7_write_31
    · refine V_iload hO 4 dX7_write_15 rfl ?_
      refine V_callS hO ml_X7_118 (C_X7_isPerson α p4 σ) (rest := []) rfl rfl (Nat.le_of_ble_eq_true rfl) ⟨Nat.le_of_ble_eq_true rfl, Nat.le_of_ble_eq_true rfl⟩ dX7_write_17 (kc_Z ?_)
      refine V_ifeqZ hO 29 dX7_write_20 (by decide) ?_ ?_
      · refine V_bipush hO (-101) dX7_write_29 (by decide) ?_
        exact V_iret hO hR rfl dX7_write_31
      · refine V_iload_n hO 3 dX7_write_23 rfl rfl ?_
        refine V_iload hO 4 dX7_write_24 rfl ?_
        refine V_icmp_ne hO 32 dX7_write_26 (by decide) ?_ ?_
        · refine V_iload_n hO 1 dX7_write_32 rfl rfl ?_
          refine V_i2l hO dX7_write_33 ?_
          refine V_lconst hO 0 dX7_write_34 (by decide) ?_
          refine V_ldc2 hO (v := 4) dX7_write_35 cn_X7_86 ?_
          refine V_callS hO ml_X7_75 (C_X7_in α (Int32.toInt64 p1) (0 : Int64) (4 : Int64) σ) (rest := []) rfl rfl (Nat.le_of_ble_eq_true rfl) ⟨Nat.le_of_ble_eq_true rfl, Nat.le_of_ble_eq_true rfl⟩ dX7_write_38 (kc_Z ?_)
          refine V_ifeqZ hO 70 dX7_write_41 (by decide) ?_ ?_
          · refine V_bipush hO (-102) dX7_write_70 (by decide) ?_
            exact V_iret hO hR rfl dX7_write_72
          · refine V_iload hO 5 dX7_write_44 rfl ?_
            refine V_i2l hO dX7_write_46 ?_
            refine V_lconst hO 1 dX7_write_47 (by decide) ?_
            refine V_ldc2 hO (v := 99) dX7_write_48 cn_X7_101 ?_
            refine V_callS hO ml_X7_75 (C_X7_in α (Int32.toInt64 p5) (1 : Int64) (99 : Int64) σ) (rest := []) rfl rfl (Nat.le_of_ble_eq_true rfl) ⟨Nat.le_of_ble_eq_true rfl, Nat.le_of_ble_eq_true rfl⟩ dX7_write_51 (kc_Z ?_)
            refine V_ifeqZ hO 70 dX7_write_54 (by decide) ?_ ?_
            · refine V_bipush hO (-102) dX7_write_70 (by decide) ?_
              exact V_iret hO hR rfl dX7_write_72
            · refine V_iload hO 6 dX7_write_57 rfl ?_
              refine V_i2l hO dX7_write_59 ?_
              refine V_lconst hO 1 dX7_write_60 (by decide) ?_
              refine V_ldc2 hO (v := 9) dX7_write_61 cn_X7_121 ?_
              refine V_callS hO ml_X7_75 (C_X7_in α (Int32.toInt64 p6) (1 : Int64) (9 : Int64) σ) (rest := []) rfl rfl (Nat.le_of_ble_eq_true rfl) ⟨Nat.le_of_ble_eq_true rfl, Nat.le_of_ble_eq_true rfl⟩ dX7_write_64 (kc_Z ?_)
              refine V_ifneZ hO 73 dX7_write_67 (by decide) ?_ ?_
              · refine V_iload_n hO 1 dX7_write_73 rfl rfl ?_
                refine V_iconst hO 1 dX7_write_74 (by decide) ?_
                refine V_icmp_ne hO 85 dX7_write_75 (by decide) ?_ ?_
                · refine V_iload hO 6 dX7_write_85 rfl ?_
                  exact V_sub [0, 1, 2, 3, 4, 5] rfl (T_X7_write_87 hO hR p1 p2 p3 p4 p5 p6 σ )
                · refine V_iconst hO 2 dX7_write_78 (by decide) ?_
                  refine V_iload hO 6 dX7_write_79 rfl ?_
                  refine V_imul hO dX7_write_81 ?_
                  refine V_goto hO 87 dX7_write_82 (by decide) ?_
                  exact V_sub [0, 1, 2, 3, 4, 5] rfl (T_X7_write_87 hO hR p1 p2 p3 p4 p5 ((2 : Int32) * p6) σ )
              · refine V_bipush hO (-102) dX7_write_70 (by decide) ?_
                exact V_iret hO hR rfl dX7_write_72
        · refine V_bipush hO (-101) dX7_write_29 (by decide) ?_
          exact V_iret hO hR rfl dX7_write_31
set_option maxHeartbeats 4000000 in
set_option maxRecDepth 100000 in
theorem C_X7_write (α : Nat → Nat) (p1 : Int32) (p2 : Int32) (p3 : Int32) (p4 : Int32) (p5 : Int32) (p6 : Int32) (σ : Hp) : Ct yX7_write cX7_write 9 (some .int) 2 46 α [.ref (α (55)), .int p1, .int p2, .int p3, .int p4, .int p5, .int p6] σ (kSI (F_X7_write p1 p2 p3 p4 p5 p6 σ)) := ct_of_V (own := RX7) rfl (by decide +kernel) (Nat.le_of_ble_eq_true rfl) fun _ hO hR => T_X7_write hO hR p1 p2 p3 p4 p5 p6 σ
/-! X7_worthOf -/
noncomputable def F_X7_worthOf_75 (σ : Hp) (w2 : Int32) (w3 : Int32) (s0 : Int32) (s1 : Int32) : Option Int32 :=
  lt (s1 + s0) fun v1 =>
  if w3 = 0 then
  some (0 : Int32)
  else
  if w3 = (2 : Int32) then
  if inb (w2 + (7 : Int32)) 80 = true then
  some (σ.1 58 (Int32.toNatClampNeg (w2 + (7 : Int32))))
  else none
  else
  some v1
noncomputable def F_X7_worthOf_40 (σ : Hp) (w2 : Int32) (w3 : Int32) (s0 : Bool) : Option Int32 :=
  if inb (w2 + (4 : Int32)) 80 = true then
  if s0 = true then
  if inb (w2 + (1 : Int32)) 80 = true then
  if inb (σ.1 58 (Int32.toNatClampNeg (w2 + (1 : Int32)))) 16 = true then
  F_X7_worthOf_75 σ w2 w3 ((σ.1 56 (Int32.toNatClampNeg (σ.1 58 (Int32.toNatClampNeg (w2 + (1 : Int32)))))) / (10 : Int32)) (σ.1 58 (Int32.toNatClampNeg (w2 + (4 : Int32))))
  else none
  else none
  else
  F_X7_worthOf_75 σ w2 w3 (0 : Int32) (σ.1 58 (Int32.toNatClampNeg (w2 + (4 : Int32))))
  else none
noncomputable def F_X7_worthOf  (p1 : Int32) (σ : Hp) : Option Int32 :=
  lt ((8 : Int32) * p1) fun v6 =>
  if inb (v6 + (6 : Int32)) 80 = true then
  lt (σ.1 58 (Int32.toNatClampNeg (v6 + (6 : Int32)))) fun v8 =>
  if inb v6 80 = true then
  if (σ.1 58 (Int32.toNatClampNeg v6)) = (2 : Int32) then
  F_X7_worthOf_40 σ v6 v8 true
  else
  if inb v6 80 = true then
  if (σ.1 58 (Int32.toNatClampNeg v6)) = (4 : Int32) then
  F_X7_worthOf_40 σ v6 v8 true
  else
  F_X7_worthOf_40 σ v6 v8 false
  else none
  else none
  else none
set_option maxHeartbeats 4000000 in
set_option maxRecDepth 100000 in
theorem T_X7_worthOf_75 {G : Gm} {α : Nat → Nat} (hO : Ok G α cX7_worthOf 6 RX7 0 0) (hR : Rt G α (some .int)) (σ : Hp) : ∀ (w2 : Int32) (w3 : Int32) (s0 : Int32) (s1 : Int32), V G α 6 (kOI σ) 75 [(0, .ref (α (55))), (2, .int w2), (3, .int w3)] [.int s0, .int s1] σ (F_X7_worthOf_75 σ w2 w3 s0 s1) := by
  intro w2 w3 s0 s1
  rw [F_X7_worthOf_75]
  refine V_iadd hO dX7_worthOf_75 ?_
  refine V_istoreN hO (ls2 := fun v1 => [(5, .int v1), (0, .ref (α (55))), (2, .int w2), (3, .int w3)]) dX7_worthOf_76 (by decide) (fun _ => rfl) (fun v1 => ?_)
  refine V_iload_n hO 3 dX7_worthOf_78 rfl rfl ?_
  refine V_if_ne hO 86 dX7_worthOf_79 (by decide) ?_ ?_
  · refine V_iload_n hO 3 dX7_worthOf_86 rfl rfl ?_
    refine V_iconst hO 2 dX7_worthOf_87 (by decide) ?_
    refine V_icmp_ne hO 103 dX7_worthOf_88 (by decide) ?_ ?_
    · refine V_iload hO 0 dX7_worthOf_103 rfl ?_
      exact V_iret hO hR rfl dX7_worthOf_105
    · refine V_aload_n hO 1 dX7_worthOf_91 rfl rfl ?_
      refine V_get hO (v := .ref (α (58))) fl_X7_16 (by decide) (fun _ _ => ce_55) rfl dX7_worthOf_92 ?_
      refine V_iload_n hO 2 dX7_worthOf_95 rfl rfl ?_
      refine V_bipush hO 7 dX7_worthOf_96 (by decide) ?_
      refine V_iadd hO dX7_worthOf_98 ?_
      refine V_chk rfl fun c2 => ?_
      refine V_iald hO (by decide) (fun _ _ => ce_58) (inb_in c2) dX7_worthOf_99 ?_
      refine V_goto hO 105 dX7_worthOf_100 (by decide) ?_
      exact V_iret hO hR rfl dX7_worthOf_105
  · refine V_iconst hO 0 dX7_worthOf_82 (by decide) ?_
    refine V_goto hO 105 dX7_worthOf_83 (by decide) ?_
    exact V_iret hO hR rfl dX7_worthOf_105
set_option maxHeartbeats 4000000 in
set_option maxRecDepth 100000 in
theorem T_X7_worthOf_40 {G : Gm} {α : Nat → Nat} (hO : Ok G α cX7_worthOf 6 RX7 0 0) (hR : Rt G α (some .int)) (σ : Hp) : ∀ (w2 : Int32) (w3 : Int32) (s0 : Bool), V G α 6 (kOI σ) 40 [(0, .ref (α (55))), (2, .int w2), (3, .int w3)] [.int (b2i s0)] σ (F_X7_worthOf_40 σ w2 w3 s0) := by
  intro w2 w3 s0
  rw [F_X7_worthOf_40]
  refine V_istore hO (ls2 := [(4, .int (b2i s0)), (0, .ref (α (55))), (2, .int w2), (3, .int w3)]) dX7_worthOf_40 (by decide) rfl ?_
  refine V_aload_n hO 1 dX7_worthOf_42 rfl rfl ?_
  refine V_get hO (v := .ref (α (58))) fl_X7_16 (by decide) (fun _ _ => ce_55) rfl dX7_worthOf_43 ?_
  refine V_iload_n hO 2 dX7_worthOf_46 rfl rfl ?_
  refine V_iconst hO 4 dX7_worthOf_47 (by decide) ?_
  refine V_iadd hO dX7_worthOf_48 ?_
  refine V_chk rfl fun c3 => ?_
  refine V_iald hO (by decide) (fun _ _ => ce_58) (inb_in c3) dX7_worthOf_49 ?_
  refine V_iload hO 0 dX7_worthOf_50 rfl ?_
  refine V_ifeqZ hO 74 dX7_worthOf_52 (by decide) ?_ ?_
  · refine V_iconst hO 0 dX7_worthOf_74 (by decide) ?_
    exact V_sub [1, 2, 3] rfl (T_X7_worthOf_75 hO hR σ w2 w3 (0 : Int32) (σ.1 58 (Int32.toNatClampNeg (w2 + (4 : Int32)))) )
  · refine V_aload_n hO 1 dX7_worthOf_55 rfl rfl ?_
    refine V_get hO (v := .ref (α (56))) fl_X7_7 (by decide) (fun _ _ => ce_55) rfl dX7_worthOf_56 ?_
    refine V_aload_n hO 1 dX7_worthOf_59 rfl rfl ?_
    refine V_get hO (v := .ref (α (58))) fl_X7_16 (by decide) (fun _ _ => ce_55) rfl dX7_worthOf_60 ?_
    refine V_iload_n hO 2 dX7_worthOf_63 rfl rfl ?_
    refine V_iconst hO 1 dX7_worthOf_64 (by decide) ?_
    refine V_iadd hO dX7_worthOf_65 ?_
    refine V_chk rfl fun c4 => ?_
    refine V_iald hO (by decide) (fun _ _ => ce_58) (inb_in c4) dX7_worthOf_66 ?_
    refine V_chk rfl fun c5 => ?_
    refine V_iald hO (by decide) (fun _ _ => ce_56) (inb_in c5) dX7_worthOf_67 ?_
    refine V_bipush hO 10 dX7_worthOf_68 (by decide) ?_
    refine V_idiv hO dX7_worthOf_70 (by decide) ?_
    refine V_goto hO 75 dX7_worthOf_71 (by decide) ?_
    exact V_sub [1, 2, 3] rfl (T_X7_worthOf_75 hO hR σ w2 w3 ((σ.1 56 (Int32.toNatClampNeg (σ.1 58 (Int32.toNatClampNeg (w2 + (1 : Int32)))))) / (10 : Int32)) (σ.1 58 (Int32.toNatClampNeg (w2 + (4 : Int32)))) )
set_option maxHeartbeats 4000000 in
set_option maxRecDepth 100000 in
theorem T_X7_worthOf {G : Gm} {α : Nat → Nat} (hO : Ok G α cX7_worthOf 6 RX7 0 0) (hR : Rt G α (some .int)) (p1 : Int32) (σ : Hp) : V G α 6 (kOI σ) 0 [(0, .ref (α (55))), (1, .int p1)] [] σ (F_X7_worthOf p1 σ) := by
  rw [F_X7_worthOf]
  refine V_bipush hO 8 dX7_worthOf_0 (by decide) ?_
  refine V_iload_n hO 1 dX7_worthOf_2 rfl rfl ?_
  refine V_imul hO dX7_worthOf_3 ?_
  refine V_istore_nN hO (ls2 := fun v6 => [(2, .int v6), (0, .ref (α (55))), (1, .int p1)]) dX7_worthOf_4 rfl (by decide) (fun _ => rfl) (fun v6 => ?_)
  refine V_aload_n hO 1 dX7_worthOf_5 rfl rfl ?_
  refine V_get hO (v := .ref (α (58))) fl_X7_16 (by decide) (fun _ _ => ce_55) rfl dX7_worthOf_6 ?_
  refine V_iload_n hO 0 dX7_worthOf_9 rfl rfl ?_
  refine V_bipush hO 6 dX7_worthOf_10 (by decide) ?_
  refine V_iadd hO dX7_worthOf_12 ?_
  refine V_chk rfl fun c7 => ?_
  refine V_iald hO (by decide) (fun _ _ => ce_58) (inb_in c7) dX7_worthOf_13 ?_
  refine V_istore_nN hO (ls2 := fun v8 => [(3, .int v8), (2, .int v6), (0, .ref (α (55))), (1, .int p1)]) dX7_worthOf_14 rfl (by decide) (fun _ => rfl) (fun v8 => ?_)
  refine V_aload_n hO 2 dX7_worthOf_15 rfl rfl ?_
  refine V_get hO (v := .ref (α (58))) fl_X7_16 (by decide) (fun _ _ => ce_55) rfl dX7_worthOf_16 ?_
  refine V_iload_n hO 1 dX7_worthOf_19 rfl rfl ?_
  refine V_chk rfl fun c9 => ?_
  refine V_iald hO (by decide) (fun _ _ => ce_58) (inb_in c9) dX7_worthOf_20 ?_
  refine V_iconst hO 2 dX7_worthOf_21 (by decide) ?_
  refine V_icmp_eq hO 35 dX7_worthOf_22 (by decide) ?_ ?_
  · refine V_iconst hO 1 dX7_worthOf_35 (by decide) ?_
    refine V_goto hO 40 dX7_worthOf_36 (by decide) ?_
    exact V_sub [2, 1, 0] rfl (T_X7_worthOf_40 hO hR σ v6 v8 true )
  · refine V_aload_n hO 2 dX7_worthOf_25 rfl rfl ?_
    refine V_get hO (v := .ref (α (58))) fl_X7_16 (by decide) (fun _ _ => ce_55) rfl dX7_worthOf_26 ?_
    refine V_iload_n hO 1 dX7_worthOf_29 rfl rfl ?_
    refine V_chk rfl fun c10 => ?_
    refine V_iald hO (by decide) (fun _ _ => ce_58) (inb_in c10) dX7_worthOf_30 ?_
    refine V_iconst hO 4 dX7_worthOf_31 (by decide) ?_
    refine V_icmp_ne hO 39 dX7_worthOf_32 (by decide) ?_ ?_
    · refine V_iconst hO 0 dX7_worthOf_39 (by decide) ?_
      exact V_sub [2, 1, 0] rfl (T_X7_worthOf_40 hO hR σ v6 v8 false )
    · refine V_iconst hO 1 dX7_worthOf_35 (by decide) ?_
      refine V_goto hO 40 dX7_worthOf_36 (by decide) ?_
      exact V_sub [2, 1, 0] rfl (T_X7_worthOf_40 hO hR σ v6 v8 true )
set_option maxHeartbeats 4000000 in
set_option maxRecDepth 100000 in
theorem C_X7_worthOf (α : Nat → Nat) (p1 : Int32) (σ : Hp) : Ct yX7_worthOf cX7_worthOf 6 (some .int) 0 0 α [.ref (α (55)), .int p1] σ (kOI σ (F_X7_worthOf p1 σ)) := ct_of_V (own := RX7) rfl (by decide +kernel) (Nat.le_of_ble_eq_true rfl) fun _ hO hR => T_X7_worthOf hO hR p1 σ
/-! X7_lookOf -/
noncomputable def F_X7_lookOf  (p1 : Int32) (σ : Hp) : Option Int32 :=
  if inb (((8 : Int32) * p1) + (6 : Int32)) 80 = true then
  lt (σ.1 58 (Int32.toNatClampNeg (((8 : Int32) * p1) + (6 : Int32)))) fun v2 =>
  if v2 = 0 then
  some (0 : Int32)
  else
  if v2 = (2 : Int32) then
  some (3 : Int32)
  else
  if inb (((8 : Int32) * p1) + (1 : Int32)) 80 = true then
  if inb (σ.1 58 (Int32.toNatClampNeg (((8 : Int32) * p1) + (1 : Int32)))) 16 = true then
  if (σ.1 57 (Int32.toNatClampNeg (σ.1 58 (Int32.toNatClampNeg (((8 : Int32) * p1) + (1 : Int32)))))) = 0 then
  some (2 : Int32)
  else
  some (1 : Int32)
  else none
  else none
  else none
set_option maxHeartbeats 4000000 in
set_option maxRecDepth 100000 in
theorem T_X7_lookOf {G : Gm} {α : Nat → Nat} (hO : Ok G α cX7_lookOf 3 RX7 0 0) (hR : Rt G α (some .int)) (p1 : Int32) (σ : Hp) : V G α 3 (kOI σ) 0 [(0, .ref (α (55))), (1, .int p1)] [] σ (F_X7_lookOf p1 σ) := by
  rw [F_X7_lookOf]
  refine V_aload_n hO 0 dX7_lookOf_0 rfl rfl ?_
  refine V_get hO (v := .ref (α (58))) fl_X7_16 (by decide) (fun _ _ => ce_55) rfl dX7_lookOf_1 ?_
  refine V_bipush hO 8 dX7_lookOf_4 (by decide) ?_
  refine V_iload_n hO 1 dX7_lookOf_6 rfl rfl ?_
  refine V_imul hO dX7_lookOf_7 ?_
  refine V_bipush hO 6 dX7_lookOf_8 (by decide) ?_
  refine V_iadd hO dX7_lookOf_10 ?_
  refine V_chk rfl fun c1 => ?_
  refine V_iald hO (by decide) (fun _ _ => ce_58) (inb_in c1) dX7_lookOf_11 ?_
  refine V_istore_nN hO (ls2 := fun v2 => [(2, .int v2), (0, .ref (α (55))), (1, .int p1)]) dX7_lookOf_12 rfl (by decide) (fun _ => rfl) (fun v2 => ?_)
  refine V_iload_n hO 0 dX7_lookOf_13 rfl rfl ?_
  refine V_if_ne hO 21 dX7_lookOf_14 (by decide) ?_ ?_
  · refine V_iload_n hO 0 dX7_lookOf_21 rfl rfl ?_
    refine V_iconst hO 2 dX7_lookOf_22 (by decide) ?_
    refine V_icmp_ne hO 30 dX7_lookOf_23 (by decide) ?_ ?_
    · refine V_aload_n hO 1 dX7_lookOf_30 rfl rfl ?_
      refine V_get hO (v := .ref (α (57))) fl_X7_13 (by decide) (fun _ _ => ce_55) rfl dX7_lookOf_31 ?_
      refine V_aload_n hO 1 dX7_lookOf_34 rfl rfl ?_
      refine V_get hO (v := .ref (α (58))) fl_X7_16 (by decide) (fun _ _ => ce_55) rfl dX7_lookOf_35 ?_
      refine V_bipush hO 8 dX7_lookOf_38 (by decide) ?_
      refine V_iload_n hO 2 dX7_lookOf_40 rfl rfl ?_
      refine V_imul hO dX7_lookOf_41 ?_
      refine V_iconst hO 1 dX7_lookOf_42 (by decide) ?_
      refine V_iadd hO dX7_lookOf_43 ?_
      refine V_chk rfl fun c3 => ?_
      refine V_iald hO (by decide) (fun _ _ => ce_58) (inb_in c3) dX7_lookOf_44 ?_
      refine V_chk rfl fun c4 => ?_
      refine V_iald hO (by decide) (fun _ _ => ce_57) (inb_in c4) dX7_lookOf_45 ?_
      refine V_if_ne hO 53 dX7_lookOf_46 (by decide) ?_ ?_
      · refine V_iconst hO 1 dX7_lookOf_53 (by decide) ?_
        exact V_iret hO hR rfl dX7_lookOf_54
      · refine V_iconst hO 2 dX7_lookOf_49 (by decide) ?_
        refine V_goto hO 54 dX7_lookOf_50 (by decide) ?_
        exact V_iret hO hR rfl dX7_lookOf_54
    · refine V_iconst hO 3 dX7_lookOf_26 (by decide) ?_
      refine V_goto hO 54 dX7_lookOf_27 (by decide) ?_
      exact V_iret hO hR rfl dX7_lookOf_54
  · refine V_iconst hO 0 dX7_lookOf_17 (by decide) ?_
    refine V_goto hO 54 dX7_lookOf_18 (by decide) ?_
    exact V_iret hO hR rfl dX7_lookOf_54
set_option maxHeartbeats 4000000 in
set_option maxRecDepth 100000 in
theorem C_X7_lookOf (α : Nat → Nat) (p1 : Int32) (σ : Hp) : Ct yX7_lookOf cX7_lookOf 3 (some .int) 0 0 α [.ref (α (55)), .int p1] σ (kOI σ (F_X7_lookOf p1 σ)) := ct_of_V (own := RX7) rfl (by decide +kernel) (Nat.le_of_ble_eq_true rfl) fun _ hO hR => T_X7_lookOf hO hR p1 σ
/-! X7_tellDebt -/
noncomputable def F_X7_tellDebt  (p1 : Int32) (p2 : Int32) (σ : Hp) : Option Int32 :=
  if p2 = (6 : Int32) then
  (F_X7_worthOf p1 σ).bind fun v3 =>
  some v3
  else
  if p2 = (7 : Int32) then
  (F_X7_lookOf p1 σ).bind fun v2 =>
  some v2
  else
  if (F_X7_in (Int32.toInt64 p2) (0 : Int64) (5 : Int64) σ) = true then
  if inb (((8 : Int32) * p1) + p2) 80 = true then
  some (σ.1 58 (Int32.toNatClampNeg (((8 : Int32) * p1) + p2)))
  else none
  else
  some ((-102) : Int32)
set_option maxHeartbeats 4000000 in
set_option maxRecDepth 100000 in
theorem T_X7_tellDebt {G : Gm} {α : Nat → Nat} (hO : Ok G α cX7_tellDebt 3 RX7 1 25) (hR : Rt G α (some .int)) (p1 : Int32) (p2 : Int32) (σ : Hp) : V G α 3 (kOI σ) 0 [(0, .ref (α (55))), (1, .int p1), (2, .int p2)] [] σ (F_X7_tellDebt p1 p2 σ) := by
  rw [F_X7_tellDebt]
  refine V_iload_n hO 2 dX7_tellDebt_0 rfl rfl ?_
  refine V_bipush hO 6 dX7_tellDebt_1 (by decide) ?_
  refine V_icmp_ne hO 14 dX7_tellDebt_3 (by decide) ?_ ?_
  · refine V_iload_n hO 2 dX7_tellDebt_14 rfl rfl ?_
    refine V_bipush hO 7 dX7_tellDebt_15 (by decide) ?_
    refine V_icmp_ne hO 28 dX7_tellDebt_17 (by decide) ?_ ?_
    · refine V_iload_n hO 2 dX7_tellDebt_28 rfl rfl ?_
      refine V_i2l hO dX7_tellDebt_29 ?_
      refine V_lconst hO 0 dX7_tellDebt_30 (by decide) ?_
      refine V_ldc2 hO (v := 5) dX7_tellDebt_31 cn_X7_82 ?_
      refine V_callS hO ml_X7_75 (C_X7_in α (Int32.toInt64 p2) (0 : Int64) (5 : Int64) σ) (rest := []) rfl rfl (Nat.le_of_ble_eq_true rfl) ⟨Nat.le_of_ble_eq_true rfl, Nat.le_of_ble_eq_true rfl⟩ dX7_tellDebt_34 (kc_Z ?_)
      refine V_ifeqZ hO 54 dX7_tellDebt_37 (by decide) ?_ ?_
      · refine V_bipush hO (-102) dX7_tellDebt_54 (by decide) ?_
        exact V_iret hO hR rfl dX7_tellDebt_56
      · refine V_aload_n hO 0 dX7_tellDebt_40 rfl rfl ?_
        refine V_get hO (v := .ref (α (58))) fl_X7_16 (by decide) (fun _ _ => ce_55) rfl dX7_tellDebt_41 ?_
        refine V_bipush hO 8 dX7_tellDebt_44 (by decide) ?_
        refine V_iload_n hO 1 dX7_tellDebt_46 rfl rfl ?_
        refine V_imul hO dX7_tellDebt_47 ?_
        refine V_iload_n hO 2 dX7_tellDebt_48 rfl rfl ?_
        refine V_iadd hO dX7_tellDebt_49 ?_
        refine V_chk rfl fun c1 => ?_
        refine V_iald hO (by decide) (fun _ _ => ce_58) (inb_in c1) dX7_tellDebt_50 ?_
        refine V_goto hO 56 dX7_tellDebt_51 (by decide) ?_
        exact V_iret hO hR rfl dX7_tellDebt_56
    · refine V_aload_n hO 0 dX7_tellDebt_20 rfl rfl ?_
      refine V_iload_n hO 1 dX7_tellDebt_21 rfl rfl ?_
      refine V_callV hO ml_X7_126 (C_X7_lookOf α p1 σ) (by decide) (fun _ _ => ce_55) rfl rfl (rest := []) rfl rfl (Nat.le_of_ble_eq_true rfl) ⟨Nat.le_of_ble_eq_true rfl, Nat.le_of_ble_eq_true rfl⟩ dX7_tellDebt_22 (kc_OI rfl fun v2 => ?_)
      refine V_goto hO 56 dX7_tellDebt_25 (by decide) ?_
      exact V_iret hO hR rfl dX7_tellDebt_56
  · refine V_aload_n hO 0 dX7_tellDebt_6 rfl rfl ?_
    refine V_iload_n hO 1 dX7_tellDebt_7 rfl rfl ?_
    refine V_callV hO ml_X7_123 (C_X7_worthOf α p1 σ) (by decide) (fun _ _ => ce_55) rfl rfl (rest := []) rfl rfl (Nat.le_of_ble_eq_true rfl) ⟨Nat.le_of_ble_eq_true rfl, Nat.le_of_ble_eq_true rfl⟩ dX7_tellDebt_8 (kc_OI rfl fun v3 => ?_)
    refine V_goto hO 56 dX7_tellDebt_11 (by decide) ?_
    exact V_iret hO hR rfl dX7_tellDebt_56
set_option maxHeartbeats 4000000 in
set_option maxRecDepth 100000 in
theorem C_X7_tellDebt (α : Nat → Nat) (p1 : Int32) (p2 : Int32) (σ : Hp) : Ct yX7_tellDebt cX7_tellDebt 3 (some .int) 1 25 α [.ref (α (55)), .int p1, .int p2] σ (kOI σ (F_X7_tellDebt p1 p2 σ)) := ct_of_V (own := RX7) rfl (by decide +kernel) (Nat.le_of_ble_eq_true rfl) fun _ hO hR => T_X7_tellDebt hO hR p1 p2 σ
/-! X7_about -/
noncomputable def F_X7_about  (p1 : Int32) (p2 : Int32) (σ : Hp) : Option Int32 :=
  if (F_X7_isDebt p1 σ) = true then
  (F_X7_tellDebt p1 p2 σ).bind fun v1 =>
  some v1
  else
  some ((-101) : Int32)
set_option maxHeartbeats 4000000 in
set_option maxRecDepth 100000 in
theorem T_X7_about {G : Gm} {α : Nat → Nat} (hO : Ok G α cX7_about 3 RX7 2 47) (hR : Rt G α (some .int)) (p1 : Int32) (p2 : Int32) (σ : Hp) : V G α 3 (kOI σ) 0 [(0, .ref (α (55))), (1, .int p1), (2, .int p2)] [] σ (F_X7_about p1 p2 σ) := by
  rw [F_X7_about]
  refine V_aload_n hO 0 dX7_about_0 rfl rfl ?_
  refine V_iload_n hO 1 dX7_about_1 rfl rfl ?_
  refine V_callV hO ml_X7_129 (C_X7_isDebt α p1 σ) (by decide) (fun _ _ => ce_55) rfl rfl (rest := []) rfl rfl (Nat.le_of_ble_eq_true rfl) ⟨Nat.le_of_ble_eq_true rfl, Nat.le_of_ble_eq_true rfl⟩ dX7_about_2 (kc_Z ?_)
  refine V_ifeqZ hO 17 dX7_about_5 (by decide) ?_ ?_
  · refine V_bipush hO (-101) dX7_about_17 (by decide) ?_
    exact V_iret hO hR rfl dX7_about_19
  · refine V_aload_n hO 0 dX7_about_8 rfl rfl ?_
    refine V_iload_n hO 1 dX7_about_9 rfl rfl ?_
    refine V_iload_n hO 2 dX7_about_10 rfl rfl ?_
    refine V_callV hO ml_X7_132 (C_X7_tellDebt α p1 p2 σ) (by decide) (fun _ _ => ce_55) rfl rfl (rest := []) rfl rfl (Nat.le_of_ble_eq_true rfl) ⟨Nat.le_of_ble_eq_true rfl, Nat.le_of_ble_eq_true rfl⟩ dX7_about_11 (kc_OI rfl fun v1 => ?_)
    refine V_goto hO 19 dX7_about_14 (by decide) ?_
    exact V_iret hO hR rfl dX7_about_19
set_option maxHeartbeats 4000000 in
set_option maxRecDepth 100000 in
theorem C_X7_about (α : Nat → Nat) (p1 : Int32) (p2 : Int32) (σ : Hp) : Ct yX7_about cX7_about 3 (some .int) 2 47 α [.ref (α (55)), .int p1, .int p2] σ (kOI σ (F_X7_about p1 p2 σ)) := ct_of_V (own := RX7) rfl (by decide +kernel) (Nat.le_of_ble_eq_true rfl) fun _ hO hR => T_X7_about hO hR p1 p2 σ
/-! X7_as -/
noncomputable def F_X7_as_60 (σ : Hp) (w1 : Int32) (s0 : Bool) : Option Int32 :=
  if s0 = true then
  some w1
  else
  some ((-1) : Int32)
noncomputable def F_X7_as  (p1 : Int32) (p2 : Int32) (σ : Hp) : Option Int32 :=
  if (F_X7_isDebt p1 σ) = true then
  if (F_X7_in (Int32.toInt64 p2) (0 : Int64) (4 : Int64) σ) = true then
  if inb ((8 : Int32) * p1) 80 = true then
  lt (σ.1 58 (Int32.toNatClampNeg ((8 : Int32) * p1))) fun v2 =>
  if p2 = 0 then
  F_X7_as_60 σ p1 true
  else
  if p2 = v2 then
  F_X7_as_60 σ p1 true
  else
  if p2 = (2 : Int32) then
  if v2 = (4 : Int32) then
  F_X7_as_60 σ p1 true
  else
  F_X7_as_60 σ p1 false
  else
  F_X7_as_60 σ p1 false
  else none
  else
  some ((-102) : Int32)
  else
  some ((-101) : Int32)
set_option maxHeartbeats 4000000 in
set_option maxRecDepth 100000 in
theorem T_X7_as_60 {G : Gm} {α : Nat → Nat} (hO : Ok G α cX7_as 5 RX7 2 46) (hR : Rt G α (some .int)) (σ : Hp) : ∀ (w1 : Int32) (s0 : Bool), V G α 5 (kOI σ) 60 [(1, .int w1)] [.int (b2i s0)] σ (F_X7_as_60 σ w1 s0) := by
  intro w1 s0
  rw [F_X7_as_60]
  refine V_istore hO (ls2 := [(4, .int (b2i s0)), (1, .int w1)]) dX7_as_60 (by decide) rfl ?_
  refine V_iload hO 0 dX7_as_62 rfl ?_
  refine V_ifeqZ hO 71 dX7_as_64 (by decide) ?_ ?_
  · refine V_iconst hO (-1) dX7_as_71 (by decide) ?_
    exact V_iret hO hR rfl dX7_as_72
  · refine V_iload_n hO 1 dX7_as_67 rfl rfl ?_
    refine V_goto hO 72 dX7_as_68 (by decide) ?_
    exact V_iret hO hR rfl dX7_as_72
set_option maxHeartbeats 4000000 in
set_option maxRecDepth 100000 in
theorem T_X7_as {G : Gm} {α : Nat → Nat} (hO : Ok G α cX7_as 5 RX7 2 46) (hR : Rt G α (some .int)) (p1 : Int32) (p2 : Int32) (σ : Hp) : V G α 5 (kOI σ) 0 [(0, .ref (α (55))), (1, .int p1), (2, .int p2)] [] σ (F_X7_as p1 p2 σ) := by
  rw [F_X7_as]
  refine V_aload_n hO 0 dX7_as_0 rfl rfl ?_
  refine V_iload_n hO 1 dX7_as_1 rfl rfl ?_
  refine V_callV hO ml_X7_129 (C_X7_isDebt α p1 σ) (by decide) (fun _ _ => ce_55) rfl rfl (rest := []) rfl rfl (Nat.le_of_ble_eq_true rfl) ⟨Nat.le_of_ble_eq_true rfl, Nat.le_of_ble_eq_true rfl⟩ dX7_as_2 (kc_Z ?_)
  refine V_ifneZ hO 11 dX7_as_5 (by decide) ?_ ?_
  · refine V_iload_n hO 2 dX7_as_11 rfl rfl ?_
    refine V_i2l hO dX7_as_12 ?_
    refine V_lconst hO 0 dX7_as_13 (by decide) ?_
    refine V_ldc2 hO (v := 4) dX7_as_14 cn_X7_86 ?_
    refine V_callS hO ml_X7_75 (C_X7_in α (Int32.toInt64 p2) (0 : Int64) (4 : Int64) σ) (rest := []) rfl rfl (Nat.le_of_ble_eq_true rfl) ⟨Nat.le_of_ble_eq_true rfl, Nat.le_of_ble_eq_true rfl⟩ dX7_as_17 (kc_Z ?_)
    refine V_ifneZ hO 26 dX7_as_20 (by decide) ?_ ?_
    · refine V_aload_n hO 0 dX7_as_26 rfl rfl ?_
      refine V_get hO (v := .ref (α (58))) fl_X7_16 (by decide) (fun _ _ => ce_55) rfl dX7_as_27 ?_
      refine V_bipush hO 8 dX7_as_30 (by decide) ?_
      refine V_iload_n hO 1 dX7_as_32 rfl rfl ?_
      refine V_imul hO dX7_as_33 ?_
      refine V_chk rfl fun c1 => ?_
      refine V_iald hO (by decide) (fun _ _ => ce_58) (inb_in c1) dX7_as_34 ?_
      refine V_istore_nN hO (ls2 := fun v2 => [(3, .int v2), (0, .ref (α (55))), (1, .int p1), (2, .int p2)]) dX7_as_35 rfl (by decide) (fun _ => rfl) (fun v2 => ?_)
      refine V_iload_n hO 3 dX7_as_36 rfl rfl ?_
      refine V_if_eq hO 55 dX7_as_37 (by decide) ?_ ?_
      · refine V_iconst hO 1 dX7_as_55 (by decide) ?_
        refine V_goto hO 60 dX7_as_56 (by decide) ?_
        exact V_sub [2] rfl (T_X7_as_60 hO hR σ p1 true )
      · refine V_iload_n hO 3 dX7_as_40 rfl rfl ?_
        refine V_iload_n hO 0 dX7_as_41 rfl rfl ?_
        refine V_icmp_eq hO 55 dX7_as_42 (by decide) ?_ ?_
        · refine V_iconst hO 1 dX7_as_55 (by decide) ?_
          refine V_goto hO 60 dX7_as_56 (by decide) ?_
          exact V_sub [2] rfl (T_X7_as_60 hO hR σ p1 true )
        · refine V_iload_n hO 3 dX7_as_45 rfl rfl ?_
          refine V_iconst hO 2 dX7_as_46 (by decide) ?_
          refine V_icmp_ne hO 59 dX7_as_47 (by decide) ?_ ?_
          · refine V_iconst hO 0 dX7_as_59 (by decide) ?_
            exact V_sub [2] rfl (T_X7_as_60 hO hR σ p1 false )
          · refine V_iload_n hO 0 dX7_as_50 rfl rfl ?_
            refine V_iconst hO 4 dX7_as_51 (by decide) ?_
            refine V_icmp_ne hO 59 dX7_as_52 (by decide) ?_ ?_
            · refine V_iconst hO 0 dX7_as_59 (by decide) ?_
              exact V_sub [2] rfl (T_X7_as_60 hO hR σ p1 false )
            · refine V_iconst hO 1 dX7_as_55 (by decide) ?_
              refine V_goto hO 60 dX7_as_56 (by decide) ?_
              exact V_sub [2] rfl (T_X7_as_60 hO hR σ p1 true )
    · refine V_bipush hO (-102) dX7_as_23 (by decide) ?_
      exact V_iret hO hR rfl dX7_as_25
  · refine V_bipush hO (-101) dX7_as_8 (by decide) ?_
    exact V_iret hO hR rfl dX7_as_10
set_option maxHeartbeats 4000000 in
set_option maxRecDepth 100000 in
theorem C_X7_as (α : Nat → Nat) (p1 : Int32) (p2 : Int32) (σ : Hp) : Ct yX7_as cX7_as 5 (some .int) 2 46 α [.ref (α (55)), .int p1, .int p2] σ (kOI σ (F_X7_as p1 p2 σ)) := ct_of_V (own := RX7) rfl (by decide +kernel) (Nat.le_of_ble_eq_true rfl) fun _ hO hR => T_X7_as hO hR p1 p2 σ
/-! X7_saw -/
noncomputable def F_X7_saw  (p1 : Int32) (σ : Hp) : Option (Int32 × Hp) :=
  if (F_X7_isDebt p1 σ) = true then
  (F_X7_isThere p1 σ).bind fun v1 =>
  if v1 = true then
  (F_X7_worthOf p1 σ).bind fun v2 =>
  if inb (((8 : Int32) * p1) + (7 : Int32)) 80 = true then
  lt (up σ 58 (Int32.toNatClampNeg (((8 : Int32) * p1) + (7 : Int32))) v2) fun h4 =>
  if inb (((8 : Int32) * p1) + (6 : Int32)) 80 = true then
  lt (up h4 58 (Int32.toNatClampNeg (((8 : Int32) * p1) + (6 : Int32))) (2 : Int32)) fun h6 =>
  if inb (((8 : Int32) * p1) + (1 : Int32)) 80 = true then
  if inb (h6.1 58 (Int32.toNatClampNeg (((8 : Int32) * p1) + (1 : Int32)))) 16 = true then
  some ((h6.1 56 (Int32.toNatClampNeg (h6.1 58 (Int32.toNatClampNeg (((8 : Int32) * p1) + (1 : Int32)))))), h6)
  else none
  else none
  else none
  else none
  else
  some (((-103) : Int32), σ)
  else
  some (((-101) : Int32), σ)
set_option maxHeartbeats 4000000 in
set_option maxRecDepth 100000 in
theorem T_X7_saw {G : Gm} {α : Nat → Nat} (hO : Ok G α cX7_saw 2 RX7 2 46) (hR : Rt G α (some .int)) (p1 : Int32) (σ : Hp) : V G α 2 (kSI) 0 [(0, .ref (α (55))), (1, .int p1)] [] σ (F_X7_saw p1 σ) := by
  rw [F_X7_saw]
  refine V_aload_n hO 0 dX7_saw_0 rfl rfl ?_
  refine V_iload_n hO 1 dX7_saw_1 rfl rfl ?_
  refine V_callV hO ml_X7_129 (C_X7_isDebt α p1 σ) (by decide) (fun _ _ => ce_55) rfl rfl (rest := []) rfl rfl (Nat.le_of_ble_eq_true rfl) ⟨Nat.le_of_ble_eq_true rfl, Nat.le_of_ble_eq_true rfl⟩ dX7_saw_2 (kc_Z ?_)
  refine V_ifneZ hO 11 dX7_saw_5 (by decide) ?_ ?_
  · refine V_aload_n hO 0 dX7_saw_11 rfl rfl ?_
    refine V_iload_n hO 1 dX7_saw_12 rfl rfl ?_
    refine V_callV hO ml_X7_94 (C_X7_isThere α p1 σ) (by decide) (fun _ _ => ce_55) rfl rfl (rest := []) rfl rfl (Nat.le_of_ble_eq_true rfl) ⟨Nat.le_of_ble_eq_true rfl, Nat.le_of_ble_eq_true rfl⟩ dX7_saw_13 (kc_OZ rfl fun v1 => ?_)
    refine V_ifneZ hO 22 dX7_saw_16 (by decide) ?_ ?_
    · refine V_aload_n hO 0 dX7_saw_22 rfl rfl ?_
      refine V_get hO (v := .ref (α (58))) fl_X7_16 (by decide) (fun _ _ => ce_55) rfl dX7_saw_23 ?_
      refine V_bipush hO 8 dX7_saw_26 (by decide) ?_
      refine V_iload_n hO 1 dX7_saw_28 rfl rfl ?_
      refine V_imul hO dX7_saw_29 ?_
      refine V_bipush hO 7 dX7_saw_30 (by decide) ?_
      refine V_iadd hO dX7_saw_32 ?_
      refine V_aload_n hO 0 dX7_saw_33 rfl rfl ?_
      refine V_iload_n hO 1 dX7_saw_34 rfl rfl ?_
      refine V_callV hO ml_X7_123 (C_X7_worthOf α p1 σ) (by decide) (fun _ _ => ce_55) rfl rfl (rest := [.int (((8 : Int32) * p1) + (7 : Int32)), .ref (α (58))]) rfl rfl (Nat.le_of_ble_eq_true rfl) ⟨Nat.le_of_ble_eq_true rfl, Nat.le_of_ble_eq_true rfl⟩ dX7_saw_35 (kc_OI rfl fun v2 => ?_)
      refine V_chk rfl fun c3 => ?_
      refine V_iast hO (by decide) (fun _ _ _ => ce_58) (inb_in c3) dX7_saw_38 (V_name fun h4 => ?_)
      refine V_aload_n hO 0 dX7_saw_39 rfl rfl ?_
      refine V_get hO (v := .ref (α (58))) fl_X7_16 (by decide) (fun _ _ => ce_55) rfl dX7_saw_40 ?_
      refine V_bipush hO 8 dX7_saw_43 (by decide) ?_
      refine V_iload_n hO 1 dX7_saw_45 rfl rfl ?_
      refine V_imul hO dX7_saw_46 ?_
      refine V_bipush hO 6 dX7_saw_47 (by decide) ?_
      refine V_iadd hO dX7_saw_49 ?_
      refine V_iconst hO 2 dX7_saw_50 (by decide) ?_
      refine V_chk rfl fun c5 => ?_
      refine V_iast hO (by decide) (fun _ _ _ => ce_58) (inb_in c5) dX7_saw_51 (V_name fun h6 => ?_)
      refine V_aload_n hO 0 dX7_saw_52 rfl rfl ?_
      refine V_get hO (v := .ref (α (56))) fl_X7_7 (by decide) (fun _ _ => ce_55) rfl dX7_saw_53 ?_
      refine V_aload_n hO 0 dX7_saw_56 rfl rfl ?_
      refine V_get hO (v := .ref (α (58))) fl_X7_16 (by decide) (fun _ _ => ce_55) rfl dX7_saw_57 ?_
      refine V_bipush hO 8 dX7_saw_60 (by decide) ?_
      refine V_iload_n hO 1 dX7_saw_62 rfl rfl ?_
      refine V_imul hO dX7_saw_63 ?_
      refine V_iconst hO 1 dX7_saw_64 (by decide) ?_
      refine V_iadd hO dX7_saw_65 ?_
      refine V_chk rfl fun c7 => ?_
      refine V_iald hO (by decide) (fun _ _ => ce_58) (inb_in c7) dX7_saw_66 ?_
      refine V_chk rfl fun c8 => ?_
      refine V_iald hO (by decide) (fun _ _ => ce_56) (inb_in c8) dX7_saw_67 ?_
      exact V_iret hO hR rfl dX7_saw_68
    · refine V_bipush hO (-103) dX7_saw_19 (by decide) ?_
      exact V_iret hO hR rfl dX7_saw_21
  · refine V_bipush hO (-101) dX7_saw_8 (by decide) ?_
    exact V_iret hO hR rfl dX7_saw_10
set_option maxHeartbeats 4000000 in
set_option maxRecDepth 100000 in
theorem C_X7_saw (α : Nat → Nat) (p1 : Int32) (σ : Hp) : Ct yX7_saw cX7_saw 2 (some .int) 2 46 α [.ref (α (55)), .int p1] σ (kSI (F_X7_saw p1 σ)) := ct_of_V (own := RX7) rfl (by decide +kernel) (Nat.le_of_ble_eq_true rfl) fun _ hO hR => T_X7_saw hO hR p1 σ
/-! X7_letters -/
noncomputable def F_X7_letters_75 (k11 : Int64 → Int32 → Bool → Int64 → Int32 → Hp → (Option (Int32 × Hp))) (w1 : Int64) (w4 : Bool) (w5 : Int64) (w7 : Int32) (s0 : Bool) (s1 : Int32) (h : Hp) : Option (Int32 × Hp) :=
  lt (s1 + (b2i s0)) fun v1 =>
  k11 w1 v1 w4 w5 (w7 + 1) h
noncomputable def F_X7_letters_62 (k11 : Int64 → Int32 → Bool → Int64 → Int32 → Hp → (Option (Int32 × Hp))) (w1 : Int64) (w3 : Int32) (w5 : Int64) (w7 : Int32) (w8 : Int32) (s0 : Bool) (h : Hp) : Option (Int32 × Hp) :=
  if w8 ≤ 0 then
  F_X7_letters_75 k11 w1 s0 w5 w7 false w3 h
  else
  F_X7_letters_75 k11 w1 s0 w5 w7 true w3 h
noncomputable def F_X7_letters_108  : Nat → Int64 → Int32 → Int32 → Hp → Option (Int32 × Hp)
  | 0, _, _, _, _ => none
  | n + 1, w1, w3, w7, h =>
    if w3 ≤ w7 then
    some ((h.1 55 9), h)
    else
    if inb (h.1 55 9) 24 = true then
    lt (up h 59 (Int32.toNatClampNeg (h.1 55 9)) (Int64.toInt32 ((jlushr w1 ((8 : Int32) * w7)) &&& (255 : Int64)))) fun h3 =>
    lt (up h3 55 9 ((h3.1 55 9) + (1 : Int32))) fun h4 =>
    F_X7_letters_108 n w1 w3 (w7 + 1) h4
    else none
noncomputable def F_X7_letters_11  : Nat → Int64 → Int32 → Bool → Int64 → Int32 → Hp → Option (Int32 × Hp)
  | 0, _, _, _, _, _, _ => none
  | n + 1, w1, w3, w4, w5, w7, h =>
    if (8 : Int32) ≤ w7 then
    if w4 = true then
    if ((h.1 55 9) + w3) ≤ (24 : Int32) then
    F_X7_letters_108 fuel w1 w3 (0 : Int32) h
    else
    some (((-104) : Int32), h)
    else
    some (((-102) : Int32), h)
    else
    lt (Int64.toInt32 (w5 &&& (255 : Int64))) fun v5 =>
    lt (jlushr w5 (8 : Int32)) fun v6 =>
    if w4 = true then
    if (126 : Int32) < v5 then
    F_X7_letters_62 (F_X7_letters_11 n) w1 w3 v6 w7 v5 false h
    else
    if v5 = 0 then
    F_X7_letters_62 (F_X7_letters_11 n) w1 w3 v6 w7 v5 true h
    else
    if w3 = w7 then
    F_X7_letters_62 (F_X7_letters_11 n) w1 w3 v6 w7 v5 true h
    else
    F_X7_letters_62 (F_X7_letters_11 n) w1 w3 v6 w7 v5 false h
    else
    F_X7_letters_62 (F_X7_letters_11 n) w1 w3 v6 w7 v5 false h
noncomputable def F_X7_letters  (p1 : Int64) (σ : Hp) : Option (Int32 × Hp) :=
  F_X7_letters_11 fuel p1 (0 : Int32) true p1 (0 : Int32) σ
set_option maxHeartbeats 4000000 in
set_option maxRecDepth 100000 in
theorem T_X7_letters_75 {G : Gm} {α : Nat → Nat} (hO : Ok G α cX7_letters 9 RX7 0 0) (hR : Rt G α (some .int)) (k11 : Int64 → Int32 → Bool → Int64 → Int32 → Hp → (Option (Int32 × Hp))) (hk11 : ∀ (w1 : Int64) (w3 : Int32) (w4 : Bool) (w5 : Int64) (w7 : Int32) (h : Hp), V G α 9 (kSI) 11 [(0, .ref (α (55))), (1, .long w1), (3, .int w3), (4, .int (b2i w4)), (5, .long w5), (7, .int w7)] [] h (k11 w1 w3 w4 w5 w7 h)) : ∀ (w1 : Int64) (w4 : Bool) (w5 : Int64) (w7 : Int32) (s0 : Bool) (s1 : Int32) (h : Hp), V G α 9 (kSI) 75 [(0, .ref (α (55))), (1, .long w1), (4, .int (b2i w4)), (5, .long w5), (7, .int w7)] [.int (b2i s0), .int s1] h (F_X7_letters_75 k11 w1 w4 w5 w7 s0 s1 h) := by
  intro w1 w4 w5 w7 s0 s1 h
  rw [F_X7_letters_75]
  refine V_iadd hO dX7_letters_75 ?_
  refine V_istore_nN hO (ls2 := fun v1 => [(3, .int v1), (0, .ref (α (55))), (1, .long w1), (4, .int (b2i w4)), (5, .long w5), (7, .int w7)]) dX7_letters_76 rfl (by decide) (fun _ => rfl) (fun v1 => ?_)
  refine V_iinc hO (ls2 := [(7, .int (w7 + 1)), (3, .int v1), (0, .ref (α (55))), (1, .long w1), (4, .int (b2i w4)), (5, .long w5)]) (z := 1) 5 dX7_letters_77 rfl (by decide) (by decide) rfl ?_
  refine V_goto hO 11 dX7_letters_80 (by decide) ?_
  exact V_sub [2, 3, 1, 4, 5, 0] rfl (hk11 w1 v1 w4 w5 (w7 + 1) h )
set_option maxHeartbeats 4000000 in
set_option maxRecDepth 100000 in
theorem T_X7_letters_62 {G : Gm} {α : Nat → Nat} (hO : Ok G α cX7_letters 9 RX7 0 0) (hR : Rt G α (some .int)) (k11 : Int64 → Int32 → Bool → Int64 → Int32 → Hp → (Option (Int32 × Hp))) (hk11 : ∀ (w1 : Int64) (w3 : Int32) (w4 : Bool) (w5 : Int64) (w7 : Int32) (h : Hp), V G α 9 (kSI) 11 [(0, .ref (α (55))), (1, .long w1), (3, .int w3), (4, .int (b2i w4)), (5, .long w5), (7, .int w7)] [] h (k11 w1 w3 w4 w5 w7 h)) : ∀ (w1 : Int64) (w3 : Int32) (w5 : Int64) (w7 : Int32) (w8 : Int32) (s0 : Bool) (h : Hp), V G α 9 (kSI) 62 [(0, .ref (α (55))), (1, .long w1), (3, .int w3), (5, .long w5), (7, .int w7), (8, .int w8)] [.int (b2i s0)] h (F_X7_letters_62 k11 w1 w3 w5 w7 w8 s0 h) := by
  intro w1 w3 w5 w7 w8 s0 h
  rw [F_X7_letters_62]
  refine V_istore hO (ls2 := [(4, .int (b2i s0)), (0, .ref (α (55))), (1, .long w1), (3, .int w3), (5, .long w5), (7, .int w7), (8, .int w8)]) dX7_letters_62 (by decide) rfl ?_
  refine V_iload_n hO 3 dX7_letters_64 rfl rfl ?_
  refine V_iload hO 6 dX7_letters_65 rfl ?_
  refine V_if_le hO 74 dX7_letters_67 (by decide) ?_ ?_
  · refine V_iconst hO 0 dX7_letters_74 (by decide) ?_
    exact V_sub [1, 2, 0, 4, 5] rfl (T_X7_letters_75 hO hR k11 hk11 w1 s0 w5 w7 false w3 h )
  · refine V_iconst hO 1 dX7_letters_70 (by decide) ?_
    refine V_goto hO 75 dX7_letters_71 (by decide) ?_
    exact V_sub [1, 2, 0, 4, 5] rfl (T_X7_letters_75 hO hR k11 hk11 w1 s0 w5 w7 true w3 h )
set_option maxHeartbeats 4000000 in
set_option maxRecDepth 100000 in
theorem T_X7_letters_108 {G : Gm} {α : Nat → Nat} (hO : Ok G α cX7_letters 9 RX7 0 0) (hR : Rt G α (some .int)) : ∀ (fuel : Nat) (w1 : Int64) (w3 : Int32) (w7 : Int32) (h : Hp), V G α 9 (kSI) 108 [(0, .ref (α (55))), (1, .long w1), (3, .int w3), (7, .int w7)] [] h (F_X7_letters_108 fuel w1 w3 w7 h) := by
  intro fuel
  induction fuel with
  | zero => intro w1 w3 w7 h; exact V_none rfl
  | succ n ih =>
    intro w1 w3 w7 h
    rw [F_X7_letters_108]
    refine V_iload hO 3 dX7_letters_108 rfl ?_
    refine V_iload_n hO 2 dX7_letters_110 rfl rfl ?_
    refine V_icmp_ge hO 151 dX7_letters_111 (by decide) ?_ ?_
    · refine V_aload_n hO 0 dX7_letters_151 rfl rfl ?_
      refine V_get hO (v := .int (h.1 55 9)) fl_X7_137 (by decide) (fun _ _ => ce_55) rfl dX7_letters_152 ?_
      exact V_iret hO hR rfl dX7_letters_155
    · refine V_aload_n hO 0 dX7_letters_114 rfl rfl ?_
      refine V_get hO (v := .ref (α (59))) fl_X7_19 (by decide) (fun _ _ => ce_55) rfl dX7_letters_115 ?_
      refine V_aload_n hO 0 dX7_letters_118 rfl rfl ?_
      refine V_get hO (v := .int (h.1 55 9)) fl_X7_137 (by decide) (fun _ _ => ce_55) rfl dX7_letters_119 ?_
      refine V_lload_n hO 1 dX7_letters_122 rfl rfl ?_
      refine V_bipush hO 8 dX7_letters_123 (by decide) ?_
      refine V_iload hO 3 dX7_letters_125 rfl ?_
      refine V_imul hO dX7_letters_127 ?_
      refine V_lushr hO dX7_letters_128 ?_
      refine V_ldc2 hO (v := 255) dX7_letters_129 cn_X7_135 ?_
      refine V_land hO dX7_letters_132 ?_
      refine V_l2i hO dX7_letters_133 ?_
      refine V_chk rfl fun c2 => ?_
      refine V_iast hO (by decide) (fun _ _ _ => ce_59) (inb_in c2) dX7_letters_134 (V_name fun h3 => ?_)
      refine V_aload_n hO 0 dX7_letters_135 rfl rfl ?_
      refine V_dup hO dX7_letters_136 rfl ?_
      refine V_get hO (v := .int (h3.1 55 9)) fl_X7_137 (by decide) (fun _ _ => ce_55) rfl dX7_letters_137 ?_
      refine V_iconst hO 1 dX7_letters_140 (by decide) ?_
      refine V_iadd hO dX7_letters_141 ?_
      refine V_puti hO fp_X7_137 (by decide) (fun _ _ => ce_55) (Nat.le_of_ble_eq_true rfl) (fun _ _ => pe_55_9) dX7_letters_142 (V_name fun h4 => ?_)
      refine V_iinc hO (ls2 := [(7, .int (w7 + 1)), (0, .ref (α (55))), (1, .long w1), (3, .int w3)]) (z := 1) 3 dX7_letters_145 rfl (by decide) (by decide) rfl ?_
      refine V_goto hO 108 dX7_letters_148 (by decide) ?_
      exact V_sub [1, 2, 3, 0] rfl (ih w1 w3 (w7 + 1) h4 )
set_option maxHeartbeats 4000000 in
set_option maxRecDepth 100000 in
theorem T_X7_letters_11 {G : Gm} {α : Nat → Nat} (hO : Ok G α cX7_letters 9 RX7 0 0) (hR : Rt G α (some .int)) : ∀ (fuel : Nat) (w1 : Int64) (w3 : Int32) (w4 : Bool) (w5 : Int64) (w7 : Int32) (h : Hp), V G α 9 (kSI) 11 [(0, .ref (α (55))), (1, .long w1), (3, .int w3), (4, .int (b2i w4)), (5, .long w5), (7, .int w7)] [] h (F_X7_letters_11 fuel w1 w3 w4 w5 w7 h) := by
  intro fuel
  induction fuel with
  | zero => intro w1 w3 w4 w5 w7 h; exact V_none rfl
  | succ n ih =>
    intro w1 w3 w4 w5 w7 h
    rw [F_X7_letters_11]
    refine V_iload hO 5 dX7_letters_11 rfl ?_
    refine V_bipush hO 8 dX7_letters_13 (by decide) ?_
    refine V_icmp_ge hO 83 dX7_letters_15 (by decide) ?_ ?_
    · refine V_iload hO 3 dX7_letters_83 rfl ?_
      refine V_ifneZ hO 91 dX7_letters_85 (by decide) ?_ ?_
      · refine V_aload_n hO 0 dX7_letters_91 rfl rfl ?_
        refine V_get hO (v := .int (h.1 55 9)) fl_X7_137 (by decide) (fun _ _ => ce_55) rfl dX7_letters_92 ?_
        refine V_iload_n hO 2 dX7_letters_95 rfl rfl ?_
        refine V_iadd hO dX7_letters_96 ?_
        refine V_bipush hO 24 dX7_letters_97 (by decide) ?_
        refine V_icmp_le hO 105 dX7_letters_99 (by decide) ?_ ?_
        · refine V_iconst hO 0 dX7_letters_105 (by decide) ?_
          refine V_istore hO (ls2 := [(7, .int 0), (0, .ref (α (55))), (1, .long w1), (3, .int w3), (4, .int (b2i w4)), (5, .long w5)]) dX7_letters_106 (by decide) rfl ?_
          exact V_sub [1, 2, 3, 0] rfl (T_X7_letters_108 hO hR fuel w1 w3 (0 : Int32) h )
        · refine V_bipush hO (-104) dX7_letters_102 (by decide) ?_
          exact V_iret hO hR rfl dX7_letters_104
      · refine V_bipush hO (-102) dX7_letters_88 (by decide) ?_
        exact V_iret hO hR rfl dX7_letters_90
    · refine V_lload hO 4 dX7_letters_18 rfl ?_
      refine V_ldc2 hO (v := 255) dX7_letters_20 cn_X7_135 ?_
      refine V_land hO dX7_letters_23 ?_
      refine V_l2i hO dX7_letters_24 ?_
      refine V_istoreN hO (ls2 := fun v5 => [(8, .int v5), (0, .ref (α (55))), (1, .long w1), (3, .int w3), (4, .int (b2i w4)), (5, .long w5), (7, .int w7)]) dX7_letters_25 (by decide) (fun _ => rfl) (fun v5 => ?_)
      refine V_lload hO 5 dX7_letters_27 rfl ?_
      refine V_bipush hO 8 dX7_letters_29 (by decide) ?_
      refine V_lushr hO dX7_letters_31 ?_
      refine V_lstoreN hO (ls2 := fun v6 => [(5, .long v6), (8, .int v5), (0, .ref (α (55))), (1, .long w1), (3, .int w3), (4, .int (b2i w4)), (7, .int w7)]) dX7_letters_32 (by decide) (fun _ => rfl) (fun v6 => ?_)
      refine V_iload hO 5 dX7_letters_34 rfl ?_
      refine V_ifeqZ hO 61 dX7_letters_36 (by decide) ?_ ?_
      · refine V_iconst hO 0 dX7_letters_61 (by decide) ?_
        exact V_sub [2, 3, 4, 0, 6, 1] rfl (T_X7_letters_62 hO hR (F_X7_letters_11 n) ih w1 w3 v6 w7 v5 false h )
      · refine V_iload hO 1 dX7_letters_39 rfl ?_
        refine V_bipush hO 126 dX7_letters_41 (by decide) ?_
        refine V_icmp_gt hO 61 dX7_letters_43 (by decide) ?_ ?_
        · refine V_iconst hO 0 dX7_letters_61 (by decide) ?_
          exact V_sub [2, 3, 4, 0, 6, 1] rfl (T_X7_letters_62 hO hR (F_X7_letters_11 n) ih w1 w3 v6 w7 v5 false h )
        · refine V_iload hO 1 dX7_letters_46 rfl ?_
          refine V_if_eq hO 57 dX7_letters_48 (by decide) ?_ ?_
          · refine V_iconst hO 1 dX7_letters_57 (by decide) ?_
            refine V_goto hO 62 dX7_letters_58 (by decide) ?_
            exact V_sub [2, 3, 4, 0, 6, 1] rfl (T_X7_letters_62 hO hR (F_X7_letters_11 n) ih w1 w3 v6 w7 v5 true h )
          · refine V_iload_n hO 4 dX7_letters_51 rfl rfl ?_
            refine V_iload hO 6 dX7_letters_52 rfl ?_
            refine V_icmp_ne hO 61 dX7_letters_54 (by decide) ?_ ?_
            · refine V_iconst hO 0 dX7_letters_61 (by decide) ?_
              exact V_sub [2, 3, 4, 0, 6, 1] rfl (T_X7_letters_62 hO hR (F_X7_letters_11 n) ih w1 w3 v6 w7 v5 false h )
            · refine V_iconst hO 1 dX7_letters_57 (by decide) ?_
              refine V_goto hO 62 dX7_letters_58 (by decide) ?_
              exact V_sub [2, 3, 4, 0, 6, 1] rfl (T_X7_letters_62 hO hR (F_X7_letters_11 n) ih w1 w3 v6 w7 v5 true h )
set_option maxHeartbeats 4000000 in
set_option maxRecDepth 100000 in
theorem T_X7_letters {G : Gm} {α : Nat → Nat} (hO : Ok G α cX7_letters 9 RX7 0 0) (hR : Rt G α (some .int)) (p1 : Int64) (σ : Hp) : V G α 9 (kSI) 0 [(0, .ref (α (55))), (1, .long p1)] [] σ (F_X7_letters p1 σ) := by
  rw [F_X7_letters]
  refine V_iconst hO 0 dX7_letters_0 (by decide) ?_
  refine V_istore_n hO (ls2 := [(3, .int 0), (0, .ref (α (55))), (1, .long p1)]) dX7_letters_1 rfl (by decide) rfl ?_
  refine V_iconst hO 1 dX7_letters_2 (by decide) ?_
  refine V_istore hO (ls2 := [(4, .int 1), (3, .int 0), (0, .ref (α (55))), (1, .long p1)]) dX7_letters_3 (by decide) rfl ?_
  refine V_lload_n hO 3 dX7_letters_5 rfl rfl ?_
  refine V_lstore hO (ls2 := [(5, .long p1), (4, .int 1), (3, .int 0), (0, .ref (α (55))), (1, .long p1)]) dX7_letters_6 (by decide) rfl ?_
  refine V_iconst hO 0 dX7_letters_8 (by decide) ?_
  refine V_istore hO (ls2 := [(7, .int 0), (5, .long p1), (4, .int 1), (3, .int 0), (0, .ref (α (55))), (1, .long p1)]) dX7_letters_9 (by decide) rfl ?_
  exact V_sub [4, 5, 3, 2, 1, 0] rfl (T_X7_letters_11 hO hR fuel p1 (0 : Int32) true p1 (0 : Int32) σ )
set_option maxHeartbeats 4000000 in
set_option maxRecDepth 100000 in
theorem C_X7_letters (α : Nat → Nat) (p1 : Int64) (σ : Hp) : Ct yX7_letters cX7_letters 9 (some .int) 0 0 α [.ref (α (55)), .long p1] σ (kSI (F_X7_letters p1 σ)) := ct_of_V (own := RX7) rfl (by decide +kernel) (Nat.le_of_ble_eq_true rfl) fun _ hO hR => T_X7_letters hO hR p1 σ
