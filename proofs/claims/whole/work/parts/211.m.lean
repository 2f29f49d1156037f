/-! X7_skate -/
noncomputable def F_X7_skate  (p1 : Int32) (p2 : Int32) (p3 : Int32) (σ : Hp) : Option (Int32 × Hp) :=
  if (F_X7_isSquare p1 σ) = true then
  if (F_X7_isSquare p2 σ) = true then
  if (F_X7_in (Int32.toInt64 p3) (0 : Int64) (1 : Int64) σ) = true then
  (F_X7_tellSkate p1 p2 p3 σ).bind fun q1 =>
  some (q1.1, q1.2)
  else
  some (((-102) : Int32), σ)
  else
  some (((-101) : Int32), σ)
  else
  some (((-101) : Int32), σ)
set_option maxHeartbeats 4000000 in
set_option maxRecDepth 100000 in
theorem T_X7_skate {G : Gm} {α : Nat → Nat} (hO : Ok G α cX7_skate 4 RX7 3 76) (hR : Rt G α (some .int)) (p1 : Int32) (p2 : Int32) (p3 : Int32) (σ : Hp) : V G α 4 (kSI) 0 [(0, .ref (α (55))), (1, .int p1), (2, .int p2), (3, .int p3)] [] σ (F_X7_skate p1 p2 p3 σ) := by
  rw [F_X7_skate]
  refine V_aload_n hO 0 dX7_skate_0 rfl rfl ?_
  refine V_iload_n hO 1 dX7_skate_1 rfl rfl ?_
  refine V_callV hO ml_X7_98 (C_X7_isSquare α p1 σ) (by decide) (fun _ _ => ce_55) rfl rfl (rest := []) rfl rfl (Nat.le_of_ble_eq_true rfl) ⟨Nat.le_of_ble_eq_true rfl, Nat.le_of_ble_eq_true rfl⟩ dX7_skate_2 (kc_Z ?_)
  refine V_ifeqZ hO 16 dX7_skate_5 (by decide) ?_ ?_
  · refine V_bipush hO (-101) dX7_skate_16 (by decide) ?_
    exact V_iret hO hR rfl dX7_skate_18
  · refine V_aload_n hO 0 dX7_skate_8 rfl rfl ?_
    refine V_iload_n hO 2 dX7_skate_9 rfl rfl ?_
    refine V_callV hO ml_X7_98 (C_X7_isSquare α p2 σ) (by decide) (fun _ _ => ce_55) rfl rfl (rest := []) rfl rfl (Nat.le_of_ble_eq_true rfl) ⟨Nat.le_of_ble_eq_true rfl, Nat.le_of_ble_eq_true rfl⟩ dX7_skate_10 (kc_Z ?_)
    refine V_ifneZ hO 19 dX7_skate_13 (by decide) ?_ ?_
    · refine V_iload_n hO 3 dX7_skate_19 rfl rfl ?_
      refine V_i2l hO dX7_skate_20 ?_
      refine V_lconst hO 0 dX7_skate_21 (by decide) ?_
      refine V_lconst hO 1 dX7_skate_22 (by decide) ?_
      refine V_callS hO ml_X7_75 (C_X7_in α (Int32.toInt64 p3) (0 : Int64) (1 : Int64) σ) (rest := []) rfl rfl (Nat.le_of_ble_eq_true rfl) ⟨Nat.le_of_ble_eq_true rfl, Nat.le_of_ble_eq_true rfl⟩ dX7_skate_23 (kc_Z ?_)
      refine V_ifeqZ hO 39 dX7_skate_26 (by decide) ?_ ?_
      · refine V_bipush hO (-102) dX7_skate_39 (by decide) ?_
        exact V_iret hO hR rfl dX7_skate_41
      · refine V_aload_n hO 0 dX7_skate_29 rfl rfl ?_
        refine V_iload_n hO 1 dX7_skate_30 rfl rfl ?_
        refine V_iload_n hO 2 dX7_skate_31 rfl rfl ?_
        refine V_iload_n hO 3 dX7_skate_32 rfl rfl ?_
        refine V_callV hO ml_X7_218 (C_X7_tellSkate α p1 p2 p3 σ) (by decide) (fun _ _ => ce_55) rfl rfl (rest := []) rfl rfl (Nat.le_of_ble_eq_true rfl) ⟨Nat.le_of_ble_eq_true rfl, Nat.le_of_ble_eq_true rfl⟩ dX7_skate_33 (kc_SI rfl fun q1 => ?_)
        refine V_goto hO 41 dX7_skate_36 (by decide) ?_
        exact V_iret hO hR rfl dX7_skate_41
    · refine V_bipush hO (-101) dX7_skate_16 (by decide) ?_
      exact V_iret hO hR rfl dX7_skate_18
set_option maxHeartbeats 4000000 in
set_option maxRecDepth 100000 in
theorem C_X7_skate (α : Nat → Nat) (p1 : Int32) (p2 : Int32) (p3 : Int32) (σ : Hp) : Ct yX7_skate cX7_skate 4 (some .int) 3 76 α [.ref (α (55)), .int p1, .int p2, .int p3] σ (kSI (F_X7_skate p1 p2 p3 σ)) := ct_of_V (own := RX7) rfl (by decide +kernel) (Nat.le_of_ble_eq_true rfl) fun _ hO hR => T_X7_skate hO hR p1 p2 p3 σ
/-! X7_term -/
noncomputable def F_X7_term_6 (σ : Hp) : Nat → Int64 → Int64 → Int32 → Int64 → Int64 → Option Int64
  | 0, _, _, _, _, _ => none
  | n + 1, w0, w2, w4, w5, w7 =>
    if w5 = (0 : Int64) then
    if w4 = 0 then
    if ¬ w7 = 0 then
    some (w0 / w7)
    else none
    else
    if ¬ w7 = 0 then
    some (w2 / w7)
    else none
    else
    if ¬ w5 = 0 then
    lt (jreml w7 w5) fun v3 =>
    F_X7_term_6 σ n w0 w2 w4 v3 w5
    else none
noncomputable def F_X7_term  (p1 : Int64) (p2 : Int64) (p3 : Int32) (σ : Hp) : Option Int64 :=
  F_X7_term_6 σ fuel p1 p2 p3 p1 p2
set_option maxHeartbeats 4000000 in
set_option maxRecDepth 100000 in
theorem T_X7_term_6 {G : Gm} {α : Nat → Nat} (hO : Ok G α cX7_term 11 RX7 0 0) (hR : Rt G α (some .long)) (σ : Hp) : ∀ (fuel : Nat) (w0 : Int64) (w2 : Int64) (w4 : Int32) (w5 : Int64) (w7 : Int64), V G α 11 (kOJ σ) 6 [(0, .long w0), (2, .long w2), (4, .int w4), (5, .long w5), (7, .long w7)] [] σ (F_X7_term_6 σ fuel w0 w2 w4 w5 w7) := by
  intro fuel
  induction fuel with
  | zero => intro w0 w2 w4 w5 w7; exact V_none rfl
  | succ n ih =>
    intro w0 w2 w4 w5 w7
    rw [F_X7_term_6]
    refine V_lload hO 3 dX7_term_6 rfl ?_
    refine V_lconst hO 0 dX7_term_8 (by decide) ?_
    refine V_lcmp_eq hO 31 dX7_term_9 dX7_term_10 (by decide) ?_ ?_
    · refine V_iload hO 2 dX7_term_31 rfl ?_
      refine V_if_ne hO 43 dX7_term_33 (by decide) ?_ ?_
      · refine V_lload_n hO 1 dX7_term_43 rfl rfl ?_
        refine V_lload hO 4 dX7_term_44 rfl ?_
        refine V_chk rfl fun c1 => ?_
        refine V_ldiv hO dX7_term_46 c1 ?_
        exact V_lret hO hR rfl dX7_term_47
      · refine V_lload_n hO 0 dX7_term_36 rfl rfl ?_
        refine V_lload hO 4 dX7_term_37 rfl ?_
        refine V_chk rfl fun c2 => ?_
        refine V_ldiv hO dX7_term_39 c2 ?_
        refine V_goto hO 47 dX7_term_40 (by decide) ?_
        exact V_lret hO hR rfl dX7_term_47
    · refine V_lload hO 4 dX7_term_13 rfl ?_
      refine V_lload hO 3 dX7_term_15 rfl ?_
      refine V_chk rfl fun c4 => ?_
      refine V_lrem hO dX7_term_17 c4 ?_
      refine V_lstoreN hO (ls2 := fun v3 => [(9, .long v3), (0, .long w0), (2, .long w2), (4, .int w4), (5, .long w5), (7, .long w7)]) dX7_term_18 (by decide) (fun _ => rfl) (fun v3 => ?_)
      refine V_lload hO 4 dX7_term_20 rfl ?_
      refine V_lstore hO (ls2 := [(7, .long w5), (9, .long v3), (0, .long w0), (2, .long w2), (4, .int w4), (5, .long w5)]) dX7_term_22 (by decide) rfl ?_
      refine V_lload hO 1 dX7_term_24 rfl ?_
      refine V_lstore hO (ls2 := [(5, .long v3), (7, .long w5), (9, .long v3), (0, .long w0), (2, .long w2), (4, .int w4)]) dX7_term_26 (by decide) rfl ?_
      refine V_goto hO 6 dX7_term_28 (by decide) ?_
      exact V_sub [3, 4, 5, 0, 1] rfl (ih w0 w2 w4 v3 w5 )
set_option maxHeartbeats 4000000 in
set_option maxRecDepth 100000 in
theorem T_X7_term {G : Gm} {α : Nat → Nat} (hO : Ok G α cX7_term 11 RX7 0 0) (hR : Rt G α (some .long)) (p1 : Int64) (p2 : Int64) (p3 : Int32) (σ : Hp) : V G α 11 (kOJ σ) 0 [(0, .long p1), (2, .long p2), (4, .int p3)] [] σ (F_X7_term p1 p2 p3 σ) := by
  rw [F_X7_term]
  refine V_lload_n hO 0 dX7_term_0 rfl rfl ?_
  refine V_lstore hO (ls2 := [(5, .long p1), (0, .long p1), (2, .long p2), (4, .int p3)]) dX7_term_1 (by decide) rfl ?_
  refine V_lload_n hO 2 dX7_term_3 rfl rfl ?_
  refine V_lstore hO (ls2 := [(7, .long p2), (5, .long p1), (0, .long p1), (2, .long p2), (4, .int p3)]) dX7_term_4 (by decide) rfl ?_
  exact V_sub [2, 3, 4, 1, 0] rfl (T_X7_term_6 hO hR σ fuel p1 p2 p3 p1 p2 )
set_option maxHeartbeats 4000000 in
set_option maxRecDepth 100000 in
theorem C_X7_term (α : Nat → Nat) (p1 : Int64) (p2 : Int64) (p3 : Int32) (σ : Hp) : Ct yX7_term cX7_term 11 (some .long) 0 0 α [.long p1, .long p2, .int p3] σ (kOJ σ (F_X7_term p1 p2 p3 σ)) := ct_of_V (own := RX7) rfl (by decide +kernel) (Nat.le_of_ble_eq_true rfl) fun _ hO hR => T_X7_term hO hR p1 p2 p3 σ
/-! X7_staysBy -/
noncomputable def F_X7_staysBy  (p1 : Int32) (p2 : Int32) (p3 : Int32) (σ : Hp) : Option Bool :=
  if inb ((8 : Int32) * p1) 80 = true then
  lt (σ.1 58 (Int32.toNatClampNeg ((8 : Int32) * p1))) fun v2 =>
  if inb (((8 : Int32) * p1) + (1 : Int32)) 80 = true then
  if inb (σ.1 58 (Int32.toNatClampNeg (((8 : Int32) * p1) + (1 : Int32)))) 16 = true then
  lt ((σ.1 56 (Int32.toNatClampNeg (σ.1 58 (Int32.toNatClampNeg (((8 : Int32) * p1) + (1 : Int32)))))) - (p2 * p3)) fun v5 =>
  if inb (((8 : Int32) * p1) + (5 : Int32)) 80 = true then
  lt ((σ.1 58 (Int32.toNatClampNeg (((8 : Int32) * p1) + (5 : Int32)))) - (p2 * (F_X7_thawOf v2 p3 σ))) fun v7 =>
  if inb (((8 : Int32) * p1) + (6 : Int32)) 80 = true then
  if (σ.1 58 (Int32.toNatClampNeg (((8 : Int32) * p1) + (6 : Int32)))) = (2 : Int32) then
  some true
  else
  (F_X7_isThere p1 σ).bind fun v9 =>
  if v9 = true then
  if p2 = 0 then
  some true
  else
  if v5 ≤ 0 then
  some false
  else
  if v7 ≤ 0 then
  some false
  else
  if v2 = (3 : Int32) then
  some false
  else
  some true
  else
  some false
  else none
  else none
  else none
  else none
  else none
set_option maxHeartbeats 4000000 in
set_option maxRecDepth 100000 in
theorem T_X7_staysBy {G : Gm} {α : Nat → Nat} (hO : Ok G α cX7_staysBy 7 RX7 1 21) (hR : Rt G α (some .boolean)) (p1 : Int32) (p2 : Int32) (p3 : Int32) (σ : Hp) : V G α 7 (kOZ σ) 0 [(0, .ref (α (55))), (1, .int p1), (2, .int p2), (3, .int p3)] [] σ (F_X7_staysBy p1 p2 p3 σ) := by
  rw [F_X7_staysBy]
  refine V_aload_n hO 0 dX7_staysBy_0 rfl rfl ?_
  refine V_get hO (v := .ref (α (58))) fl_X7_16 (by decide) (fun _ _ => ce_55) rfl dX7_staysBy_1 ?_
  refine V_bipush hO 8 dX7_staysBy_4 (by decide) ?_
  refine V_iload_n hO 1 dX7_staysBy_6 rfl rfl ?_
  refine V_imul hO dX7_staysBy_7 ?_
  refine V_chk rfl fun c1 => ?_
  refine V_iald hO (by decide) (fun _ _ => ce_58) (inb_in c1) dX7_staysBy_8 ?_
  refine V_istoreN hO (ls2 := fun v2 => [(4, .int v2), (0, .ref (α (55))), (1, .int p1), (2, .int p2), (3, .int p3)]) dX7_staysBy_9 (by decide) (fun _ => rfl) (fun v2 => ?_)
  refine V_aload_n hO 1 dX7_staysBy_11 rfl rfl ?_
  refine V_get hO (v := .ref (α (56))) fl_X7_7 (by decide) (fun _ _ => ce_55) rfl dX7_staysBy_12 ?_
  refine V_aload_n hO 1 dX7_staysBy_15 rfl rfl ?_
  refine V_get hO (v := .ref (α (58))) fl_X7_16 (by decide) (fun _ _ => ce_55) rfl dX7_staysBy_16 ?_
  refine V_bipush hO 8 dX7_staysBy_19 (by decide) ?_
  refine V_iload_n hO 2 dX7_staysBy_21 rfl rfl ?_
  refine V_imul hO dX7_staysBy_22 ?_
  refine V_iconst hO 1 dX7_staysBy_23 (by decide) ?_
  refine V_iadd hO dX7_staysBy_24 ?_
  refine V_chk rfl fun c3 => ?_
  refine V_iald hO (by decide) (fun _ _ => ce_58) (inb_in c3) dX7_staysBy_25 ?_
  refine V_chk rfl fun c4 => ?_
  refine V_iald hO (by decide) (fun _ _ => ce_56) (inb_in c4) dX7_staysBy_26 ?_
  refine V_iload_n hO 3 dX7_staysBy_27 rfl rfl ?_
  refine V_iload_n hO 4 dX7_staysBy_28 rfl rfl ?_
  refine V_imul hO dX7_staysBy_29 ?_
  refine V_isub hO dX7_staysBy_30 ?_
  refine V_istoreN hO (ls2 := fun v5 => [(5, .int v5), (4, .int v2), (0, .ref (α (55))), (1, .int p1), (2, .int p2), (3, .int p3)]) dX7_staysBy_31 (by decide) (fun _ => rfl) (fun v5 => ?_)
  refine V_aload_n hO 2 dX7_staysBy_33 rfl rfl ?_
  refine V_get hO (v := .ref (α (58))) fl_X7_16 (by decide) (fun _ _ => ce_55) rfl dX7_staysBy_34 ?_
  refine V_bipush hO 8 dX7_staysBy_37 (by decide) ?_
  refine V_iload_n hO 3 dX7_staysBy_39 rfl rfl ?_
  refine V_imul hO dX7_staysBy_40 ?_
  refine V_iconst hO 5 dX7_staysBy_41 (by decide) ?_
  refine V_iadd hO dX7_staysBy_42 ?_
  refine V_chk rfl fun c6 => ?_
  refine V_iald hO (by decide) (fun _ _ => ce_58) (inb_in c6) dX7_staysBy_43 ?_
  refine V_iload_n hO 4 dX7_staysBy_44 rfl rfl ?_
  refine V_iload hO 1 dX7_staysBy_45 rfl ?_
  refine V_iload_n hO 5 dX7_staysBy_47 rfl rfl ?_
  refine V_callS hO ml_X7_163 (C_X7_thawOf α v2 p3 σ) (rest := [.int p2, .int (σ.1 58 (Int32.toNatClampNeg (((8 : Int32) * p1) + (5 : Int32))))]) rfl rfl (Nat.le_of_ble_eq_true rfl) ⟨Nat.le_of_ble_eq_true rfl, Nat.le_of_ble_eq_true rfl⟩ dX7_staysBy_48 (kc_I ?_)
  refine V_imul hO dX7_staysBy_51 ?_
  refine V_isub hO dX7_staysBy_52 ?_
  refine V_istoreN hO (ls2 := fun v7 => [(6, .int v7), (5, .int v5), (4, .int v2), (0, .ref (α (55))), (1, .int p1), (2, .int p2), (3, .int p3)]) dX7_staysBy_53 (by decide) (fun _ => rfl) (fun v7 => ?_)
  refine V_aload_n hO 3 dX7_staysBy_55 rfl rfl ?_
  refine V_get hO (v := .ref (α (58))) fl_X7_16 (by decide) (fun _ _ => ce_55) rfl dX7_staysBy_56 ?_
  refine V_bipush hO 8 dX7_staysBy_59 (by decide) ?_
  refine V_iload_n hO 4 dX7_staysBy_61 rfl rfl ?_
  refine V_imul hO dX7_staysBy_62 ?_
  refine V_bipush hO 6 dX7_staysBy_63 (by decide) ?_
  refine V_iadd hO dX7_staysBy_65 ?_
  refine V_chk rfl fun c8 => ?_
  refine V_iald hO (by decide) (fun _ _ => ce_58) (inb_in c8) dX7_staysBy_66 ?_
  refine V_iconst hO 2 dX7_staysBy_67 (by decide) ?_
  refine V_icmp_eq hO 99 dX7_staysBy_68 (by decide) ?_ ?_
  · refine V_iconst hO 1 dX7_staysBy_99 (by decide) ?_
    refine V_goto hO 104 dX7_staysBy_100 (by decide) ?_
    exact V_zret hO hR (by decide) rfl dX7_staysBy_104
  · refine V_aload_n hO 3 dX7_staysBy_71 rfl rfl ?_
    refine V_iload_n hO 4 dX7_staysBy_72 rfl rfl ?_
    refine V_callV hO ml_X7_94 (C_X7_isThere α p1 σ) (by decide) (fun _ _ => ce_55) rfl rfl (rest := []) rfl rfl (Nat.le_of_ble_eq_true rfl) ⟨Nat.le_of_ble_eq_true rfl, Nat.le_of_ble_eq_true rfl⟩ dX7_staysBy_73 (kc_OZ rfl fun v9 => ?_)
    refine V_ifeqZ hO 103 dX7_staysBy_76 (by decide) ?_ ?_
    · refine V_iconst hO 0 dX7_staysBy_103 (by decide) ?_
      exact V_zret hO hR (by decide) rfl dX7_staysBy_104
    · refine V_iload_n hO 5 dX7_staysBy_79 rfl rfl ?_
      refine V_if_eq hO 99 dX7_staysBy_80 (by decide) ?_ ?_
      · refine V_iconst hO 1 dX7_staysBy_99 (by decide) ?_
        refine V_goto hO 104 dX7_staysBy_100 (by decide) ?_
        exact V_zret hO hR (by decide) rfl dX7_staysBy_104
      · refine V_iload hO 1 dX7_staysBy_83 rfl ?_
        refine V_if_le hO 103 dX7_staysBy_85 (by decide) ?_ ?_
        · refine V_iconst hO 0 dX7_staysBy_103 (by decide) ?_
          exact V_zret hO hR (by decide) rfl dX7_staysBy_104
        · refine V_iload hO 0 dX7_staysBy_88 rfl ?_
          refine V_if_le hO 103 dX7_staysBy_90 (by decide) ?_ ?_
          · refine V_iconst hO 0 dX7_staysBy_103 (by decide) ?_
            exact V_zret hO hR (by decide) rfl dX7_staysBy_104
          · refine V_iload hO 2 dX7_staysBy_93 rfl ?_
            refine V_iconst hO 3 dX7_staysBy_95 (by decide) ?_
            refine V_icmp_eq hO 103 dX7_staysBy_96 (by decide) ?_ ?_
            · refine V_iconst hO 0 dX7_staysBy_103 (by decide) ?_
              exact V_zret hO hR (by decide) rfl dX7_staysBy_104
            · refine V_iconst hO 1 dX7_staysBy_99 (by decide) ?_
              refine V_goto hO 104 dX7_staysBy_100 (by decide) ?_
              exact V_zret hO hR (by decide) rfl dX7_staysBy_104
set_option maxHeartbeats 4000000 in
set_option maxRecDepth 100000 in
theorem C_X7_staysBy (α : Nat → Nat) (p1 : Int32) (p2 : Int32) (p3 : Int32) (σ : Hp) : Ct yX7_staysBy cX7_staysBy 7 (some .boolean) 1 21 α [.ref (α (55)), .int p1, .int p2, .int p3] σ (kOZ σ (F_X7_staysBy p1 p2 p3 σ)) := ct_of_V (own := RX7) rfl (by decide +kernel) (Nat.le_of_ble_eq_true rfl) fun _ hO hR => T_X7_staysBy hO hR p1 p2 p3 σ
/-! X7_odds -/
noncomputable def F_X7_odds_60 (σ : Hp)  : Option Int64 :=
  some ((-102) : Int64)
noncomputable def F_X7_odds_114 (σ : Hp) (k89 : Int32 → Int32 → Int32 → Int32 → Int32 → Int64 → Int64 → Int64 → Int32 → Int64 → Int32 → (Option Int64)) (w1 : Int32) (w2 : Int32) (w3 : Int32) (w4 : Int32) (w5 : Int32) (w6 : Int64) (w8 : Int64) (w10 : Int64) (w12 : Int32) (w15 : Int32) (s0 : Int64) (s1 : Int64) : Option Int64 :=
  lt (s1 * s0) fun v1 =>
  k89 w1 w2 w3 w4 w5 w6 w8 w10 w12 v1 (w15 + 1)
noncomputable def F_X7_odds_177 (σ : Hp) (k76 : Int32 → Int32 → Int32 → Int32 → Int32 → Int64 → Int64 → Int64 → Int32 → (Option Int64)) (w1 : Int32) (w2 : Int32) (w3 : Int32) (w4 : Int32) (w5 : Int32) (w6 : Int64) (w10 : Int64) (w12 : Int32) (s0 : Int64) (s1 : Int64) : Option Int64 :=
  lt (s1 * s0) fun v2 =>
  k76 w1 w2 w3 w4 w5 w6 v2 w10 (w12 + 1)
noncomputable def F_X7_odds_143 (σ : Hp) (k76 : Int32 → Int32 → Int32 → Int32 → Int32 → Int64 → Int64 → Int64 → Int32 → (Option Int64)) (w1 : Int32) (w2 : Int32) (w3 : Int32) (w4 : Int32) (w5 : Int32) (w8 : Int64) (w10 : Int64) (w12 : Int32) (s0 : Int64) (s1 : Int64) : Option Int64 :=
  lt (s1 + s0) fun v3 =>
  if ¬ (Int32.toInt64 (w12 + (1 : Int32))) = 0 then
  lt ((w10 * (Int32.toInt64 (w2 - w12))) / (Int32.toInt64 (w12 + (1 : Int32)))) fun v4 =>
  if w2 ≤ w12 then
  F_X7_odds_177 σ k76 w1 w2 w3 w4 w5 v3 v4 w12 (1 : Int64) w8
  else
  F_X7_odds_177 σ k76 w1 w2 w3 w4 w5 v3 v4 w12 (10 : Int64) w8
  else none
noncomputable def F_X7_odds_89 (σ : Hp) (k76 : Int32 → Int32 → Int32 → Int32 → Int32 → Int64 → Int64 → Int64 → Int32 → (Option Int64)) : Nat → Int32 → Int32 → Int32 → Int32 → Int32 → Int64 → Int64 → Int64 → Int32 → Int64 → Int32 → Option Int64
  | 0, _, _, _, _, _, _, _, _, _, _, _ => none
  | n + 1, w1, w2, w3, w4, w5, w6, w8, w10, w12, w13, w15 =>
    if w2 ≤ w15 then
    (F_X7_staysBy w1 w12 w4 σ).bind fun v6 =>
    if v6 = true then
    F_X7_odds_143 σ k76 w1 w2 w3 w4 w5 w8 w10 w12 w13 w6
    else
    F_X7_odds_143 σ k76 w1 w2 w3 w4 w5 w8 w10 w12 (0 : Int64) w6
    else
    if w12 ≤ w15 then
    F_X7_odds_114 σ (F_X7_odds_89 σ k76 n) w1 w2 w3 w4 w5 w6 w8 w10 w12 w15 (Int32.toInt64 ((10 : Int32) - w3)) w13
    else
    F_X7_odds_114 σ (F_X7_odds_89 σ k76 n) w1 w2 w3 w4 w5 w6 w8 w10 w12 w15 (Int32.toInt64 w3) w13
noncomputable def F_X7_odds_76 (σ : Hp) : Nat → Int32 → Int32 → Int32 → Int32 → Int32 → Int64 → Int64 → Int64 → Int32 → Option Int64
  | 0, _, _, _, _, _, _, _, _, _ => none
  | n + 1, w1, w2, w3, w4, w5, w6, w8, w10, w12 =>
    if w2 < w12 then
    (F_X7_term w6 w8 w5 σ).bind fun v7 =>
    some v7
    else
    F_X7_odds_89 σ (F_X7_odds_76 σ n) fuel w1 w2 w3 w4 w5 w6 w8 w10 w12 w10 (0 : Int32)
noncomputable def F_X7_odds  (p1 : Int32) (p2 : Int32) (p3 : Int32) (p4 : Int32) (p5 : Int32) (σ : Hp) : Option Int64 :=
  if (F_X7_isDebt p1 σ) = true then
  if (F_X7_in (Int32.toInt64 p2) (1 : Int64) (9 : Int64) σ) = true then
  if (F_X7_in (Int32.toInt64 p3) (0 : Int64) (9 : Int64) σ) = true then
  if (F_X7_in (Int32.toInt64 p4) (1 : Int64) (9 : Int64) σ) = true then
  if (F_X7_in (Int32.toInt64 p5) (0 : Int64) (1 : Int64) σ) = true then
  F_X7_odds_76 σ fuel p1 p2 p3 p4 p5 (0 : Int64) (1 : Int64) (1 : Int64) (0 : Int32)
  else
  F_X7_odds_60 σ 
  else
  F_X7_odds_60 σ 
  else
  F_X7_odds_60 σ 
  else
  F_X7_odds_60 σ 
  else
  some ((-101) : Int64)
set_option maxHeartbeats 4000000 in
set_option maxRecDepth 100000 in
theorem T_X7_odds_60 {G : Gm} {α : Nat → Nat} (hO : Ok G α cX7_odds 16 RX7 2 47) (hR : Rt G α (some .long)) (σ : Hp) : V G α 16 (kOJ σ) 60 [] [] σ (F_X7_odds_60 σ ) := by
  rw [F_X7_odds_60]
  refine V_ldc2 hO (v := (-102)) dX7_odds_60 cn_X7_224 ?_
  exact V_lret hO hR rfl dX7_odds_63
set_option maxHeartbeats 4000000 in
set_option maxRecDepth 100000 in
theorem T_X7_odds_114 {G : Gm} {α : Nat → Nat} (hO : Ok G α cX7_odds 16 RX7 2 47) (hR : Rt G α (some .long)) (σ : Hp) (k89 : Int32 → Int32 → Int32 → Int32 → Int32 → Int64 → Int64 → Int64 → Int32 → Int64 → Int32 → (Option Int64)) (hk89 : ∀ (w1 : Int32) (w2 : Int32) (w3 : Int32) (w4 : Int32) (w5 : Int32) (w6 : Int64) (w8 : Int64) (w10 : Int64) (w12 : Int32) (w13 : Int64) (w15 : Int32), V G α 16 (kOJ σ) 89 [(0, .ref (α (55))), (1, .int w1), (2, .int w2), (3, .int w3), (4, .int w4), (5, .int w5), (6, .long w6), (8, .long w8), (10, .long w10), (12, .int w12), (13, .long w13), (15, .int w15)] [] σ (k89 w1 w2 w3 w4 w5 w6 w8 w10 w12 w13 w15)) : ∀ (w1 : Int32) (w2 : Int32) (w3 : Int32) (w4 : Int32) (w5 : Int32) (w6 : Int64) (w8 : Int64) (w10 : Int64) (w12 : Int32) (w15 : Int32) (s0 : Int64) (s1 : Int64), V G α 16 (kOJ σ) 114 [(0, .ref (α (55))), (1, .int w1), (2, .int w2), (3, .int w3), (4, .int w4), (5, .int w5), (6, .long w6), (8, .long w8), (10, .long w10), (12, .int w12), (15, .int w15)] [.long s0, .long s1] σ (F_X7_odds_114 σ k89 w1 w2 w3 w4 w5 w6 w8 w10 w12 w15 s0 s1) := by
  intro w1 w2 w3 w4 w5 w6 w8 w10 w12 w15 s0 s1
  rw [F_X7_odds_114]
  refine V_lmul hO dX7_odds_114 ?_
  refine V_lstoreN hO (ls2 := fun v1 => [(13, .long v1), (0, .ref (α (55))), (1, .int w1), (2, .int w2), (3, .int w3), (4, .int w4), (5, .int w5), (6, .long w6), (8, .long w8), (10, .long w10), (12, .int w12), (15, .int w15)]) dX7_odds_115 (by decide) (fun _ => rfl) (fun v1 => ?_)
  refine V_iinc hO (ls2 := [(15, .int (w15 + 1)), (13, .long v1), (0, .ref (α (55))), (1, .int w1), (2, .int w2), (3, .int w3), (4, .int w4), (5, .int w5), (6, .long w6), (8, .long w8), (10, .long w10), (12, .int w12)]) (z := 1) 11 dX7_odds_117 rfl (by decide) (by decide) rfl ?_
  refine V_goto hO 89 dX7_odds_120 (by decide) ?_
  exact V_sub [2, 3, 4, 5, 6, 7, 8, 9, 10, 11, 1, 0] rfl (hk89 w1 w2 w3 w4 w5 w6 w8 w10 w12 v1 (w15 + 1) )
set_option maxHeartbeats 4000000 in
set_option maxRecDepth 100000 in
theorem T_X7_odds_177 {G : Gm} {α : Nat → Nat} (hO : Ok G α cX7_odds 16 RX7 2 47) (hR : Rt G α (some .long)) (σ : Hp) (k76 : Int32 → Int32 → Int32 → Int32 → Int32 → Int64 → Int64 → Int64 → Int32 → (Option Int64)) (hk76 : ∀ (w1 : Int32) (w2 : Int32) (w3 : Int32) (w4 : Int32) (w5 : Int32) (w6 : Int64) (w8 : Int64) (w10 : Int64) (w12 : Int32), V G α 16 (kOJ σ) 76 [(0, .ref (α (55))), (1, .int w1), (2, .int w2), (3, .int w3), (4, .int w4), (5, .int w5), (6, .long w6), (8, .long w8), (10, .long w10), (12, .int w12)] [] σ (k76 w1 w2 w3 w4 w5 w6 w8 w10 w12)) : ∀ (w1 : Int32) (w2 : Int32) (w3 : Int32) (w4 : Int32) (w5 : Int32) (w6 : Int64) (w10 : Int64) (w12 : Int32) (s0 : Int64) (s1 : Int64), V G α 16 (kOJ σ) 177 [(0, .ref (α (55))), (1, .int w1), (2, .int w2), (3, .int w3), (4, .int w4), (5, .int w5), (6, .long w6), (10, .long w10), (12, .int w12)] [.long s0, .long s1] σ (F_X7_odds_177 σ k76 w1 w2 w3 w4 w5 w6 w10 w12 s0 s1) := by
  intro w1 w2 w3 w4 w5 w6 w10 w12 s0 s1
  rw [F_X7_odds_177]
  refine V_lmul hO dX7_odds_177 ?_
  refine V_lstoreN hO (ls2 := fun v2 => [(8, .long v2), (0, .ref (α (55))), (1, .int w1), (2, .int w2), (3, .int w3), (4, .int w4), (5, .int w5), (6, .long w6), (10, .long w10), (12, .int w12)]) dX7_odds_178 (by decide) (fun _ => rfl) (fun v2 => ?_)
  refine V_iinc hO (ls2 := [(12, .int (w12 + 1)), (8, .long v2), (0, .ref (α (55))), (1, .int w1), (2, .int w2), (3, .int w3), (4, .int w4), (5, .int w5), (6, .long w6), (10, .long w10)]) (z := 1) 9 dX7_odds_180 rfl (by decide) (by decide) rfl ?_
  refine V_goto hO 76 dX7_odds_183 (by decide) ?_
  exact V_sub [2, 3, 4, 5, 6, 7, 8, 1, 9, 0] rfl (hk76 w1 w2 w3 w4 w5 w6 v2 w10 (w12 + 1) )
set_option maxHeartbeats 4000000 in
set_option maxRecDepth 100000 in
theorem T_X7_odds_143 {G : Gm} {α : Nat → Nat} (hO : Ok G α cX7_odds 16 RX7 2 47) (hR : Rt G α (some .long)) (σ : Hp) (k76 : Int32 → Int32 → Int32 → Int32 → Int32 → Int64 → Int64 → Int64 → Int32 → (Option Int64)) (hk76 : ∀ (w1 : Int32) (w2 : Int32) (w3 : Int32) (w4 : Int32) (w5 : Int32) (w6 : Int64) (w8 : Int64) (w10 : Int64) (w12 : Int32), V G α 16 (kOJ σ) 76 [(0, .ref (α (55))), (1, .int w1), (2, .int w2), (3, .int w3), (4, .int w4), (5, .int w5), (6, .long w6), (8, .long w8), (10, .long w10), (12, .int w12)] [] σ (k76 w1 w2 w3 w4 w5 w6 w8 w10 w12)) : ∀ (w1 : Int32) (w2 : Int32) (w3 : Int32) (w4 : Int32) (w5 : Int32) (w8 : Int64) (w10 : Int64) (w12 : Int32) (s0 : Int64) (s1 : Int64), V G α 16 (kOJ σ) 143 [(0, .ref (α (55))), (1, .int w1), (2, .int w2), (3, .int w3), (4, .int w4), (5, .int w5), (8, .long w8), (10, .long w10), (12, .int w12)] [.long s0, .long s1] σ (F_X7_odds_143 σ k76 w1 w2 w3 w4 w5 w8 w10 w12 s0 s1) := by
  intro w1 w2 w3 w4 w5 w8 w10 w12 s0 s1
  rw [F_X7_odds_143]
  refine V_ladd hO dX7_odds_143 ?_
  refine V_lstoreN hO (ls2 := fun v3 => [(6, .long v3), (0, .ref (α (55))), (1, .int w1), (2, .int w2), (3, .int w3), (4, .int w4), (5, .int w5), (8, .long w8), (10, .long w10), (12, .int w12)]) dX7_odds_144 (by decide) (fun _ => rfl) (fun v3 => ?_)
  refine V_lload hO 8 dX7_odds_146 rfl ?_
  refine V_iload_n hO 3 dX7_odds_148 rfl rfl ?_
  refine V_iload hO 9 dX7_odds_149 rfl ?_
  refine V_isub hO dX7_odds_151 ?_
  refine V_i2l hO dX7_odds_152 ?_
  refine V_lmul hO dX7_odds_153 ?_
  refine V_iload hO 9 dX7_odds_154 rfl ?_
  refine V_iconst hO 1 dX7_odds_156 (by decide) ?_
  refine V_iadd hO dX7_odds_157 ?_
  refine V_i2l hO dX7_odds_158 ?_
  refine V_chk rfl fun c5 => ?_
  refine V_ldiv hO dX7_odds_159 c5 ?_
  refine V_lstoreN hO (ls2 := fun v4 => [(10, .long v4), (6, .long v3), (0, .ref (α (55))), (1, .int w1), (2, .int w2), (3, .int w3), (4, .int w4), (5, .int w5), (8, .long w8), (12, .int w12)]) dX7_odds_160 (by decide) (fun _ => rfl) (fun v4 => ?_)
  refine V_lload hO 8 dX7_odds_162 rfl ?_
  refine V_iload hO 9 dX7_odds_164 rfl ?_
  refine V_iload_n hO 4 dX7_odds_166 rfl rfl ?_
  refine V_icmp_ge hO 176 dX7_odds_167 (by decide) ?_ ?_
  · refine V_lconst hO 1 dX7_odds_176 (by decide) ?_
    exact V_sub [2, 3, 4, 5, 6, 7, 1, 0, 9] rfl (T_X7_odds_177 hO hR σ k76 hk76 w1 w2 w3 w4 w5 v3 v4 w12 (1 : Int64) w8 )
  · refine V_ldc2 hO (v := 10) dX7_odds_170 cn_X7_229 ?_
    refine V_goto hO 177 dX7_odds_173 (by decide) ?_
    exact V_sub [2, 3, 4, 5, 6, 7, 1, 0, 9] rfl (T_X7_odds_177 hO hR σ k76 hk76 w1 w2 w3 w4 w5 v3 v4 w12 (10 : Int64) w8 )
set_option maxHeartbeats 4000000 in
set_option maxRecDepth 100000 in
theorem T_X7_odds_89 {G : Gm} {α : Nat → Nat} (hO : Ok G α cX7_odds 16 RX7 2 47) (hR : Rt G α (some .long)) (σ : Hp) (k76 : Int32 → Int32 → Int32 → Int32 → Int32 → Int64 → Int64 → Int64 → Int32 → (Option Int64)) (hk76 : ∀ (w1 : Int32) (w2 : Int32) (w3 : Int32) (w4 : Int32) (w5 : Int32) (w6 : Int64) (w8 : Int64) (w10 : Int64) (w12 : Int32), V G α 16 (kOJ σ) 76 [(0, .ref (α (55))), (1, .int w1), (2, .int w2), (3, .int w3), (4, .int w4), (5, .int w5), (6, .long w6), (8, .long w8), (10, .long w10), (12, .int w12)] [] σ (k76 w1 w2 w3 w4 w5 w6 w8 w10 w12)) : ∀ (fuel : Nat) (w1 : Int32) (w2 : Int32) (w3 : Int32) (w4 : Int32) (w5 : Int32) (w6 : Int64) (w8 : Int64) (w10 : Int64) (w12 : Int32) (w13 : Int64) (w15 : Int32), V G α 16 (kOJ σ) 89 [(0, .ref (α (55))), (1, .int w1), (2, .int w2), (3, .int w3), (4, .int w4), (5, .int w5), (6, .long w6), (8, .long w8), (10, .long w10), (12, .int w12), (13, .long w13), (15, .int w15)] [] σ (F_X7_odds_89 σ k76 fuel w1 w2 w3 w4 w5 w6 w8 w10 w12 w13 w15) := by
  intro fuel
  induction fuel with
  | zero => intro w1 w2 w3 w4 w5 w6 w8 w10 w12 w13 w15; exact V_none rfl
  | succ n ih =>
    intro w1 w2 w3 w4 w5 w6 w8 w10 w12 w13 w15
    rw [F_X7_odds_89]
    refine V_iload hO 11 dX7_odds_89 rfl ?_
    refine V_iload_n hO 2 dX7_odds_91 rfl rfl ?_
    refine V_icmp_ge hO 123 dX7_odds_92 (by decide) ?_ ?_
    · refine V_lload hO 6 dX7_odds_123 rfl ?_
      refine V_aload_n hO 0 dX7_odds_125 rfl rfl ?_
      refine V_iload_n hO 1 dX7_odds_126 rfl rfl ?_
      refine V_iload hO 9 dX7_odds_127 rfl ?_
      refine V_iload hO 4 dX7_odds_129 rfl ?_
      refine V_callV hO ml_X7_226 (C_X7_staysBy α w1 w12 w4 σ) (by decide) (fun _ _ => ce_55) rfl rfl (rest := [.long w6]) rfl rfl (Nat.le_of_ble_eq_true rfl) ⟨Nat.le_of_ble_eq_true rfl, Nat.le_of_ble_eq_true rfl⟩ dX7_odds_131 (kc_OZ rfl fun v6 => ?_)
      refine V_ifeqZ hO 142 dX7_odds_134 (by decide) ?_ ?_
      · refine V_lconst hO 0 dX7_odds_142 (by decide) ?_
        exact V_sub [0, 1, 2, 3, 4, 5, 7, 8, 9] rfl (T_X7_odds_143 hO hR σ k76 hk76 w1 w2 w3 w4 w5 w8 w10 w12 (0 : Int64) w6 )
      · refine V_lload hO 10 dX7_odds_137 rfl ?_
        refine V_goto hO 143 dX7_odds_139 (by decide) ?_
        exact V_sub [0, 1, 2, 3, 4, 5, 7, 8, 9] rfl (T_X7_odds_143 hO hR σ k76 hk76 w1 w2 w3 w4 w5 w8 w10 w12 w13 w6 )
    · refine V_lload hO 10 dX7_odds_95 rfl ?_
      refine V_iload hO 11 dX7_odds_97 rfl ?_
      refine V_iload hO 9 dX7_odds_99 rfl ?_
      refine V_icmp_ge hO 109 dX7_odds_101 (by decide) ?_ ?_
      · refine V_bipush hO 10 dX7_odds_109 (by decide) ?_
        refine V_iload_n hO 3 dX7_odds_111 rfl rfl ?_
        refine V_isub hO dX7_odds_112 ?_
        refine V_i2l hO dX7_odds_113 ?_
        exact V_sub [0, 1, 2, 3, 4, 5, 6, 7, 8, 9, 11] rfl (T_X7_odds_114 hO hR σ (F_X7_odds_89 σ k76 n) ih w1 w2 w3 w4 w5 w6 w8 w10 w12 w15 (Int32.toInt64 ((10 : Int32) - w3)) w13 )
      · refine V_iload_n hO 3 dX7_odds_104 rfl rfl ?_
        refine V_i2l hO dX7_odds_105 ?_
        refine V_goto hO 114 dX7_odds_106 (by decide) ?_
        exact V_sub [0, 1, 2, 3, 4, 5, 6, 7, 8, 9, 11] rfl (T_X7_odds_114 hO hR σ (F_X7_odds_89 σ k76 n) ih w1 w2 w3 w4 w5 w6 w8 w10 w12 w15 (Int32.toInt64 w3) w13 )
set_option maxHeartbeats 4000000 in
set_option maxRecDepth 100000 in
theorem T_X7_odds_76 {G : Gm} {α : Nat → Nat} (hO : Ok G α cX7_odds 16 RX7 2 47) (hR : Rt G α (some .long)) (σ : Hp) : ∀ (fuel : Nat) (w1 : Int32) (w2 : Int32) (w3 : Int32) (w4 : Int32) (w5 : Int32) (w6 : Int64) (w8 : Int64) (w10 : Int64) (w12 : Int32), V G α 16 (kOJ σ) 76 [(0, .ref (α (55))), (1, .int w1), (2, .int w2), (3, .int w3), (4, .int w4), (5, .int w5), (6, .long w6), (8, .long w8), (10, .long w10), (12, .int w12)] [] σ (F_X7_odds_76 σ fuel w1 w2 w3 w4 w5 w6 w8 w10 w12) := by
  intro fuel
  induction fuel with
  | zero => intro w1 w2 w3 w4 w5 w6 w8 w10 w12; exact V_none rfl
  | succ n ih =>
    intro w1 w2 w3 w4 w5 w6 w8 w10 w12
    rw [F_X7_odds_76]
    refine V_iload hO 9 dX7_odds_76 rfl ?_
    refine V_iload_n hO 2 dX7_odds_78 rfl rfl ?_
    refine V_icmp_gt hO 186 dX7_odds_79 (by decide) ?_ ?_
    · refine V_lload hO 6 dX7_odds_186 rfl ?_
      refine V_lload hO 7 dX7_odds_188 rfl ?_
      refine V_iload hO 5 dX7_odds_190 rfl ?_
      refine V_callS hO ml_X7_231 (C_X7_term α w6 w8 w5 σ) (rest := []) rfl rfl (Nat.le_of_ble_eq_true rfl) ⟨Nat.le_of_ble_eq_true rfl, Nat.le_of_ble_eq_true rfl⟩ dX7_odds_192 (kc_OJ rfl fun v7 => ?_)
      exact V_lret hO hR rfl dX7_odds_195
    · refine V_lload hO 8 dX7_odds_82 rfl ?_
      refine V_lstore hO (ls2 := [(13, .long w10), (0, .ref (α (55))), (1, .int w1), (2, .int w2), (3, .int w3), (4, .int w4), (5, .int w5), (6, .long w6), (8, .long w8), (10, .long w10), (12, .int w12)]) dX7_odds_84 (by decide) rfl ?_
      refine V_iconst hO 0 dX7_odds_86 (by decide) ?_
      refine V_istore hO (ls2 := [(15, .int 0), (13, .long w10), (0, .ref (α (55))), (1, .int w1), (2, .int w2), (3, .int w3), (4, .int w4), (5, .int w5), (6, .long w6), (8, .long w8), (10, .long w10), (12, .int w12)]) dX7_odds_87 (by decide) rfl ?_
      exact V_sub [2, 3, 4, 5, 6, 7, 8, 9, 10, 11, 1, 0] rfl (T_X7_odds_89 hO hR σ (F_X7_odds_76 σ n) ih fuel w1 w2 w3 w4 w5 w6 w8 w10 w12 w10 (0 : Int32) )
set_option maxHeartbeats 4000000 in
set_option maxRecDepth 100000 in
theorem T_X7_odds {G : Gm} {α : Nat → Nat} (hO : Ok G α cX7_odds 16 RX7 2 47) (hR : Rt G α (some .long)) (p1 : Int32) (p2 : Int32) (p3 : Int32) (p4 : Int32) (p5 : Int32) (σ : Hp) : V G α 16 (kOJ σ) 0 [(0, .ref (α (55))), (1, .int p1), (2, .int p2), (3, .int p3), (4, .int p4), (5, .int p5)] [] σ (F_X7_odds p1 p2 p3 p4 p5 σ) := by
  rw [F_X7_odds]
  refine V_aload_n hO 0 dX7_odds_0 rfl rfl ?_
  refine V_iload_n hO 1 dX7_odds_1 rfl rfl ?_
  refine V_callV hO ml_X7_129 (C_X7_isDebt α p1 σ) (by decide) (fun _ _ => ce_55) rfl rfl (rest := []) rfl rfl (Nat.le_of_ble_eq_true rfl) ⟨Nat.le_of_ble_eq_true rfl, Nat.le_of_ble_eq_true rfl⟩ dX7_odds_2 (kc_Z ?_)
  refine V_ifneZ hO 12 dX7_odds_5 (by decide) ?_ ?_
  · refine V_iload_n hO 2 dX7_odds_12 rfl rfl ?_
    refine V_i2l hO dX7_odds_13 ?_
    refine V_lconst hO 1 dX7_odds_14 (by decide) ?_
    refine V_ldc2 hO (v := 9) dX7_odds_15 cn_X7_121 ?_
    refine V_callS hO ml_X7_75 (C_X7_in α (Int32.toInt64 p2) (1 : Int64) (9 : Int64) σ) (rest := []) rfl rfl (Nat.le_of_ble_eq_true rfl) ⟨Nat.le_of_ble_eq_true rfl, Nat.le_of_ble_eq_true rfl⟩ dX7_odds_18 (kc_Z ?_)
    refine V_ifeqZ hO 60 dX7_odds_21 (by decide) ?_ ?_
    · exact V_sub [] rfl (T_X7_odds_60 hO hR σ )
    · refine V_iload_n hO 3 dX7_odds_24 rfl rfl ?_
      refine V_i2l hO dX7_odds_25 ?_
      refine V_lconst hO 0 dX7_odds_26 (by decide) ?_
      refine V_ldc2 hO (v := 9) dX7_odds_27 cn_X7_121 ?_
      refine V_callS hO ml_X7_75 (C_X7_in α (Int32.toInt64 p3) (0 : Int64) (9 : Int64) σ) (rest := []) rfl rfl (Nat.le_of_ble_eq_true rfl) ⟨Nat.le_of_ble_eq_true rfl, Nat.le_of_ble_eq_true rfl⟩ dX7_odds_30 (kc_Z ?_)
      refine V_ifeqZ hO 60 dX7_odds_33 (by decide) ?_ ?_
      · exact V_sub [] rfl (T_X7_odds_60 hO hR σ )
      · refine V_iload hO 4 dX7_odds_36 rfl ?_
        refine V_i2l hO dX7_odds_38 ?_
        refine V_lconst hO 1 dX7_odds_39 (by decide) ?_
        refine V_ldc2 hO (v := 9) dX7_odds_40 cn_X7_121 ?_
        refine V_callS hO ml_X7_75 (C_X7_in α (Int32.toInt64 p4) (1 : Int64) (9 : Int64) σ) (rest := []) rfl rfl (Nat.le_of_ble_eq_true rfl) ⟨Nat.le_of_ble_eq_true rfl, Nat.le_of_ble_eq_true rfl⟩ dX7_odds_43 (kc_Z ?_)
        refine V_ifeqZ hO 60 dX7_odds_46 (by decide) ?_ ?_
        · exact V_sub [] rfl (T_X7_odds_60 hO hR σ )
        · refine V_iload hO 5 dX7_odds_49 rfl ?_
          refine V_i2l hO dX7_odds_51 ?_
          refine V_lconst hO 0 dX7_odds_52 (by decide) ?_
          refine V_lconst hO 1 dX7_odds_53 (by decide) ?_
          refine V_callS hO ml_X7_75 (C_X7_in α (Int32.toInt64 p5) (0 : Int64) (1 : Int64) σ) (rest := []) rfl rfl (Nat.le_of_ble_eq_true rfl) ⟨Nat.le_of_ble_eq_true rfl, Nat.le_of_ble_eq_true rfl⟩ dX7_odds_54 (kc_Z ?_)
          refine V_ifneZ hO 64 dX7_odds_57 (by decide) ?_ ?_
          · refine V_lconst hO 0 dX7_odds_64 (by decide) ?_
            refine V_lstore hO (ls2 := [(6, .long 0), (0, .ref (α (55))), (1, .int p1), (2, .int p2), (3, .int p3), (4, .int p4), (5, .int p5)]) dX7_odds_65 (by decide) rfl ?_
            refine V_lconst hO 1 dX7_odds_67 (by decide) ?_
            refine V_lstore hO (ls2 := [(8, .long 1), (6, .long 0), (0, .ref (α (55))), (1, .int p1), (2, .int p2), (3, .int p3), (4, .int p4), (5, .int p5)]) dX7_odds_68 (by decide) rfl ?_
            refine V_lconst hO 1 dX7_odds_70 (by decide) ?_
            refine V_lstore hO (ls2 := [(10, .long 1), (8, .long 1), (6, .long 0), (0, .ref (α (55))), (1, .int p1), (2, .int p2), (3, .int p3), (4, .int p4), (5, .int p5)]) dX7_odds_71 (by decide) rfl ?_
            refine V_iconst hO 0 dX7_odds_73 (by decide) ?_
            refine V_istore hO (ls2 := [(12, .int 0), (10, .long 1), (8, .long 1), (6, .long 0), (0, .ref (α (55))), (1, .int p1), (2, .int p2), (3, .int p3), (4, .int p4), (5, .int p5)]) dX7_odds_74 (by decide) rfl ?_
            exact V_sub [4, 5, 6, 7, 8, 9, 3, 2, 1, 0] rfl (T_X7_odds_76 hO hR σ fuel p1 p2 p3 p4 p5 (0 : Int64) (1 : Int64) (1 : Int64) (0 : Int32) )
          · exact V_sub [] rfl (T_X7_odds_60 hO hR σ )
  · refine V_ldc2 hO (v := (-101)) dX7_odds_8 cn_X7_222 ?_
    exact V_lret hO hR rfl dX7_odds_11
set_option maxHeartbeats 4000000 in
set_option maxRecDepth 100000 in
theorem C_X7_odds (α : Nat → Nat) (p1 : Int32) (p2 : Int32) (p3 : Int32) (p4 : Int32) (p5 : Int32) (σ : Hp) : Ct yX7_odds cX7_odds 16 (some .long) 2 47 α [.ref (α (55)), .int p1, .int p2, .int p3, .int p4, .int p5] σ (kOJ σ (F_X7_odds p1 p2 p3 p4 p5 σ)) := ct_of_V (own := RX7) rfl (by decide +kernel) (Nat.le_of_ble_eq_true rfl) fun _ hO hR => T_X7_odds hO hR p1 p2 p3 p4 p5 σ
/-! X7_copy -/
noncomputable def F_X7_copy_2 (a1 : Nat) (a2 : Nat) : Nat → Int32 → Hp → Option Hp
  | 0, _, _ => none
  | n + 1, w2, h =>
    if (Int32.ofNat (alen a1)) ≤ w2 then
    some h
    else
    if inb w2 (alen a1) = true then
    if inb w2 (alen a2) = true then
    lt (up h a2 (Int32.toNatClampNeg w2) (h.1 a1 (Int32.toNatClampNeg w2))) fun h3 =>
    F_X7_copy_2 a1 a2 n (w2 + 1) h3
    else none
    else none
noncomputable def F_X7_copy (a1 : Nat) (a2 : Nat) (σ : Hp) : Option Hp :=
  F_X7_copy_2 a1 a2 fuel (0 : Int32) σ
set_option maxHeartbeats 4000000 in
set_option maxRecDepth 100000 in
theorem T_X7_copy_2 {G : Gm} {α : Nat → Nat} {a1 : Nat} {a2 : Nat} (hO : Ok G α cX7_copy 3 RX7 0 0) (hR : Rt G α none) (ha1 : ArOk a1) (ha2 : ArOk a2) : ∀ (fuel : Nat) (w2 : Int32) (h : Hp), V G α 3 (kSV) 2 [(0, .ref (α (a1))), (1, .ref (α (a2))), (2, .int w2)] [] h (F_X7_copy_2 a1 a2 fuel w2 h) := by
  intro fuel
  induction fuel with
  | zero => intro w2 h; exact V_none rfl
  | succ n ih =>
    intro w2 h
    rw [F_X7_copy_2]
    refine V_iload_n hO 2 dX7_copy_2 rfl rfl ?_
    refine V_aload_n hO 0 dX7_copy_3 rfl rfl ?_
    refine V_alen hO (v := (Int32.ofNat (alen a1))) (ar_lt ha1) (fun _ _ => ce_var ha1) rfl dX7_copy_4 ?_
    refine V_icmp_ge hO 20 dX7_copy_5 (by decide) ?_ ?_
    · exact V_vret hO hR rfl dX7_copy_20
    · refine V_aload_n hO 1 dX7_copy_8 rfl rfl ?_
      refine V_iload_n hO 2 dX7_copy_9 rfl rfl ?_
      refine V_aload_n hO 0 dX7_copy_10 rfl rfl ?_
      refine V_iload_n hO 2 dX7_copy_11 rfl rfl ?_
      refine V_chk rfl fun c1 => ?_
      refine V_iald hO (ar_lt ha1) (fun _ _ => ce_var ha1) (inb_in c1) dX7_copy_12 ?_
      refine V_chk rfl fun c2 => ?_
      refine V_iast hO (ar_lt ha2) (fun _ _ _ => ce_var ha2) (inb_in c2) dX7_copy_13 (V_name fun h3 => ?_)
      refine V_iinc hO (ls2 := [(2, .int (w2 + 1)), (0, .ref (α (a1))), (1, .ref (α (a2)))]) (z := 1) 2 dX7_copy_14 rfl (by decide) (by decide) rfl ?_
      refine V_goto hO 2 dX7_copy_17 (by decide) ?_
      exact V_sub [1, 2, 0] rfl (ih (w2 + 1) h3 )
set_option maxHeartbeats 4000000 in
set_option maxRecDepth 100000 in
theorem T_X7_copy {G : Gm} {α : Nat → Nat} {a1 : Nat} {a2 : Nat} (hO : Ok G α cX7_copy 3 RX7 0 0) (hR : Rt G α none) (ha1 : ArOk a1) (ha2 : ArOk a2) (σ : Hp) : V G α 3 (kSV) 0 [(0, .ref (α (a1))), (1, .ref (α (a2)))] [] σ (F_X7_copy a1 a2 σ) := by
  rw [F_X7_copy]
  refine V_iconst hO 0 dX7_copy_0 (by decide) ?_
  refine V_istore_n hO (ls2 := [(2, .int 0), (0, .ref (α (a1))), (1, .ref (α (a2)))]) dX7_copy_1 rfl (by decide) rfl ?_
  exact V_sub [1, 2, 0] rfl (T_X7_copy_2 hO hR ha1 ha2 fuel (0 : Int32) σ )
set_option maxHeartbeats 4000000 in
set_option maxRecDepth 100000 in
theorem C_X7_copy (α : Nat → Nat) {a1 : Nat} {a2 : Nat} (ha1 : ArOk a1) (ha2 : ArOk a2) (σ : Hp) : Ct yX7_copy cX7_copy 3 none 0 0 α [.ref (α (a1)), .ref (α (a2))] σ (kSV (F_X7_copy a1 a2 σ)) := ct_of_V (own := RX7) rfl (by decide +kernel) (Nat.le_of_ble_eq_true rfl) fun _ hO hR => T_X7_copy hO hR ha1 ha2 σ
/-! X7_draw -/
noncomputable def F_X7_draw  (p1 : Int32) (σ : Hp) : Option (Int32 × Hp) :=
  lt (up σ 55 23 (Int64.toInt32 ((((1103515245 : Int64) * (Int32.toInt64 (σ.1 55 23))) + (12345 : Int64)) &&& (2147483647 : Int64)))) fun h1 =>
  if ¬ p1 = 0 then
  some ((jrem ((h1.1 55 23) / (65536 : Int32)) p1), h1)
  else none
set_option maxHeartbeats 4000000 in
set_option maxRecDepth 100000 in
theorem T_X7_draw {G : Gm} {α : Nat → Nat} (hO : Ok G α cX7_draw 2 RX7 0 0) (hR : Rt G α (some .int)) (p1 : Int32) (σ : Hp) : V G α 2 (kSI) 0 [(0, .ref (α (55))), (1, .int p1)] [] σ (F_X7_draw p1 σ) := by
  rw [F_X7_draw]
  refine V_aload_n hO 0 dX7_draw_0 rfl rfl ?_
  refine V_ldc2 hO (v := 1103515245) dX7_draw_1 cn_X7_235 ?_
  refine V_aload_n hO 0 dX7_draw_4 rfl rfl ?_
  refine V_get hO (v := .int (σ.1 55 23)) fl_X7_237 (by decide) (fun _ _ => ce_55) rfl dX7_draw_5 ?_
  refine V_i2l hO dX7_draw_8 ?_
  refine V_lmul hO dX7_draw_9 ?_
  refine V_ldc2 hO (v := 12345) dX7_draw_10 cn_X7_240 ?_
  refine V_ladd hO dX7_draw_13 ?_
  refine V_ldc2 hO (v := 2147483647) dX7_draw_14 cn_X7_242 ?_
  refine V_land hO dX7_draw_17 ?_
  refine V_l2i hO dX7_draw_18 ?_
  refine V_puti hO fp_X7_237 (by decide) (fun _ _ => ce_55) (Nat.le_of_ble_eq_true rfl) (fun _ _ => pe_55_23) dX7_draw_19 (V_name fun h1 => ?_)
  refine V_aload_n hO 0 dX7_draw_22 rfl rfl ?_
  refine V_get hO (v := .int (h1.1 55 23)) fl_X7_237 (by decide) (fun _ _ => ce_55) rfl dX7_draw_23 ?_
  refine V_ldc hO (v := 65536) dX7_draw_26 cn_X7_244 ?_
  refine V_idiv hO dX7_draw_28 (by decide) ?_
  refine V_iload_n hO 1 dX7_draw_29 rfl rfl ?_
  refine V_chk rfl fun c2 => ?_
  refine V_irem hO dX7_draw_30 c2 ?_
  exact V_iret hO hR rfl dX7_draw_31
set_option maxHeartbeats 4000000 in
set_option maxRecDepth 100000 in
theorem C_X7_draw (α : Nat → Nat) (p1 : Int32) (σ : Hp) : Ct yX7_draw cX7_draw 2 (some .int) 0 0 α [.ref (α (55)), .int p1] σ (kSI (F_X7_draw p1 σ)) := ct_of_V (own := RX7) rfl (by decide +kernel) (Nat.le_of_ble_eq_true rfl) fun _ hO hR => T_X7_draw hO hR p1 σ
/-! X7_winter -/
noncomputable def F_X7_winter_106 (k72 : Int32 → Int32 → Int32 → Hp → (Option (Int32 × Hp))) (w1 : Int32) (w3 : Int32) (w4 : Int32) (s0 : Int32) (s1 : Int32) (h : Hp) : Option (Int32 × Hp) :=
  (F_X7_day s1 s0 h).bind fun q1 =>
  k72 w1 w3 (w4 + 1) q1
noncomputable def F_X7_winter_127  : Nat → Int32 → Int32 → Int32 → Int32 → Hp → Option (Int32 × Hp)
  | 0, _, _, _, _, _ => none
  | n + 1, w3, w4, w5, w6, h =>
    if (F_X7_squares h) ≤ w6 then
    (F_X7_copy 67 56 h).bind fun q2 =>
    (F_X7_copy 68 57 q2).bind fun q3 =>
    (F_X7_copy 69 58 q3).bind fun q4 =>
    if w3 = 0 then
    some (w4, q4)
    else
    if w3 = (1 : Int32) then
    some (w5, q4)
    else
    some ((q4.1 55 23), q4)
    else
    if inb w6 16 = true then
    lt (w5 + (h.1 56 (Int32.toNatClampNeg w6))) fun v6 =>
    F_X7_winter_127 n w3 w4 v6 (w6 + 1) h
    else none
noncomputable def F_X7_winter_72  : Nat → Int32 → Int32 → Int32 → Hp → Option (Int32 × Hp)
  | 0, _, _, _, _ => none
  | n + 1, w1, w3, w4, h =>
    if w1 ≤ w4 then
    (F_X7_thereMany h).bind fun v7 =>
    F_X7_winter_127 fuel w3 v7 (0 : Int32) (0 : Int32) h
    else
    (F_X7_draw (4 : Int32) h).bind fun q8 =>
    if (2 : Int32) ≤ q8.1 then
    F_X7_winter_106 (F_X7_winter_72 n) w1 w3 w4 (0 : Int32) q8.1 q8.2
    else
    (F_X7_draw (9 : Int32) q8.2).bind fun q9 =>
    F_X7_winter_106 (F_X7_winter_72 n) w1 w3 w4 ((1 : Int32) + q9.1) q8.1 q9.2
noncomputable def F_X7_winter  (p1 : Int32) (p2 : Int32) (p3 : Int32) (σ : Hp) : Option (Int32 × Hp) :=
  if (F_X7_in (Int32.toInt64 p1) (1 : Int64) (60 : Int64) σ) = true then
  if p2 < 0 then
  some (((-102) : Int32), σ)
  else
  if (F_X7_in (Int32.toInt64 p3) (0 : Int64) (2 : Int64) σ) = true then
  (F_X7_copy 56 67 σ).bind fun q10 =>
  (F_X7_copy 57 68 q10).bind fun q11 =>
  (F_X7_copy 58 69 q11).bind fun q12 =>
  lt (up q12 55 23 p2) fun h13 =>
  F_X7_winter_72 fuel p1 p3 (0 : Int32) h13
  else
  some (((-102) : Int32), σ)
  else
  some (((-102) : Int32), σ)
set_option maxHeartbeats 4000000 in
set_option maxRecDepth 100000 in
theorem T_X7_winter_106 {G : Gm} {α : Nat → Nat} (hO : Ok G α cX7_winter 7 RX7 3 67) (hR : Rt G α (some .int)) (k72 : Int32 → Int32 → Int32 → Hp → (Option (Int32 × Hp))) (hk72 : ∀ (w1 : Int32) (w3 : Int32) (w4 : Int32) (h : Hp), V G α 7 (kSI) 72 [(0, .ref (α (55))), (1, .int w1), (3, .int w3), (4, .int w4)] [] h (k72 w1 w3 w4 h)) : ∀ (w1 : Int32) (w3 : Int32) (w4 : Int32) (s0 : Int32) (s1 : Int32) (h : Hp), V G α 7 (kSI) 106 [(0, .ref (α (55))), (1, .int w1), (3, .int w3), (4, .int w4)] [.int s0, .int s1, .ref (α (55))] h (F_X7_winter_106 k72 w1 w3 w4 s0 s1 h) := by
  intro w1 w3 w4 s0 s1 h
  rw [F_X7_winter_106]
  refine V_callV hO ml_X7_176 (C_X7_day α s1 s0 h) (by decide) (fun _ _ => ce_55) rfl rfl (rest := []) rfl rfl (Nat.le_of_ble_eq_true rfl) ⟨Nat.le_of_ble_eq_true rfl, Nat.le_of_ble_eq_true rfl⟩ dX7_winter_106 (kc_SV rfl fun q1 => ?_)
  refine V_iinc hO (ls2 := [(4, .int (w4 + 1)), (0, .ref (α (55))), (1, .int w1), (3, .int w3)]) (z := 1) 3 dX7_winter_109 rfl (by decide) (by decide) rfl ?_
  refine V_goto hO 72 dX7_winter_112 (by decide) ?_
  exact V_sub [1, 2, 3, 0] rfl (hk72 w1 w3 (w4 + 1) q1 )
set_option maxHeartbeats 4000000 in
set_option maxRecDepth 100000 in
theorem T_X7_winter_127 {G : Gm} {α : Nat → Nat} (hO : Ok G α cX7_winter 7 RX7 3 67) (hR : Rt G α (some .int)) : ∀ (fuel : Nat) (w3 : Int32) (w4 : Int32) (w5 : Int32) (w6 : Int32) (h : Hp), V G α 7 (kSI) 127 [(0, .ref (α (55))), (3, .int w3), (4, .int w4), (5, .int w5), (6, .int w6)] [] h (F_X7_winter_127 fuel w3 w4 w5 w6 h) := by
  intro fuel
  induction fuel with
  | zero => intro w3 w4 w5 w6 h; exact V_none rfl
  | succ n ih =>
    intro w3 w4 w5 w6 h
    rw [F_X7_winter_127]
    refine V_iload hO 4 dX7_winter_127 rfl ?_
    refine V_aload_n hO 0 dX7_winter_129 rfl rfl ?_
    refine V_callV hO ml_X7_71 (C_X7_squares α h) (by decide) (fun _ _ => ce_55) rfl rfl (rest := [.int w6]) rfl rfl (Nat.le_of_ble_eq_true rfl) ⟨Nat.le_of_ble_eq_true rfl, Nat.le_of_ble_eq_true rfl⟩ dX7_winter_130 (kc_I ?_)
    refine V_icmp_ge hO 154 dX7_winter_133 (by decide) ?_ ?_
    · refine V_aload_n hO 0 dX7_winter_154 rfl rfl ?_
      refine V_get hO (v := .ref (α (67))) fl_X7_43 (by decide) (fun _ _ => ce_55) rfl dX7_winter_155 ?_
      refine V_aload_n hO 0 dX7_winter_158 rfl rfl ?_
      refine V_get hO (v := .ref (α (56))) fl_X7_7 (by decide) (fun _ _ => ce_55) rfl dX7_winter_159 ?_
      refine V_callS hO ml_X7_247 (C_X7_copy α (a1 := 67) (a2 := 56) ⟨by decide, by decide⟩ ⟨by decide, by decide⟩ h) (rest := []) rfl rfl (Nat.le_of_ble_eq_true rfl) ⟨Nat.le_of_ble_eq_true rfl, Nat.le_of_ble_eq_true rfl⟩ dX7_winter_162 (kc_SV rfl fun q2 => ?_)
      refine V_aload_n hO 0 dX7_winter_165 rfl rfl ?_
      refine V_get hO (v := .ref (α (68))) fl_X7_46 (by decide) (fun _ _ => ce_55) rfl dX7_winter_166 ?_
      refine V_aload_n hO 0 dX7_winter_169 rfl rfl ?_
      refine V_get hO (v := .ref (α (57))) fl_X7_13 (by decide) (fun _ _ => ce_55) rfl dX7_winter_170 ?_
      refine V_callS hO ml_X7_247 (C_X7_copy α (a1 := 68) (a2 := 57) ⟨by decide, by decide⟩ ⟨by decide, by decide⟩ q2) (rest := []) rfl rfl (Nat.le_of_ble_eq_true rfl) ⟨Nat.le_of_ble_eq_true rfl, Nat.le_of_ble_eq_true rfl⟩ dX7_winter_173 (kc_SV rfl fun q3 => ?_)
      refine V_aload_n hO 0 dX7_winter_176 rfl rfl ?_
      refine V_get hO (v := .ref (α (69))) fl_X7_49 (by decide) (fun _ _ => ce_55) rfl dX7_winter_177 ?_
      refine V_aload_n hO 0 dX7_winter_180 rfl rfl ?_
      refine V_get hO (v := .ref (α (58))) fl_X7_16 (by decide) (fun _ _ => ce_55) rfl dX7_winter_181 ?_
      refine V_callS hO ml_X7_247 (C_X7_copy α (a1 := 69) (a2 := 58) ⟨by decide, by decide⟩ ⟨by decide, by decide⟩ q3) (rest := []) rfl rfl (Nat.le_of_ble_eq_true rfl) ⟨Nat.le_of_ble_eq_true rfl, Nat.le_of_ble_eq_true rfl⟩ dX7_winter_184 (kc_SV rfl fun q4 => ?_)
      refine V_iload_n hO 1 dX7_winter_187 rfl rfl ?_
      refine V_if_ne hO 196 dX7_winter_188 (by decide) ?_ ?_
      · refine V_iload_n hO 1 dX7_winter_196 rfl rfl ?_
        refine V_iconst hO 1 dX7_winter_197 (by decide) ?_
        refine V_icmp_ne hO 206 dX7_winter_198 (by decide) ?_ ?_
        · refine V_aload_n hO 0 dX7_winter_206 rfl rfl ?_
          refine V_get hO (v := .int (q4.1 55 23)) fl_X7_237 (by decide) (fun _ _ => ce_55) rfl dX7_winter_207 ?_
          exact V_iret hO hR rfl dX7_winter_210
        · refine V_iload hO 3 dX7_winter_201 rfl ?_
          refine V_goto hO 210 dX7_winter_203 (by decide) ?_
          exact V_iret hO hR rfl dX7_winter_210
      · refine V_iload hO 2 dX7_winter_191 rfl ?_
        refine V_goto hO 210 dX7_winter_193 (by decide) ?_
        exact V_iret hO hR rfl dX7_winter_210
    · refine V_iload hO 3 dX7_winter_136 rfl ?_
      refine V_aload_n hO 0 dX7_winter_138 rfl rfl ?_
      refine V_get hO (v := .ref (α (56))) fl_X7_7 (by decide) (fun _ _ => ce_55) rfl dX7_winter_139 ?_
      refine V_iload hO 4 dX7_winter_142 rfl ?_
      refine V_chk rfl fun c5 => ?_
      refine V_iald hO (by decide) (fun _ _ => ce_56) (inb_in c5) dX7_winter_144 ?_
      refine V_iadd hO dX7_winter_145 ?_
      refine V_istoreN hO (ls2 := fun v6 => [(5, .int v6), (0, .ref (α (55))), (3, .int w3), (4, .int w4), (6, .int w6)]) dX7_winter_146 (by decide) (fun _ => rfl) (fun v6 => ?_)
      refine V_iinc hO (ls2 := [(6, .int (w6 + 1)), (5, .int v6), (0, .ref (α (55))), (3, .int w3), (4, .int w4)]) (z := 1) 4 dX7_winter_148 rfl (by decide) (by decide) rfl ?_
      refine V_goto hO 127 dX7_winter_151 (by decide) ?_
      exact V_sub [2, 3, 4, 1, 0] rfl (ih w3 w4 v6 (w6 + 1) h )
set_option maxHeartbeats 4000000 in
set_option maxRecDepth 100000 in
theorem T_X7_winter_72 {G : Gm} {α : Nat → Nat} (hO : Ok G α cX7_winter 7 RX7 3 67) (hR : Rt G α (some .int)) : ∀ (fuel : Nat) (w1 : Int32) (w3 : Int32) (w4 : Int32) (h : Hp), V G α 7 (kSI) 72 [(0, .ref (α (55))), (1, .int w1), (3, .int w3), (4, .int w4)] [] h (F_X7_winter_72 fuel w1 w3 w4 h) := by
  intro fuel
  induction fuel with
  | zero => intro w1 w3 w4 h; exact V_none rfl
  | succ n ih =>
    intro w1 w3 w4 h
    rw [F_X7_winter_72]
    refine V_iload hO 3 dX7_winter_72 rfl ?_
    refine V_iload_n hO 1 dX7_winter_74 rfl rfl ?_
    refine V_icmp_ge hO 115 dX7_winter_75 (by decide) ?_ ?_
    · refine V_aload_n hO 0 dX7_winter_115 rfl rfl ?_
      refine V_callV hO ml_X7_173 (C_X7_thereMany α h) (by decide) (fun _ _ => ce_55) rfl rfl (rest := []) rfl rfl (Nat.le_of_ble_eq_true rfl) ⟨Nat.le_of_ble_eq_true rfl, Nat.le_of_ble_eq_true rfl⟩ dX7_winter_116 (kc_OI rfl fun v7 => ?_)
      refine V_istore hO (ls2 := [(4, .int v7), (0, .ref (α (55))), (1, .int w1), (3, .int w3)]) dX7_winter_119 (by decide) rfl ?_
      refine V_iconst hO 0 dX7_winter_121 (by decide) ?_
      refine V_istore hO (ls2 := [(5, .int 0), (4, .int v7), (0, .ref (α (55))), (1, .int w1), (3, .int w3)]) dX7_winter_122 (by decide) rfl ?_
      refine V_iconst hO 0 dX7_winter_124 (by decide) ?_
      refine V_istore hO (ls2 := [(6, .int 0), (5, .int 0), (4, .int v7), (0, .ref (α (55))), (1, .int w1), (3, .int w3)]) dX7_winter_125 (by decide) rfl ?_
      exact V_sub [3, 5, 2, 1, 0] rfl (T_X7_winter_127 hO hR fuel w3 v7 (0 : Int32) (0 : Int32) h )
    · refine V_aload_n hO 0 dX7_winter_78 rfl rfl ?_
      refine V_iconst hO 4 dX7_winter_79 (by decide) ?_
      refine V_callV hO ml_X7_251 (C_X7_draw α (4 : Int32) h) (by decide) (fun _ _ => ce_55) rfl rfl (rest := []) rfl rfl (Nat.le_of_ble_eq_true rfl) ⟨Nat.le_of_ble_eq_true rfl, Nat.le_of_ble_eq_true rfl⟩ dX7_winter_80 (kc_SI rfl fun q8 => ?_)
      refine V_istore hO (ls2 := [(5, .int q8.1), (0, .ref (α (55))), (1, .int w1), (3, .int w3), (4, .int w4)]) dX7_winter_83 (by decide) rfl ?_
      refine V_aload_n hO 1 dX7_winter_85 rfl rfl ?_
      refine V_iload hO 0 dX7_winter_86 rfl ?_
      refine V_iload hO 0 dX7_winter_88 rfl ?_
      refine V_iconst hO 2 dX7_winter_90 (by decide) ?_
      refine V_icmp_ge hO 105 dX7_winter_91 (by decide) ?_ ?_
      · refine V_iconst hO 0 dX7_winter_105 (by decide) ?_
        exact V_sub [1, 2, 3, 4] rfl (T_X7_winter_106 hO hR (F_X7_winter_72 n) ih w1 w3 w4 (0 : Int32) q8.1 q8.2 )
      · refine V_iconst hO 1 dX7_winter_94 (by decide) ?_
        refine V_aload_n hO 1 dX7_winter_95 rfl rfl ?_
        refine V_bipush hO 9 dX7_winter_96 (by decide) ?_
        refine V_callV hO ml_X7_251 (C_X7_draw α (9 : Int32) q8.2) (by decide) (fun _ _ => ce_55) rfl rfl (rest := [.int 1, .int q8.1, .ref (α (55))]) rfl rfl (Nat.le_of_ble_eq_true rfl) ⟨Nat.le_of_ble_eq_true rfl, Nat.le_of_ble_eq_true rfl⟩ dX7_winter_98 (kc_SI rfl fun q9 => ?_)
        refine V_iadd hO dX7_winter_101 ?_
        refine V_goto hO 106 dX7_winter_102 (by decide) ?_
        exact V_sub [1, 2, 3, 4] rfl (T_X7_winter_106 hO hR (F_X7_winter_72 n) ih w1 w3 w4 ((1 : Int32) + q9.1) q8.1 q9.2 )
set_option maxHeartbeats 4000000 in
set_option maxRecDepth 100000 in
theorem T_X7_winter {G : Gm} {α : Nat → Nat} (hO : Ok G α cX7_winter 7 RX7 3 67) (hR : Rt G α (some .int)) (p1 : Int32) (p2 : Int32) (p3 : Int32) (σ : Hp) : V G α 7 (kSI) 0 [(0, .ref (α (55))), (1, .int p1), (2, .int p2), (3, .int p3)] [] σ (F_X7_winter p1 p2 p3 σ) := by
  rw [F_X7_winter]
  refine V_iload_n hO 1 dX7_winter_0 rfl rfl ?_
  refine V_i2l hO dX7_winter_1 ?_
  refine V_lconst hO 1 dX7_winter_2 (by decide) ?_
  refine V_ldc2 hO (v := 60) dX7_winter_3 cn_X7_245 ?_
  refine V_callS hO ml_X7_75 (C_X7_in α (Int32.toInt64 p1) (1 : Int64) (60 : Int64) σ) (rest := []) rfl rfl (Nat.le_of_ble_eq_true rfl) ⟨Nat.le_of_ble_eq_true rfl, Nat.le_of_ble_eq_true rfl⟩ dX7_winter_6 (kc_Z ?_)
  refine V_ifeqZ hO 28 dX7_winter_9 (by decide) ?_ ?_
  · refine V_bipush hO (-102) dX7_winter_28 (by decide) ?_
    exact V_iret hO hR rfl dX7_winter_30
  · refine V_iload_n hO 2 dX7_winter_12 rfl rfl ?_
    refine V_if_lt hO 28 dX7_winter_13 (by decide) ?_ ?_
    · refine V_bipush hO (-102) dX7_winter_28 (by decide) ?_
      exact V_iret hO hR rfl dX7_winter_30
    · refine V_iload_n hO 3 dX7_winter_16 rfl rfl ?_
      refine V_i2l hO dX7_winter_17 ?_
      refine V_lconst hO 0 dX7_winter_18 (by decide) ?_
      refine V_ldc2 hO (v := 2) dX7_winter_19 cn_X7_84 ?_
      refine V_callS hO ml_X7_75 (C_X7_in α (Int32.toInt64 p3) (0 : Int64) (2 : Int64) σ) (rest := []) rfl rfl (Nat.le_of_ble_eq_true rfl) ⟨Nat.le_of_ble_eq_true rfl, Nat.le_of_ble_eq_true rfl⟩ dX7_winter_22 (kc_Z ?_)
      refine V_ifneZ hO 31 dX7_winter_25 (by decide) ?_ ?_
      · refine V_aload_n hO 0 dX7_winter_31 rfl rfl ?_
        refine V_get hO (v := .ref (α (56))) fl_X7_7 (by decide) (fun _ _ => ce_55) rfl dX7_winter_32 ?_
        refine V_aload_n hO 0 dX7_winter_35 rfl rfl ?_
        refine V_get hO (v := .ref (α (67))) fl_X7_43 (by decide) (fun _ _ => ce_55) rfl dX7_winter_36 ?_
        refine V_callS hO ml_X7_247 (C_X7_copy α (a1 := 56) (a2 := 67) ⟨by decide, by decide⟩ ⟨by decide, by decide⟩ σ) (rest := []) rfl rfl (Nat.le_of_ble_eq_true rfl) ⟨Nat.le_of_ble_eq_true rfl, Nat.le_of_ble_eq_true rfl⟩ dX7_winter_39 (kc_SV rfl fun q10 => ?_)
        refine V_aload_n hO 0 dX7_winter_42 rfl rfl ?_
        refine V_get hO (v := .ref (α (57))) fl_X7_13 (by decide) (fun _ _ => ce_55) rfl dX7_winter_43 ?_
        refine V_aload_n hO 0 dX7_winter_46 rfl rfl ?_
        refine V_get hO (v := .ref (α (68))) fl_X7_46 (by decide) (fun _ _ => ce_55) rfl dX7_winter_47 ?_
        refine V_callS hO ml_X7_247 (C_X7_copy α (a1 := 57) (a2 := 68) ⟨by decide, by decide⟩ ⟨by decide, by decide⟩ q10) (rest := []) rfl rfl (Nat.le_of_ble_eq_true rfl) ⟨Nat.le_of_ble_eq_true rfl, Nat.le_of_ble_eq_true rfl⟩ dX7_winter_50 (kc_SV rfl fun q11 => ?_)
        refine V_aload_n hO 0 dX7_winter_53 rfl rfl ?_
        refine V_get hO (v := .ref (α (58))) fl_X7_16 (by decide) (fun _ _ => ce_55) rfl dX7_winter_54 ?_
        refine V_aload_n hO 0 dX7_winter_57 rfl rfl ?_
        refine V_get hO (v := .ref (α (69))) fl_X7_49 (by decide) (fun _ _ => ce_55) rfl dX7_winter_58 ?_
        refine V_callS hO ml_X7_247 (C_X7_copy α (a1 := 58) (a2 := 69) ⟨by decide, by decide⟩ ⟨by decide, by decide⟩ q11) (rest := []) rfl rfl (Nat.le_of_ble_eq_true rfl) ⟨Nat.le_of_ble_eq_true rfl, Nat.le_of_ble_eq_true rfl⟩ dX7_winter_61 (kc_SV rfl fun q12 => ?_)
        refine V_aload_n hO 0 dX7_winter_64 rfl rfl ?_
        refine V_iload_n hO 2 dX7_winter_65 rfl rfl ?_
        refine V_puti hO fp_X7_237 (by decide) (fun _ _ => ce_55) (Nat.le_of_ble_eq_true rfl) (fun _ _ => pe_55_23) dX7_winter_66 (V_name fun h13 => ?_)
        refine V_iconst hO 0 dX7_winter_69 (by decide) ?_
        refine V_istore hO (ls2 := [(4, .int 0), (0, .ref (α (55))), (1, .int p1), (2, .int p2), (3, .int p3)]) dX7_winter_70 (by decide) rfl ?_
        exact V_sub [1, 2, 4, 0] rfl (T_X7_winter_72 hO hR fuel p1 p3 (0 : Int32) h13 )
      · refine V_bipush hO (-102) dX7_winter_28 (by decide) ?_
        exact V_iret hO hR rfl dX7_winter_30
set_option maxHeartbeats 4000000 in
set_option maxRecDepth 100000 in
theorem C_X7_winter (α : Nat → Nat) (p1 : Int32) (p2 : Int32) (p3 : Int32) (σ : Hp) : Ct yX7_winter cX7_winter 7 (some .int) 3 67 α [.ref (α (55)), .int p1, .int p2, .int p3] σ (kSI (F_X7_winter p1 p2 p3 σ)) := ct_of_V (own := RX7) rfl (by decide +kernel) (Nat.le_of_ble_eq_true rfl) fun _ hO hR => T_X7_winter hO hR p1 p2 p3 σ
/-! X7_image -/
noncomputable def F_X7_image  (σ : Hp) : Option (Int32 × Hp) :=
  (F_X7_copy 56 70 σ).bind fun q1 =>
  (F_X7_copy 57 71 q1).bind fun q2 =>
  (F_X7_copy 58 72 q2).bind fun q3 =>
  lt (up q3 55 25 (q3.1 55 6)) fun h4 =>
  lt (up h4 55 26 (h4.1 55 5)) fun h5 =>
  lt (up h5 55 24 (h5.1 55 2)) fun h6 =>
  some ((h6.1 55 6), h6)
set_option maxHeartbeats 4000000 in
set_option maxRecDepth 100000 in
theorem T_X7_image {G : Gm} {α : Nat → Nat} (hO : Ok G α cX7_image 1 RX7 1 22) (hR : Rt G α (some .int)) (σ : Hp) : V G α 1 (kSI) 0 [(0, .ref (α (55)))] [] σ (F_X7_image σ) := by
  rw [F_X7_image]
  refine V_aload_n hO 0 dX7_image_0 rfl rfl ?_
  refine V_get hO (v := .ref (α (56))) fl_X7_7 (by decide) (fun _ _ => ce_55) rfl dX7_image_1 ?_
  refine V_aload_n hO 0 dX7_image_4 rfl rfl ?_
  refine V_get hO (v := .ref (α (70))) fl_X7_52 (by decide) (fun _ _ => ce_55) rfl dX7_image_5 ?_
  refine V_callS hO ml_X7_247 (C_X7_copy α (a1 := 56) (a2 := 70) ⟨by decide, by decide⟩ ⟨by decide, by decide⟩ σ) (rest := []) rfl rfl (Nat.le_of_ble_eq_true rfl) ⟨Nat.le_of_ble_eq_true rfl, Nat.le_of_ble_eq_true rfl⟩ dX7_image_8 (kc_SV rfl fun q1 => ?_)
  refine V_aload_n hO 0 dX7_image_11 rfl rfl ?_
  refine V_get hO (v := .ref (α (57))) fl_X7_13 (by decide) (fun _ _ => ce_55) rfl dX7_image_12 ?_
  refine V_aload_n hO 0 dX7_image_15 rfl rfl ?_
  refine V_get hO (v := .ref (α (71))) fl_X7_55 (by decide) (fun _ _ => ce_55) rfl dX7_image_16 ?_
  refine V_callS hO ml_X7_247 (C_X7_copy α (a1 := 57) (a2 := 71) ⟨by decide, by decide⟩ ⟨by decide, by decide⟩ q1) (rest := []) rfl rfl (Nat.le_of_ble_eq_true rfl) ⟨Nat.le_of_ble_eq_true rfl, Nat.le_of_ble_eq_true rfl⟩ dX7_image_19 (kc_SV rfl fun q2 => ?_)
  refine V_aload_n hO 0 dX7_image_22 rfl rfl ?_
  refine V_get hO (v := .ref (α (58))) fl_X7_16 (by decide) (fun _ _ => ce_55) rfl dX7_image_23 ?_
  refine V_aload_n hO 0 dX7_image_26 rfl rfl ?_
  refine V_get hO (v := .ref (α (72))) fl_X7_58 (by decide) (fun _ _ => ce_55) rfl dX7_image_27 ?_
  refine V_callS hO ml_X7_247 (C_X7_copy α (a1 := 58) (a2 := 72) ⟨by decide, by decide⟩ ⟨by decide, by decide⟩ q2) (rest := []) rfl rfl (Nat.le_of_ble_eq_true rfl) ⟨Nat.le_of_ble_eq_true rfl, Nat.le_of_ble_eq_true rfl⟩ dX7_image_30 (kc_SV rfl fun q3 => ?_)
  refine V_aload_n hO 0 dX7_image_33 rfl rfl ?_
  refine V_aload_n hO 0 dX7_image_34 rfl rfl ?_
  refine V_get hO (v := .int (q3.1 55 6)) fl_X7_79 (by decide) (fun _ _ => ce_55) rfl dX7_image_35 ?_
  refine V_puti hO fp_X7_254 (by decide) (fun _ _ => ce_55) (Nat.le_of_ble_eq_true rfl) (fun _ _ => pe_55_25) dX7_image_38 (V_name fun h4 => ?_)
  refine V_aload_n hO 0 dX7_image_41 rfl rfl ?_
  refine V_aload_n hO 0 dX7_image_42 rfl rfl ?_
  refine V_get hO (v := .int (h4.1 55 5)) fl_X7_88 (by decide) (fun _ _ => ce_55) rfl dX7_image_43 ?_
  refine V_puti hO fp_X7_257 (by decide) (fun _ _ => ce_55) (Nat.le_of_ble_eq_true rfl) (fun _ _ => pe_55_26) dX7_image_46 (V_name fun h5 => ?_)
  refine V_aload_n hO 0 dX7_image_49 rfl rfl ?_
  refine V_aload_n hO 0 dX7_image_50 rfl rfl ?_
  refine V_get hO (v := .int (h5.1 55 2)) fl_X7_91 (by decide) (fun _ _ => ce_55) rfl dX7_image_51 ?_
  refine V_puti hO fp_X7_61 (by decide) (fun _ _ => ce_55) (Nat.le_of_ble_eq_true rfl) (fun _ _ => pe_55_24) dX7_image_54 (V_name fun h6 => ?_)
  refine V_aload_n hO 0 dX7_image_57 rfl rfl ?_
  refine V_get hO (v := .int (h6.1 55 6)) fl_X7_79 (by decide) (fun _ _ => ce_55) rfl dX7_image_58 ?_
  exact V_iret hO hR rfl dX7_image_61
set_option maxHeartbeats 4000000 in
set_option maxRecDepth 100000 in
theorem C_X7_image (α : Nat → Nat) (σ : Hp) : Ct yX7_image cX7_image 1 (some .int) 1 22 α [.ref (α (55))] σ (kSI (F_X7_image σ)) := ct_of_V (own := RX7) rfl (by decide +kernel) (Nat.le_of_ble_eq_true rfl) fun _ hO hR => T_X7_image hO hR σ
/-! X7_restore -/
noncomputable def F_X7_restore  (σ : Hp) : Option (Int32 × Hp) :=
  if (σ.1 55 24) = (σ.1 55 2) then
  (F_X7_copy 70 56 σ).bind fun q1 =>
  (F_X7_copy 71 57 q1).bind fun q2 =>
  (F_X7_copy 72 58 q2).bind fun q3 =>
  lt (up q3 55 6 (q3.1 55 25)) fun h4 =>
  lt (up h4 55 5 (h4.1 55 26)) fun h5 =>
  some ((h5.1 55 6), h5)
  else
  some (((-103) : Int32), σ)
set_option maxHeartbeats 4000000 in
set_option maxRecDepth 100000 in
theorem T_X7_restore {G : Gm} {α : Nat → Nat} (hO : Ok G α cX7_restore 1 RX7 1 22) (hR : Rt G α (some .int)) (σ : Hp) : V G α 1 (kSI) 0 [(0, .ref (α (55)))] [] σ (F_X7_restore σ) := by
  rw [F_X7_restore]
  refine V_aload_n hO 0 dX7_restore_0 rfl rfl ?_
  refine V_get hO (v := .int (σ.1 55 24)) fl_X7_61 (by decide) (fun _ _ => ce_55) rfl dX7_restore_1 ?_
  refine V_aload_n hO 0 dX7_restore_4 rfl rfl ?_
  refine V_get hO (v := .int (σ.1 55 2)) fl_X7_91 (by decide) (fun _ _ => ce_55) rfl dX7_restore_5 ?_
  refine V_icmp_eq hO 14 dX7_restore_8 (by decide) ?_ ?_
  · refine V_aload_n hO 0 dX7_restore_14 rfl rfl ?_
    refine V_get hO (v := .ref (α (70))) fl_X7_52 (by decide) (fun _ _ => ce_55) rfl dX7_restore_15 ?_
    refine V_aload_n hO 0 dX7_restore_18 rfl rfl ?_
    refine V_get hO (v := .ref (α (56))) fl_X7_7 (by decide) (fun _ _ => ce_55) rfl dX7_restore_19 ?_
    refine V_callS hO ml_X7_247 (C_X7_copy α (a1 := 70) (a2 := 56) ⟨by decide, by decide⟩ ⟨by decide, by decide⟩ σ) (rest := []) rfl rfl (Nat.le_of_ble_eq_true rfl) ⟨Nat.le_of_ble_eq_true rfl, Nat.le_of_ble_eq_true rfl⟩ dX7_restore_22 (kc_SV rfl fun q1 => ?_)
    refine V_aload_n hO 0 dX7_restore_25 rfl rfl ?_
    refine V_get hO (v := .ref (α (71))) fl_X7_55 (by decide) (fun _ _ => ce_55) rfl dX7_restore_26 ?_
    refine V_aload_n hO 0 dX7_restore_29 rfl rfl ?_
    refine V_get hO (v := .ref (α (57))) fl_X7_13 (by decide) (fun _ _ => ce_55) rfl dX7_restore_30 ?_
    refine V_callS hO ml_X7_247 (C_X7_copy α (a1 := 71) (a2 := 57) ⟨by decide, by decide⟩ ⟨by decide, by decide⟩ q1) (rest := []) rfl rfl (Nat.le_of_ble_eq_true rfl) ⟨Nat.le_of_ble_eq_true rfl, Nat.le_of_ble_eq_true rfl⟩ dX7_restore_33 (kc_SV rfl fun q2 => ?_)
    refine V_aload_n hO 0 dX7_restore_36 rfl rfl ?_
    refine V_get hO (v := .ref (α (72))) fl_X7_58 (by decide) (fun _ _ => ce_55) rfl dX7_restore_37 ?_
    refine V_aload_n hO 0 dX7_restore_40 rfl rfl ?_
    refine V_get hO (v := .ref (α (58))) fl_X7_16 (by decide) (fun _ _ => ce_55) rfl dX7_restore_41 ?_
    refine V_callS hO ml_X7_247 (C_X7_copy α (a1 := 72) (a2 := 58) ⟨by decide, by decide⟩ ⟨by decide, by decide⟩ q2) (rest := []) rfl rfl (Nat.le_of_ble_eq_true rfl) ⟨Nat.le_of_ble_eq_true rfl, Nat.le_of_ble_eq_true rfl⟩ dX7_restore_44 (kc_SV rfl fun q3 => ?_)
    refine V_aload_n hO 0 dX7_restore_47 rfl rfl ?_
    refine V_aload_n hO 0 dX7_restore_48 rfl rfl ?_
    refine V_get hO (v := .int (q3.1 55 25)) fl_X7_254 (by decide) (fun _ _ => ce_55) rfl dX7_restore_49 ?_
    refine V_puti hO fp_X7_79 (by decide) (fun _ _ => ce_55) (Nat.le_of_ble_eq_true rfl) (fun _ _ => pe_55_6) dX7_restore_52 (V_name fun h4 => ?_)
    refine V_aload_n hO 0 dX7_restore_55 rfl rfl ?_
    refine V_aload_n hO 0 dX7_restore_56 rfl rfl ?_
    refine V_get hO (v := .int (h4.1 55 26)) fl_X7_257 (by decide) (fun _ _ => ce_55) rfl dX7_restore_57 ?_
    refine V_puti hO fp_X7_88 (by decide) (fun _ _ => ce_55) (Nat.le_of_ble_eq_true rfl) (fun _ _ => pe_55_5) dX7_restore_60 (V_name fun h5 => ?_)
    refine V_aload_n hO 0 dX7_restore_63 rfl rfl ?_
    refine V_get hO (v := .int (h5.1 55 6)) fl_X7_79 (by decide) (fun _ _ => ce_55) rfl dX7_restore_64 ?_
    exact V_iret hO hR rfl dX7_restore_67
  · refine V_bipush hO (-103) dX7_restore_11 (by decide) ?_
    exact V_iret hO hR rfl dX7_restore_13
set_option maxHeartbeats 4000000 in
set_option maxRecDepth 100000 in
theorem C_X7_restore (α : Nat → Nat) (σ : Hp) : Ct yX7_restore cX7_restore 1 (some .int) 1 22 α [.ref (α (55))] σ (kSI (F_X7_restore σ)) := ct_of_V (own := RX7) rfl (by decide +kernel) (Nat.le_of_ble_eq_true rfl) fun _ hO hR => T_X7_restore hO hR σ
