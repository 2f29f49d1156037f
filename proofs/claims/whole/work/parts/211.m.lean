/-! X7_copy -/
noncomputable def F_X7_copy_2 (a1 : Nat) (a2 : Nat) : Nat → Int32 → Hp → Option Hp
  | 0, _, _ => none
  | n + 1, w2, h =>
    if (Int32.ofNat (alen a1)) ≤ w2 then
    some h
    else
    if inb w2 (alen a1) = true then
    if inb w2 (alen a2) = true then
    lt (up h a2 (Int32.toNatClampNeg w2) (h.1 a1 (Int32.toNatClampNeg w2))) fun h3 =>
    F_X7_copy_2 a1 a2 n (w2 + 1) h3
    else none
    else none
noncomputable def F_X7_copy (a1 : Nat) (a2 : Nat) (σ : Hp) : Option Hp :=
  F_X7_copy_2 a1 a2 fuel (0 : Int32) σ
set_option maxHeartbeats 4000000 in
set_option maxRecDepth 100000 in
theorem T_X7_copy_2 {G : Gm} {α : Nat → Nat} {a1 : Nat} {a2 : Nat} (hO : Ok G α cX7_copy 3 RX7 0 0) (hR : Rt G α none) (ha1 : ArOk a1) (ha2 : ArOk a2) : ∀ (fuel : Nat) (w2 : Int32) (h : Hp), V G α 3 (kSV) 2 [(0, .ref (α (a1))), (1, .ref (α (a2))), (2, .int w2)] [] h (F_X7_copy_2 a1 a2 fuel w2 h) := by
  intro fuel
  induction fuel with
  | zero => intro w2 h; exact V_none rfl
  | succ n ih =>
    intro w2 h
    rw [F_X7_copy_2]
    refine V_iload_n hO 2 dX7_copy_2 rfl rfl ?_
    refine V_aload_n hO 0 dX7_copy_3 rfl rfl ?_
    refine V_alen hO (v := (Int32.ofNat (alen a1))) (ar_lt ha1) (fun _ _ => ce_var ha1) rfl dX7_copy_4 ?_
    refine V_icmp_ge hO 20 dX7_copy_5 (by decide) ?_ ?_
    · exact V_vret hO hR rfl dX7_copy_20
    · refine V_aload_n hO 1 dX7_copy_8 rfl rfl ?_
      refine V_iload_n hO 2 dX7_copy_9 rfl rfl ?_
      refine V_aload_n hO 0 dX7_copy_10 rfl rfl ?_
      refine V_iload_n hO 2 dX7_copy_11 rfl rfl ?_
      refine V_chk rfl fun c1 => ?_
      refine V_iald hO (ar_lt ha1) (fun _ _ => ce_var ha1) (inb_in c1) dX7_copy_12 ?_
      refine V_chk rfl fun c2 => ?_
      refine V_iast hO (ar_lt ha2) (fun _ _ _ => ce_var ha2) (inb_in c2) dX7_copy_13 (V_name fun h3 => ?_)
      refine V_iinc hO (ls2 := [(2, .int (w2 + 1)), (0, .ref (α (a1))), (1, .ref (α (a2)))]) (z := 1) 2 dX7_copy_14 rfl (by decide) (by decide) rfl ?_
      refine V_goto hO 2 dX7_copy_17 (by decide) ?_
      exact V_sub [1, 2, 0] rfl (ih (w2 + 1) h3 )
set_option maxHeartbeats 4000000 in
set_option maxRecDepth 100000 in
theorem T_X7_copy {G : Gm} {α : Nat → Nat} {a1 : Nat} {a2 : Nat} (hO : Ok G α cX7_copy 3 RX7 0 0) (hR : Rt G α none) (ha1 : ArOk a1) (ha2 : ArOk a2) (σ : Hp) : V G α 3 (kSV) 0 [(0, .ref (α (a1))), (1, .ref (α (a2)))] [] σ (F_X7_copy a1 a2 σ) := by
  rw [F_X7_copy]
  refine V_iconst hO 0 dX7_copy_0 (by decide) ?_
  refine V_istore_n hO (ls2 := [(2, .int 0), (0, .ref (α (a1))), (1, .ref (α (a2)))]) dX7_copy_1 rfl (by decide) rfl ?_
  exact V_sub [1, 2, 0] rfl (T_X7_copy_2 hO hR ha1 ha2 fuel (0 : Int32) σ )
set_option maxHeartbeats 4000000 in
set_option maxRecDepth 100000 in
theorem C_X7_copy (α : Nat → Nat) {a1 : Nat} {a2 : Nat} (ha1 : ArOk a1) (ha2 : ArOk a2) (σ : Hp) : Ct yX7_copy cX7_copy 3 none 0 0 α [.ref (α (a1)), .ref (α (a2))] σ (kSV (F_X7_copy a1 a2 σ)) := ct_of_V (own := RX7) rfl (by decide +kernel) (Nat.le_of_ble_eq_true rfl) fun _ hO hR => T_X7_copy hO hR ha1 ha2 σ
/-! X7_draw -/
noncomputable def F_X7_draw  (p1 : Int32) (σ : Hp) : Option (Int32 × Hp) :=
  lt (up σ 55 23 (Int64.toInt32 ((((1103515245 : Int64) * (Int32.toInt64 (σ.1 55 23))) + (12345 : Int64)) &&& (2147483647 : Int64)))) fun h1 =>
  if ¬ p1 = 0 then
  some ((jrem ((h1.1 55 23) / (65536 : Int32)) p1), h1)
  else none
set_option maxHeartbeats 4000000 in
set_option maxRecDepth 100000 in
theorem T_X7_draw {G : Gm} {α : Nat → Nat} (hO : Ok G α cX7_draw 2 RX7 0 0) (hR : Rt G α (some .int)) (p1 : Int32) (σ : Hp) : V G α 2 (kSI) 0 [(0, .ref (α (55))), (1, .int p1)] [] σ (F_X7_draw p1 σ) := by
  rw [F_X7_draw]
  refine V_aload_n hO 0 dX7_draw_0 rfl rfl ?_
  refine V_ldc2 hO (v := 1103515245) dX7_draw_1 cn_X7_235 ?_
  refine V_aload_n hO 0 dX7_draw_4 rfl rfl ?_
  refine V_get hO (v := .int (σ.1 55 23)) fl_X7_237 (by decide) (fun _ _ => ce_55) rfl dX7_draw_5 ?_
  refine V_i2l hO dX7_draw_8 ?_
  refine V_lmul hO dX7_draw_9 ?_
  refine V_ldc2 hO (v := 12345) dX7_draw_10 cn_X7_240 ?_
  refine V_ladd hO dX7_draw_13 ?_
  refine V_ldc2 hO (v := 2147483647) dX7_draw_14 cn_X7_242 ?_
  refine V_land hO dX7_draw_17 ?_
  refine V_l2i hO dX7_draw_18 ?_
  refine V_puti hO fp_X7_237 (by decide) (fun _ _ => ce_55) (Nat.le_of_ble_eq_true rfl) (fun _ _ => pe_55_23) dX7_draw_19 (V_name fun h1 => ?_)
  refine V_aload_n hO 0 dX7_draw_22 rfl rfl ?_
  refine V_get hO (v := .int (h1.1 55 23)) fl_X7_237 (by decide) (fun _ _ => ce_55) rfl dX7_draw_23 ?_
  refine V_ldc hO (v := 65536) dX7_draw_26 cn_X7_244 ?_
  refine V_idiv hO dX7_draw_28 (by decide) ?_
  refine V_iload_n hO 1 dX7_draw_29 rfl rfl ?_
  refine V_chk rfl fun c2 => ?_
  refine V_irem hO dX7_draw_30 c2 ?_
  exact V_iret hO hR rfl dX7_draw_31
set_option maxHeartbeats 4000000 in
set_option maxRecDepth 100000 in
theorem C_X7_draw (α : Nat → Nat) (p1 : Int32) (σ : Hp) : Ct yX7_draw cX7_draw 2 (some .int) 0 0 α [.ref (α (55)), .int p1] σ (kSI (F_X7_draw p1 σ)) := ct_of_V (own := RX7) rfl (by decide +kernel) (Nat.le_of_ble_eq_true rfl) fun _ hO hR => T_X7_draw hO hR p1 σ
/-! X7_winter -/
noncomputable def F_X7_winter_106 (k72 : Int32 → Int32 → Int32 → Hp → (Option (Int32 × Hp))) (w1 : Int32) (w3 : Int32) (w4 : Int32) (s0 : Int32) (s1 : Int32) (h : Hp) : Option (Int32 × Hp) :=
  (F_X7_day s1 s0 h).bind fun q1 =>
  k72 w1 w3 (w4 + 1) q1
noncomputable def F_X7_winter_127  : Nat → Int32 → Int32 → Int32 → Int32 → Hp → Option (Int32 × Hp)
  | 0, _, _, _, _, _ => none
  | n + 1, w3, w4, w5, w6, h =>
    if (F_X7_squares h) ≤ w6 then
    (F_X7_copy 67 56 h).bind fun q2 =>
    (F_X7_copy 68 57 q2).bind fun q3 =>
    (F_X7_copy 69 58 q3).bind fun q4 =>
    if w3 = 0 then
    some (w4, q4)
    else
    if w3 = (1 : Int32) then
    some (w5, q4)
    else
    some ((q4.1 55 23), q4)
    else
    if inb w6 16 = true then
    lt (w5 + (h.1 56 (Int32.toNatClampNeg w6))) fun v6 =>
    F_X7_winter_127 n w3 w4 v6 (w6 + 1) h
    else none
noncomputable def F_X7_winter_72  : Nat → Int32 → Int32 → Int32 → Hp → Option (Int32 × Hp)
  | 0, _, _, _, _ => none
  | n + 1, w1, w3, w4, h =>
    if w1 ≤ w4 then
    (F_X7_thereMany h).bind fun v7 =>
    F_X7_winter_127 fuel w3 v7 (0 : Int32) (0 : Int32) h
    else
    (F_X7_draw (4 : Int32) h).bind fun q8 =>
    if (2 : Int32) ≤ q8.1 then
    F_X7_winter_106 (F_X7_winter_72 n) w1 w3 w4 (0 : Int32) q8.1 q8.2
    else
    (F_X7_draw (9 : Int32) q8.2).bind fun q9 =>
    F_X7_winter_106 (F_X7_winter_72 n) w1 w3 w4 ((1 : Int32) + q9.1) q8.1 q9.2
noncomputable def F_X7_winter  (p1 : Int32) (p2 : Int32) (p3 : Int32) (σ : Hp) : Option (Int32 × Hp) :=
  if (F_X7_in (Int32.toInt64 p1) (1 : Int64) (60 : Int64) σ) = true then
  if p2 < 0 then
  some (((-102) : Int32), σ)
  else
  if (F_X7_in (Int32.toInt64 p3) (0 : Int64) (2 : Int64) σ) = true then
  (F_X7_copy 56 67 σ).bind fun q10 =>
  (F_X7_copy 57 68 q10).bind fun q11 =>
  (F_X7_copy 58 69 q11).bind fun q12 =>
  lt (up q12 55 23 p2) fun h13 =>
  F_X7_winter_72 fuel p1 p3 (0 : Int32) h13
  else
  some (((-102) : Int32), σ)
  else
  some (((-102) : Int32), σ)
set_option maxHeartbeats 4000000 in
set_option maxRecDepth 100000 in
theorem T_X7_winter_106 {G : Gm} {α : Nat → Nat} (hO : Ok G α cX7_winter 7 RX7 3 67) (hR : Rt G α (some .int)) (k72 : Int32 → Int32 → Int32 → Hp → (Option (Int32 × Hp))) (hk72 : ∀ (w1 : Int32) (w3 : Int32) (w4 : Int32) (h : Hp), V G α 7 (kSI) 72 [(0, .ref (α (55))), (1, .int w1), (3, .int w3), (4, .int w4)] [] h (k72 w1 w3 w4 h)) : ∀ (w1 : Int32) (w3 : Int32) (w4 : Int32) (s0 : Int32) (s1 : Int32) (h : Hp), V G α 7 (kSI) 106 [(0, .ref (α (55))), (1, .int w1), (3, .int w3), (4, .int w4)] [.int s0, .int s1, .ref (α (55))] h (F_X7_winter_106 k72 w1 w3 w4 s0 s1 h) := by
  intro w1 w3 w4 s0 s1 h
  rw [F_X7_winter_106]
  refine V_callV hO ml_X7_176 (C_X7_day α s1 s0 h) (by decide) (fun _ _ => ce_55) rfl rfl (rest := []) rfl rfl (Nat.le_of_ble_eq_true rfl) ⟨Nat.le_of_ble_eq_true rfl, Nat.le_of_ble_eq_true rfl⟩ dX7_winter_106 (kc_SV rfl fun q1 => ?_)
  refine V_iinc hO (ls2 := [(4, .int (w4 + 1)), (0, .ref (α (55))), (1, .int w1), (3, .int w3)]) (z := 1) 3 dX7_winter_109 rfl (by decide) (by decide) rfl ?_
  refine V_goto hO 72 dX7_winter_112 (by decide) ?_
  exact V_sub [1, 2, 3, 0] rfl (hk72 w1 w3 (w4 + 1) q1 )
set_option maxHeartbeats 4000000 in
set_option maxRecDepth 100000 in
theorem T_X7_winter_127 {G : Gm} {α : Nat → Nat} (hO : Ok G α cX7_winter 7 RX7 3 67) (hR : Rt G α (some .int)) : ∀ (fuel : Nat) (w3 : Int32) (w4 : Int32) (w5 : Int32) (w6 : Int32) (h : Hp), V G α 7 (kSI) 127 [(0, .ref (α (55))), (3, .int w3), (4, .int w4), (5, .int w5), (6, .int w6)] [] h (F_X7_winter_127 fuel w3 w4 w5 w6 h) := by
  intro fuel
  induction fuel with
  | zero => intro w3 w4 w5 w6 h; exact V_none rfl
  | succ n ih =>
    intro w3 w4 w5 w6 h
    rw [F_X7_winter_127]
    refine V_iload hO 4 dX7_winter_127 rfl ?_
    refine V_aload_n hO 0 dX7_winter_129 rfl rfl ?_
    refine V_callV hO ml_X7_71 (C_X7_squares α h) (by decide) (fun _ _ => ce_55) rfl rfl (rest := [.int w6]) rfl rfl (Nat.le_of_ble_eq_true rfl) ⟨Nat.le_of_ble_eq_true rfl, Nat.le_of_ble_eq_true rfl⟩ dX7_winter_130 (kc_I ?_)
    refine V_icmp_ge hO 154 dX7_winter_133 (by decide) ?_ ?_
    · refine V_aload_n hO 0 dX7_winter_154 rfl rfl ?_
      refine V_get hO (v := .ref (α (67))) fl_X7_43 (by decide) (fun _ _ => ce_55) rfl dX7_winter_155 ?_
      refine V_aload_n hO 0 dX7_winter_158 rfl rfl ?_
      refine V_get hO (v := .ref (α (56))) fl_X7_7 (by decide) (fun _ _ => ce_55) rfl dX7_winter_159 ?_
      refine V_callS hO ml_X7_247 (C_X7_copy α (a1 := 67) (a2 := 56) ⟨by decide, by decide⟩ ⟨by decide, by decide⟩ h) (rest := []) rfl rfl (Nat.le_of_ble_eq_true rfl) ⟨Nat.le_of_ble_eq_true rfl, Nat.le_of_ble_eq_true rfl⟩ dX7_winter_162 (kc_SV rfl fun q2 => ?_)
      refine V_aload_n hO 0 dX7_winter_165 rfl rfl ?_
      refine V_get hO (v := .ref (α (68))) fl_X7_46 (by decide) (fun _ _ => ce_55) rfl dX7_winter_166 ?_
      refine V_aload_n hO 0 dX7_winter_169 rfl rfl ?_
      refine V_get hO (v := .ref (α (57))) fl_X7_13 (by decide) (fun _ _ => ce_55) rfl dX7_winter_170 ?_
      refine V_callS hO ml_X7_247 (C_X7_copy α (a1 := 68) (a2 := 57) ⟨by decide, by decide⟩ ⟨by decide, by decide⟩ q2) (rest := []) rfl rfl (Nat.le_of_ble_eq_true rfl) ⟨Nat.le_of_ble_eq_true rfl, Nat.le_of_ble_eq_true rfl⟩ dX7_winter_173 (kc_SV rfl fun q3 => ?_)
      refine V_aload_n hO 0 dX7_winter_176 rfl rfl ?_
      refine V_get hO (v := .ref (α (69))) fl_X7_49 (by decide) (fun _ _ => ce_55) rfl dX7_winter_177 ?_
      refine V_aload_n hO 0 dX7_winter_180 rfl rfl ?_
      refine V_get hO (v := .ref (α (58))) fl_X7_16 (by decide) (fun _ _ => ce_55) rfl dX7_winter_181 ?_
      refine V_callS hO ml_X7_247 (C_X7_copy α (a1 := 69) (a2 := 58) ⟨by decide, by decide⟩ ⟨by decide, by decide⟩ q3) (rest := []) rfl rfl (Nat.le_of_ble_eq_true rfl) ⟨Nat.le_of_ble_eq_true rfl, Nat.le_of_ble_eq_true rfl⟩ dX7_winter_184 (kc_SV rfl fun q4 => ?_)
      refine V_iload_n hO 1 dX7_winter_187 rfl rfl ?_
      refine V_if_ne hO 196 dX7_winter_188 (by decide) ?_ ?_
      · refine V_iload_n hO 1 dX7_winter_196 rfl rfl ?_
        refine V_iconst hO 1 dX7_winter_197 (by decide) ?_
        refine V_icmp_ne hO 206 dX7_winter_198 (by decide) ?_ ?_
        · refine V_aload_n hO 0 dX7_winter_206 rfl rfl ?_
          refine V_get hO (v := .int (q4.1 55 23)) fl_X7_237 (by decide) (fun _ _ => ce_55) rfl dX7_winter_207 ?_
          exact V_iret hO hR rfl dX7_winter_210
        · refine V_iload hO 3 dX7_winter_201 rfl ?_
          refine V_goto hO 210 dX7_winter_203 (by decide) ?_
          exact V_iret hO hR rfl dX7_winter_210
      · refine V_iload hO 2 dX7_winter_191 rfl ?_
        refine V_goto hO 210 dX7_winter_193 (by decide) ?_
        exact V_iret hO hR rfl dX7_winter_210
    · refine V_iload hO 3 dX7_winter_136 rfl ?_
      refine V_aload_n hO 0 dX7_winter_138 rfl rfl ?_
      refine V_get hO (v := .ref (α (56))) fl_X7_7 (by decide) (fun _ _ => ce_55) rfl dX7_winter_139 ?_
      refine V_iload hO 4 dX7_winter_142 rfl ?_
      refine V_chk rfl fun c5 => ?_
      refine V_iald hO (by decide) (fun _ _ => ce_56) (inb_in c5) dX7_winter_144 ?_
      refine V_iadd hO dX7_winter_145 ?_
      refine V_istoreN hO (ls2 := fun v6 => [(5, .int v6), (0, .ref (α (55))), (3, .int w3), (4, .int w4), (6, .int w6)]) dX7_winter_146 (by decide) (fun _ => rfl) (fun v6 => ?_)
      refine V_iinc hO (ls2 := [(6, .int (w6 + 1)), (5, .int v6), (0, .ref (α (55))), (3, .int w3), (4, .int w4)]) (z := 1) 4 dX7_winter_148 rfl (by decide) (by decide) rfl ?_
      refine V_goto hO 127 dX7_winter_151 (by decide) ?_
      exact V_sub [2, 3, 4, 1, 0] rfl (ih w3 w4 v6 (w6 + 1) h )
set_option maxHeartbeats 4000000 in
set_option maxRecDepth 100000 in
theorem T_X7_winter_72 {G : Gm} {α : Nat → Nat} (hO : Ok G α cX7_winter 7 RX7 3 67) (hR : Rt G α (some .int)) : ∀ (fuel : Nat) (w1 : Int32) (w3 : Int32) (w4 : Int32) (h : Hp), V G α 7 (kSI) 72 [(0, .ref (α (55))), (1, .int w1), (3, .int w3), (4, .int w4)] [] h (F_X7_winter_72 fuel w1 w3 w4 h) := by
  intro fuel
  induction fuel with
  | zero => intro w1 w3 w4 h; exact V_none rfl
  | succ n ih =>
    intro w1 w3 w4 h
    rw [F_X7_winter_72]
    refine V_iload hO 3 dX7_winter_72 rfl ?_
    refine V_iload_n hO 1 dX7_winter_74 rfl rfl ?_
    refine V_icmp_ge hO 115 dX7_winter_75 (by decide) ?_ ?_
    · refine V_aload_n hO 0 dX7_winter_115 rfl rfl ?_
      refine V_callV hO ml_X7_173 (C_X7_thereMany α h) (by decide) (fun _ _ => ce_55) rfl rfl (rest := []) rfl rfl (Nat.le_of_ble_eq_true rfl) ⟨Nat.le_of_ble_eq_true rfl, Nat.le_of_ble_eq_true rfl⟩ dX7_winter_116 (kc_OI rfl fun v7 => ?_)
      refine V_istore hO (ls2 := [(4, .int v7), (0, .ref (α (55))), (1, .int w1), (3, .int w3)]) dX7_winter_119 (by decide) rfl ?_
      refine V_iconst hO 0 dX7_winter_121 (by decide) ?_
      refine V_istore hO (ls2 := [(5, .int 0), (4, .int v7), (0, .ref (α (55))), (1, .int w1), (3, .int w3)]) dX7_winter_122 (by decide) rfl ?_
      refine V_iconst hO 0 dX7_winter_124 (by decide) ?_
      refine V_istore hO (ls2 := [(6, .int 0), (5, .int 0), (4, .int v7), (0, .ref (α (55))), (1, .int w1), (3, .int w3)]) dX7_winter_125 (by decide) rfl ?_
      exact V_sub [3, 5, 2, 1, 0] rfl (T_X7_winter_127 hO hR fuel w3 v7 (0 : Int32) (0 : Int32) h )
    · refine V_aload_n hO 0 dX7_winter_78 rfl rfl ?_
      refine V_iconst hO 4 dX7_winter_79 (by decide) ?_
      refine V_callV hO ml_X7_251 (C_X7_draw α (4 : Int32) h) (by decide) (fun _ _ => ce_55) rfl rfl (rest := []) rfl rfl (Nat.le_of_ble_eq_true rfl) ⟨Nat.le_of_ble_eq_true rfl, Nat.le_of_ble_eq_true rfl⟩ dX7_winter_80 (kc_SI rfl fun q8 => ?_)
      refine V_istore hO (ls2 := [(5, .int q8.1), (0, .ref (α (55))), (1, .int w1), (3, .int w3), (4, .int w4)]) dX7_winter_83 (by decide) rfl ?_
      refine V_aload_n hO 1 dX7_winter_85 rfl rfl ?_
      refine V_iload hO 0 dX7_winter_86 rfl ?_
      refine V_iload hO 0 dX7_winter_88 rfl ?_
      refine V_iconst hO 2 dX7_winter_90 (by decide) ?_
      refine V_icmp_ge hO 105 dX7_winter_91 (by decide) ?_ ?_
      · refine V_iconst hO 0 dX7_winter_105 (by decide) ?_
        exact V_sub [1, 2, 3, 4] rfl (T_X7_winter_106 hO hR (F_X7_winter_72 n) ih w1 w3 w4 (0 : Int32) q8.1 q8.2 )
      · refine V_iconst hO 1 dX7_winter_94 (by decide) ?_
        refine V_aload_n hO 1 dX7_winter_95 rfl rfl ?_
        refine V_bipush hO 9 dX7_winter_96 (by decide) ?_
        refine V_callV hO ml_X7_251 (C_X7_draw α (9 : Int32) q8.2) (by decide) (fun _ _ => ce_55) rfl rfl (rest := [.int 1, .int q8.1, .ref (α (55))]) rfl rfl (Nat.le_of_ble_eq_true rfl) ⟨Nat.le_of_ble_eq_true rfl, Nat.le_of_ble_eq_true rfl⟩ dX7_winter_98 (kc_SI rfl fun q9 => ?_)
        refine V_iadd hO dX7_winter_101 ?_
        refine V_goto hO 106 dX7_winter_102 (by decide) ?_
        exact V_sub [1, 2, 3, 4] rfl (T_X7_winter_106 hO hR (F_X7_winter_72 n) ih w1 w3 w4 ((1 : Int32) + q9.1) q8.1 q9.2 )
set_option maxHeartbeats 4000000 in
set_option maxRecDepth 100000 in
theorem T_X7_winter {G : Gm} {α : Nat → Nat} (hO : Ok G α cX7_winter 7 RX7 3 67) (hR : Rt G α (some .int)) (p1 : Int32) (p2 : Int32) (p3 : Int32) (σ : Hp) : V G α 7 (kSI) 0 [(0, .ref (α (55))), (1, .int p1), (2, .int p2), (3, .int p3)] [] σ (F_X7_winter p1 p2 p3 σ) := by
  rw [F_X7_winter]
  refine V_iload_n hO 1 dX7_winter_0 rfl rfl ?_
  refine V_i2l hO dX7_winter_1 ?_
  refine V_lconst hO 1 dX7_winter_2 (by decide) ?_
  refine V_ldc2 hO (v := 60) dX7_winter_3 cn_X7_245 ?_
  refine V_callS hO ml_X7_75 (C_X7_in α (Int32.toInt64 p1) (1 : Int64) (60 : Int64) σ) (rest := []) rfl rfl (Nat.le_of_ble_eq_true rfl) ⟨Nat.le_of_ble_eq_true rfl, Nat.le_of_ble_eq_true rfl⟩ dX7_winter_6 (kc_Z ?_)
  refine V_ifeqZ hO 28 dX7_winter_9 (by decide) ?_ ?_
  · refine V_bipush hO (-102) dX7_winter_28 (by decide) ?_
    exact V_iret hO hR rfl dX7_winter_30
  · refine V_iload_n hO 2 dX7_winter_12 rfl rfl ?_
    refine V_if_lt hO 28 dX7_winter_13 (by decide) ?_ ?_
    · refine V_bipush hO (-102) dX7_winter_28 (by decide) ?_
      exact V_iret hO hR rfl dX7_winter_30
    · refine V_iload_n hO 3 dX7_winter_16 rfl rfl ?_
      refine V_i2l hO dX7_winter_17 ?_
      refine V_lconst hO 0 dX7_winter_18 (by decide) ?_
      refine V_ldc2 hO (v := 2) dX7_winter_19 cn_X7_84 ?_
      refine V_callS hO ml_X7_75 (C_X7_in α (Int32.toInt64 p3) (0 : Int64) (2 : Int64) σ) (rest := []) rfl rfl (Nat.le_of_ble_eq_true rfl) ⟨Nat.le_of_ble_eq_true rfl, Nat.le_of_ble_eq_true rfl⟩ dX7_winter_22 (kc_Z ?_)
      refine V_ifneZ hO 31 dX7_winter_25 (by decide) ?_ ?_
      · refine V_aload_n hO 0 dX7_winter_31 rfl rfl ?_
        refine V_get hO (v := .ref (α (56))) fl_X7_7 (by decide) (fun _ _ => ce_55) rfl dX7_winter_32 ?_
        refine V_aload_n hO 0 dX7_winter_35 rfl rfl ?_
        refine V_get hO (v := .ref (α (67))) fl_X7_43 (by decide) (fun _ _ => ce_55) rfl dX7_winter_36 ?_
        refine V_callS hO ml_X7_247 (C_X7_copy α (a1 := 56) (a2 := 67) ⟨by decide, by decide⟩ ⟨by decide, by decide⟩ σ) (rest := []) rfl rfl (Nat.le_of_ble_eq_true rfl) ⟨Nat.le_of_ble_eq_true rfl, Nat.le_of_ble_eq_true rfl⟩ dX7_winter_39 (kc_SV rfl fun q10 => ?_)
        refine V_aload_n hO 0 dX7_winter_42 rfl rfl ?_
        refine V_get hO (v := .ref (α (57))) fl_X7_13 (by decide) (fun _ _ => ce_55) rfl dX7_winter_43 ?_
        refine V_aload_n hO 0 dX7_winter_46 rfl rfl ?_
        refine V_get hO (v := .ref (α (68))) fl_X7_46 (by decide) (fun _ _ => ce_55) rfl dX7_winter_47 ?_
        refine V_callS hO ml_X7_247 (C_X7_copy α (a1 := 57) (a2 := 68) ⟨by decide, by decide⟩ ⟨by decide, by decide⟩ q10) (rest := []) rfl rfl (Nat.le_of_ble_eq_true rfl) ⟨Nat.le_of_ble_eq_true rfl, Nat.le_of_ble_eq_true rfl⟩ dX7_winter_50 (kc_SV rfl fun q11 => ?_)
        refine V_aload_n hO 0 dX7_winter_53 rfl rfl ?_
        refine V_get hO (v := .ref (α (58))) fl_X7_16 (by decide) (fun _ _ => ce_55) rfl dX7_winter_54 ?_
        refine V_aload_n hO 0 dX7_winter_57 rfl rfl ?_
        refine V_get hO (v := .ref (α (69))) fl_X7_49 (by decide) (fun _ _ => ce_55) rfl dX7_winter_58 ?_
        refine V_callS hO ml_X7_247 (C_X7_copy α (a1 := 58) (a2 := 69) ⟨by decide, by decide⟩ ⟨by decide, by decide⟩ q11) (rest := []) rfl rfl (Nat.le_of_ble_eq_true rfl) ⟨Nat.le_of_ble_eq_true rfl, Nat.le_of_ble_eq_true rfl⟩ dX7_winter_61 (kc_SV rfl fun q12 => ?_)
        refine V_aload_n hO 0 dX7_winter_64 rfl rfl ?_
        refine V_iload_n hO 2 dX7_winter_65 rfl rfl ?_
        refine V_puti hO fp_X7_237 (by decide) (fun _ _ => ce_55) (Nat.le_of_ble_eq_true rfl) (fun _ _ => pe_55_23) dX7_winter_66 (V_name fun h13 => ?_)
        refine V_iconst hO 0 dX7_winter_69 (by decide) ?_
        refine V_istore hO (ls2 := [(4, .int 0), (0, .ref (α (55))), (1, .int p1), (2, .int p2), (3, .int p3)]) dX7_winter_70 (by decide) rfl ?_
        exact V_sub [1, 2, 4, 0] rfl (T_X7_winter_72 hO hR fuel p1 p3 (0 : Int32) h13 )
      · refine V_bipush hO (-102) dX7_winter_28 (by decide) ?_
        exact V_iret hO hR rfl dX7_winter_30
set_option maxHeartbeats 4000000 in
set_option maxRecDepth 100000 in
theorem C_X7_winter (α : Nat → Nat) (p1 : Int32) (p2 : Int32) (p3 : Int32) (σ : Hp) : Ct yX7_winter cX7_winter 7 (some .int) 3 67 α [.ref (α (55)), .int p1, .int p2, .int p3] σ (kSI (F_X7_winter p1 p2 p3 σ)) := ct_of_V (own := RX7) rfl (by decide +kernel) (Nat.le_of_ble_eq_true rfl) fun _ hO hR => T_X7_winter hO hR p1 p2 p3 σ
/-! X7_image -/
noncomputable def F_X7_image  (σ : Hp) : Option (Int32 × Hp) :=
  (F_X7_copy 56 70 σ).bind fun q1 =>
  (F_X7_copy 57 71 q1).bind fun q2 =>
  (F_X7_copy 58 72 q2).bind fun q3 =>
  lt (up q3 55 25 (q3.1 55 6)) fun h4 =>
  lt (up h4 55 26 (h4.1 55 5)) fun h5 =>
  lt (up h5 55 24 (h5.1 55 2)) fun h6 =>
  some ((h6.1 55 6), h6)
set_option maxHeartbeats 4000000 in
set_option maxRecDepth 100000 in
theorem T_X7_image {G : Gm} {α : Nat → Nat} (hO : Ok G α cX7_image 1 RX7 1 22) (hR : Rt G α (some .int)) (σ : Hp) : V G α 1 (kSI) 0 [(0, .ref (α (55)))] [] σ (F_X7_image σ) := by
  rw [F_X7_image]
  refine V_aload_n hO 0 dX7_image_0 rfl rfl ?_
  refine V_get hO (v := .ref (α (56))) fl_X7_7 (by decide) (fun _ _ => ce_55) rfl dX7_image_1 ?_
  refine V_aload_n hO 0 dX7_image_4 rfl rfl ?_
  refine V_get hO (v := .ref (α (70))) fl_X7_52 (by decide) (fun _ _ => ce_55) rfl dX7_image_5 ?_
  refine V_callS hO ml_X7_247 (C_X7_copy α (a1 := 56) (a2 := 70) ⟨by decide, by decide⟩ ⟨by decide, by decide⟩ σ) (rest := []) rfl rfl (Nat.le_of_ble_eq_true rfl) ⟨Nat.le_of_ble_eq_true rfl, Nat.le_of_ble_eq_true rfl⟩ dX7_image_8 (kc_SV rfl fun q1 => ?_)
  refine V_aload_n hO 0 dX7_image_11 rfl rfl ?_
  refine V_get hO (v := .ref (α (57))) fl_X7_13 (by decide) (fun _ _ => ce_55) rfl dX7_image_12 ?_
  refine V_aload_n hO 0 dX7_image_15 rfl rfl ?_
  refine V_get hO (v := .ref (α (71))) fl_X7_55 (by decide) (fun _ _ => ce_55) rfl dX7_image_16 ?_
  refine V_callS hO ml_X7_247 (C_X7_copy α (a1 := 57) (a2 := 71) ⟨by decide, by decide⟩ ⟨by decide, by decide⟩ q1) (rest := []) rfl rfl (Nat.le_of_ble_eq_true rfl) ⟨Nat.le_of_ble_eq_true rfl, Nat.le_of_ble_eq_true rfl⟩ dX7_image_19 (kc_SV rfl fun q2 => ?_)
  refine V_aload_n hO 0 dX7_image_22 rfl rfl ?_
  refine V_get hO (v := .ref (α (58))) fl_X7_16 (by decide) (fun _ _ => ce_55) rfl dX7_image_23 ?_
  refine V_aload_n hO 0 dX7_image_26 rfl rfl ?_
  refine V_get hO (v := .ref (α (72))) fl_X7_58 (by decide) (fun _ _ => ce_55) rfl dX7_image_27 ?_
  refine V_callS hO ml_X7_247 (C_X7_copy α (a1 := 58) (a2 := 72) ⟨by decide, by decide⟩ ⟨by decide, by decide⟩ q2) (rest := []) rfl rfl (Nat.le_of_ble_eq_true rfl) ⟨Nat.le_of_ble_eq_true rfl, Nat.le_of_ble_eq_true rfl⟩ dX7_image_30 (kc_SV rfl fun q3 => ?_)
  refine V_aload_n hO 0 dX7_image_33 rfl rfl ?_
  refine V_aload_n hO 0 dX7_image_34 rfl rfl ?_
  refine V_get hO (v := .int (q3.1 55 6)) fl_X7_79 (by decide) (fun _ _ => ce_55) rfl dX7_image_35 ?_
  refine V_puti hO fp_X7_254 (by decide) (fun _ _ => ce_55) (Nat.le_of_ble_eq_true rfl) (fun _ _ => pe_55_25) dX7_image_38 (V_name fun h4 => ?_)
  refine V_aload_n hO 0 dX7_image_41 rfl rfl ?_
  refine V_aload_n hO 0 dX7_image_42 rfl rfl ?_
  refine V_get hO (v := .int (h4.1 55 5)) fl_X7_88 (by decide) (fun _ _ => ce_55) rfl dX7_image_43 ?_
  refine V_puti hO fp_X7_257 (by decide) (fun _ _ => ce_55) (Nat.le_of_ble_eq_true rfl) (fun _ _ => pe_55_26) dX7_image_46 (V_name fun h5 => ?_)
  refine V_aload_n hO 0 dX7_image_49 rfl rfl ?_
  refine V_aload_n hO 0 dX7_image_50 rfl rfl ?_
  refine V_get hO (v := .int (h5.1 55 2)) fl_X7_91 (by decide) (fun _ _ => ce_55) rfl dX7_image_51 ?_
  refine V_puti hO fp_X7_61 (by decide) (fun _ _ => ce_55) (Nat.le_of_ble_eq_true rfl) (fun _ _ => pe_55_24) dX7_image_54 (V_name fun h6 => ?_)
  refine V_aload_n hO 0 dX7_image_57 rfl rfl ?_
  refine V_get hO (v := .int (h6.1 55 6)) fl_X7_79 (by decide) (fun _ _ => ce_55) rfl dX7_image_58 ?_
  exact V_iret hO hR rfl dX7_image_61
set_option maxHeartbeats 4000000 in
set_option maxRecDepth 100000 in
theorem C_X7_image (α : Nat → Nat) (σ : Hp) : Ct yX7_image cX7_image 1 (some .int) 1 22 α [.ref (α (55))] σ (kSI (F_X7_image σ)) := ct_of_V (own := RX7) rfl (by decide +kernel) (Nat.le_of_ble_eq_true rfl) fun _ hO hR => T_X7_image hO hR σ
/-! X7_restore -/
noncomputable def F_X7_restore  (σ : Hp) : Option (Int32 × Hp) :=
  if (σ.1 55 24) = (σ.1 55 2) then
  (F_X7_copy 70 56 σ).bind fun q1 =>
  (F_X7_copy 71 57 q1).bind fun q2 =>
  (F_X7_copy 72 58 q2).bind fun q3 =>
  lt (up q3 55 6 (q3.1 55 25)) fun h4 =>
  lt (up h4 55 5 (h4.1 55 26)) fun h5 =>
  some ((h5.1 55 6), h5)
  else
  some (((-103) : Int32), σ)
set_option maxHeartbeats 4000000 in
set_option maxRecDepth 100000 in
theorem T_X7_restore {G : Gm} {α : Nat → Nat} (hO : Ok G α cX7_restore 1 RX7 1 22) (hR : Rt G α (some .int)) (σ : Hp) : V G α 1 (kSI) 0 [(0, .ref (α (55)))] [] σ (F_X7_restore σ) := by
  rw [F_X7_restore]
  refine V_aload_n hO 0 dX7_restore_0 rfl rfl ?_
  refine V_get hO (v := .int (σ.1 55 24)) fl_X7_61 (by decide) (fun _ _ => ce_55) rfl dX7_restore_1 ?_
  refine V_aload_n hO 0 dX7_restore_4 rfl rfl ?_
  refine V_get hO (v := .int (σ.1 55 2)) fl_X7_91 (by decide) (fun _ _ => ce_55) rfl dX7_restore_5 ?_
  refine V_icmp_eq hO 14 dX7_restore_8 (by decide) ?_ ?_
  · refine V_aload_n hO 0 dX7_restore_14 rfl rfl ?_
    refine V_get hO (v := .ref (α (70))) fl_X7_52 (by decide) (fun _ _ => ce_55) rfl dX7_restore_15 ?_
    refine V_aload_n hO 0 dX7_restore_18 rfl rfl ?_
    refine V_get hO (v := .ref (α (56))) fl_X7_7 (by decide) (fun _ _ => ce_55) rfl dX7_restore_19 ?_
    refine V_callS hO ml_X7_247 (C_X7_copy α (a1 := 70) (a2 := 56) ⟨by decide, by decide⟩ ⟨by decide, by decide⟩ σ) (rest := []) rfl rfl (Nat.le_of_ble_eq_true rfl) ⟨Nat.le_of_ble_eq_true rfl, Nat.le_of_ble_eq_true rfl⟩ dX7_restore_22 (kc_SV rfl fun q1 => ?_)
    refine V_aload_n hO 0 dX7_restore_25 rfl rfl ?_
    refine V_get hO (v := .ref (α (71))) fl_X7_55 (by decide) (fun _ _ => ce_55) rfl dX7_restore_26 ?_
    refine V_aload_n hO 0 dX7_restore_29 rfl rfl ?_
    refine V_get hO (v := .ref (α (57))) fl_X7_13 (by decide) (fun _ _ => ce_55) rfl dX7_restore_30 ?_
    refine V_callS hO ml_X7_247 (C_X7_copy α (a1 := 71) (a2 := 57) ⟨by decide, by decide⟩ ⟨by decide, by decide⟩ q1) (rest := []) rfl rfl (Nat.le_of_ble_eq_true rfl) ⟨Nat.le_of_ble_eq_true rfl, Nat.le_of_ble_eq_true rfl⟩ dX7_restore_33 (kc_SV rfl fun q2 => ?_)
    refine V_aload_n hO 0 dX7_restore_36 rfl rfl ?_
    refine V_get hO (v := .ref (α (72))) fl_X7_58 (by decide) (fun _ _ => ce_55) rfl dX7_restore_37 ?_
    refine V_aload_n hO 0 dX7_restore_40 rfl rfl ?_
    refine V_get hO (v := .ref (α (58))) fl_X7_16 (by decide) (fun _ _ => ce_55) rfl dX7_restore_41 ?_
    refine V_callS hO ml_X7_247 (C_X7_copy α (a1 := 72) (a2 := 58) ⟨by decide, by decide⟩ ⟨by decide, by decide⟩ q2) (rest := []) rfl rfl (Nat.le_of_ble_eq_true rfl) ⟨Nat.le_of_ble_eq_true rfl, Nat.le_of_ble_eq_true rfl⟩ dX7_restore_44 (kc_SV rfl fun q3 => ?_)
    refine V_aload_n hO 0 dX7_restore_47 rfl rfl ?_
    refine V_aload_n hO 0 dX7_restore_48 rfl rfl ?_
    refine V_get hO (v := .int (q3.1 55 25)) fl_X7_254 (by decide) (fun _ _ => ce_55) rfl dX7_restore_49 ?_
    refine V_puti hO fp_X7_79 (by decide) (fun _ _ => ce_55) (Nat.le_of_ble_eq_true rfl) (fun _ _ => pe_55_6) dX7_restore_52 (V_name fun h4 => ?_)
    refine V_aload_n hO 0 dX7_restore_55 rfl rfl ?_
    refine V_aload_n hO 0 dX7_restore_56 rfl rfl ?_
    refine V_get hO (v := .int (h4.1 55 26)) fl_X7_257 (by decide) (fun _ _ => ce_55) rfl dX7_restore_57 ?_
    refine V_puti hO fp_X7_88 (by decide) (fun _ _ => ce_55) (Nat.le_of_ble_eq_true rfl) (fun _ _ => pe_55_5) dX7_restore_60 (V_name fun h5 => ?_)
    refine V_aload_n hO 0 dX7_restore_63 rfl rfl ?_
    refine V_get hO (v := .int (h5.1 55 6)) fl_X7_79 (by decide) (fun _ _ => ce_55) rfl dX7_restore_64 ?_
    exact V_iret hO hR rfl dX7_restore_67
  · refine V_bipush hO (-103) dX7_restore_11 (by decide) ?_
    exact V_iret hO hR rfl dX7_restore_13
set_option maxHeartbeats 4000000 in
set_option maxRecDepth 100000 in
theorem C_X7_restore (α : Nat → Nat) (σ : Hp) : Ct yX7_restore cX7_restore 1 (some .int) 1 22 α [.ref (α (55))] σ (kSI (F_X7_restore σ)) := ct_of_V (own := RX7) rfl (by decide +kernel) (Nat.le_of_ble_eq_true rfl) fun _ hO hR => T_X7_restore hO hR σ
/-! X7_countOf -/
noncomputable def F_X7_countOf  (p1 : Int32) (σ : Hp) : Option Int32 :=
  if p1 = 0 then
  some (F_X7_squares σ)
  else if p1 = 1 then
  some (σ.1 55 6)
  else if p1 = 2 then
  (F_X7_thereMany σ).bind fun v5 =>
  some v5
  else if p1 = 3 then
  some (σ.1 55 5)
  else if p1 = 4 then
  some (σ.1 55 9)
  else if p1 = 5 then
  some (σ.1 55 14)
  else 
  some ((-102) : Int32)
set_option maxHeartbeats 4000000 in
set_option maxRecDepth 100000 in
theorem T_X7_countOf {G : Gm} {α : Nat → Nat} (hO : Ok G α cX7_countOf 2 RX7 1 22) (hR : Rt G α (some .int)) (p1 : Int32) (σ : Hp) : V G α 2 (kOI σ) 0 [(0, .ref (α (55))), (1, .int p1)] [] σ (F_X7_countOf p1 σ) := by
  rw [F_X7_countOf]
  refine V_iload_n hO 1 dX7_countOf_0 rfl rfl ?_
  refine V_case (fun c1 => ?_) (fun n2 => ?_)
  · refine V_tsIn hO (off := 39) 40 dX7_countOf_1 (by rw [c1]; decide) (by rw [c1]; decide) (by rw [c1]; first | done | rfl | decide) (by decide) ?_
    refine V_aload_n hO 0 dX7_countOf_40 rfl rfl ?_
    refine V_callV hO ml_X7_71 (C_X7_squares α σ) (by decide) (fun _ _ => ce_55) rfl rfl (rest := []) rfl rfl (Nat.le_of_ble_eq_true rfl) ⟨Nat.le_of_ble_eq_true rfl, Nat.le_of_ble_eq_true rfl⟩ dX7_countOf_41 (kc_I ?_)
    exact V_iret hO hR rfl dX7_countOf_44
  refine V_case (fun c3 => ?_) (fun n4 => ?_)
  · refine V_tsIn hO (off := 44) 45 dX7_countOf_1 (by rw [c3]; decide) (by rw [c3]; decide) (by rw [c3]; first | done | rfl | decide) (by decide) ?_
    refine V_aload_n hO 0 dX7_countOf_45 rfl rfl ?_
    refine V_get hO (v := .int (σ.1 55 6)) fl_X7_79 (by decide) (fun _ _ => ce_55) rfl dX7_countOf_46 ?_
    exact V_iret hO hR rfl dX7_countOf_49
  refine V_case (fun c6 => ?_) (fun n7 => ?_)
  · refine V_tsIn hO (off := 49) 50 dX7_countOf_1 (by rw [c6]; decide) (by rw [c6]; decide) (by rw [c6]; first | done | rfl | decide) (by decide) ?_
    refine V_aload_n hO 0 dX7_countOf_50 rfl rfl ?_
    refine V_callV hO ml_X7_173 (C_X7_thereMany α σ) (by decide) (fun _ _ => ce_55) rfl rfl (rest := []) rfl rfl (Nat.le_of_ble_eq_true rfl) ⟨Nat.le_of_ble_eq_true rfl, Nat.le_of_ble_eq_true rfl⟩ dX7_countOf_51 (kc_OI rfl fun v5 => ?_)
    exact V_iret hO hR rfl dX7_countOf_54
  refine V_case (fun c8 => ?_) (fun n9 => ?_)
  · refine V_tsIn hO (off := 54) 55 dX7_countOf_1 (by rw [c8]; decide) (by rw [c8]; decide) (by rw [c8]; first | done | rfl | decide) (by decide) ?_
    refine V_aload_n hO 0 dX7_countOf_55 rfl rfl ?_
    refine V_get hO (v := .int (σ.1 55 5)) fl_X7_88 (by decide) (fun _ _ => ce_55) rfl dX7_countOf_56 ?_
    exact V_iret hO hR rfl dX7_countOf_59
  refine V_case (fun c10 => ?_) (fun n11 => ?_)
  · refine V_tsIn hO (off := 59) 60 dX7_countOf_1 (by rw [c10]; decide) (by rw [c10]; decide) (by rw [c10]; first | done | rfl | decide) (by decide) ?_
    refine V_aload_n hO 0 dX7_countOf_60 rfl rfl ?_
    refine V_get hO (v := .int (σ.1 55 9)) fl_X7_137 (by decide) (fun _ _ => ce_55) rfl dX7_countOf_61 ?_
    exact V_iret hO hR rfl dX7_countOf_64
  refine V_case (fun c12 => ?_) (fun n13 => ?_)
  · refine V_tsIn hO (off := 64) 65 dX7_countOf_1 (by rw [c12]; decide) (by rw [c12]; decide) (by rw [c12]; first | done | rfl | decide) (by decide) ?_
    refine V_aload_n hO 0 dX7_countOf_65 rfl rfl ?_
    refine V_get hO (v := .int (σ.1 55 14)) fl_X7_199 (by decide) (fun _ _ => ce_55) rfl dX7_countOf_66 ?_
    exact V_iret hO hR rfl dX7_countOf_69
  refine V_tsOut hO 70 dX7_countOf_1 (by have h9 := ts_out 6 (p9_ts (lt_s (lt_s (lt_s (lt_s (lt_s (lt_s lt_0 n2) n4) n7) n9) n11) n13)) (by decide); omega) (by decide) ?_
  refine V_bipush hO (-102) dX7_countOf_70 (by decide) ?_
  exact V_iret hO hR rfl dX7_countOf_72
set_option maxHeartbeats 4000000 in
set_option maxRecDepth 100000 in
theorem C_X7_countOf (α : Nat → Nat) (p1 : Int32) (σ : Hp) : Ct yX7_countOf cX7_countOf 2 (some .int) 1 22 α [.ref (α (55)), .int p1] σ (kOI σ (F_X7_countOf p1 σ)) := ct_of_V (own := RX7) rfl (by decide +kernel) (Nat.le_of_ble_eq_true rfl) fun _ hO hR => T_X7_countOf hO hR p1 σ
/-! X7_count -/
noncomputable def F_X7_count  (p1 : Int32) (σ : Hp) : Option Int32 :=
  (F_X7_countOf p1 σ).bind fun v1 =>
  some v1
set_option maxHeartbeats 4000000 in
set_option maxRecDepth 100000 in
theorem T_X7_count {G : Gm} {α : Nat → Nat} (hO : Ok G α cX7_count 2 RX7 2 43) (hR : Rt G α (some .int)) (p1 : Int32) (σ : Hp) : V G α 2 (kOI σ) 0 [(0, .ref (α (55))), (1, .int p1)] [] σ (F_X7_count p1 σ) := by
  rw [F_X7_count]
  refine V_aload_n hO 0 dX7_count_0 rfl rfl ?_
  refine V_iload_n hO 1 dX7_count_1 rfl rfl ?_
  refine V_callV hO ml_X7_260 (C_X7_countOf α p1 σ) (by decide) (fun _ _ => ce_55) rfl rfl (rest := []) rfl rfl (Nat.le_of_ble_eq_true rfl) ⟨Nat.le_of_ble_eq_true rfl, Nat.le_of_ble_eq_true rfl⟩ dX7_count_2 (kc_OI rfl fun v1 => ?_)
  exact V_iret hO hR rfl dX7_count_5
set_option maxHeartbeats 4000000 in
set_option maxRecDepth 100000 in
theorem C_X7_count (α : Nat → Nat) (p1 : Int32) (σ : Hp) : Ct yX7_count cX7_count 2 (some .int) 2 43 α [.ref (α (55)), .int p1] σ (kOI σ (F_X7_count p1 σ)) := ct_of_V (own := RX7) rfl (by decide +kernel) (Nat.le_of_ble_eq_true rfl) fun _ hO hR => T_X7_count hO hR p1 σ
/-! X7_say -/
noncomputable def F_X7_say  (p1 : Int64) (σ : Hp) : Hp :=
  lt (upl σ (((31 : Int64) * σ.2) + p1)) fun h1 =>
  h1
set_option maxHeartbeats 4000000 in
set_option maxRecDepth 100000 in
theorem T_X7_say {G : Gm} {α : Nat → Nat} (hO : Ok G α cX7_say 3 RX7 0 0) (hR : Rt G α none) (p1 : Int64) (σ : Hp) : V G α 3 (kTV) 0 [(0, .ref (α (55))), (1, .long p1)] [] σ (F_X7_say p1 σ) := by
  rw [F_X7_say]
  refine V_aload_n hO 0 dX7_say_0 rfl rfl ?_
  refine V_ldc2 hO (v := 31) dX7_say_1 cn_X7_263 ?_
  refine V_aload_n hO 0 dX7_say_4 rfl rfl ?_
  refine V_get hO (v := .long σ.2) fl_X7_265 (by decide) (fun _ _ => ce_55) rfl dX7_say_5 ?_
  refine V_lmul hO dX7_say_8 ?_
  refine V_lload_n hO 1 dX7_say_9 rfl rfl ?_
  refine V_ladd hO dX7_say_10 ?_
  refine V_putl hO fp_X7_265 (fun _ _ => ce_55) (Nat.le_of_ble_eq_true rfl) (fun _ _ => pe_55_30) dX7_say_11 (V_name fun h1 => ?_)
  exact V_vret hO hR rfl dX7_say_14
set_option maxHeartbeats 4000000 in
set_option maxRecDepth 100000 in
theorem C_X7_say (α : Nat → Nat) (p1 : Int64) (σ : Hp) : Ct yX7_say cX7_say 3 none 0 0 α [.ref (α (55)), .long p1] σ (kTV (F_X7_say p1 σ)) := ct_of_V (own := RX7) rfl (by decide +kernel) (Nat.le_of_ble_eq_true rfl) fun _ hO hR => T_X7_say hO hR p1 σ
/-! X7_digest -/
noncomputable def F_X7_digest_19 (k9 : Int32 → Hp → (Option (Int64 × Hp))) : Nat → Int32 → Int32 → Hp → Option (Int64 × Hp)
  | 0, _, _, _ => none
  | n + 1, w1, w2, h =>
    if (4 : Int32) ≤ w2 then
    k9 (w1 + 1) h
    else
    (F_X7_tellSquare w1 w2 h).bind fun v1 =>
    lt (F_X7_say (Int32.toInt64 v1) h) fun q2 =>
    F_X7_digest_19 k9 n w1 (w2 + 1) q2
noncomputable def F_X7_digest_59 (k49 : Int32 → Hp → (Option (Int64 × Hp))) : Nat → Int32 → Int32 → Hp → Option (Int64 × Hp)
  | 0, _, _, _ => none
  | n + 1, w1, w2, h =>
    if (8 : Int32) ≤ w2 then
    k49 (w1 + 1) h
    else
    (F_X7_tellDebt w1 w2 h).bind fun v3 =>
    lt (F_X7_say (Int32.toInt64 v3) h) fun q4 =>
    F_X7_digest_59 k49 n w1 (w2 + 1) q4
noncomputable def F_X7_digest_195  : Nat → Int32 → Hp → Option (Int64 × Hp)
  | 0, _, _ => none
  | n + 1, w2, h =>
    if (6 : Int32) ≤ w2 then
    some (h.2, h)
    else
    (F_X7_countOf w2 h).bind fun v5 =>
    lt (F_X7_say (Int32.toInt64 v5) h) fun q6 =>
    F_X7_digest_195 n (w2 + 1) q6
noncomputable def F_X7_digest_168  : Nat → Int32 → Hp → Option (Int64 × Hp)
  | 0, _, _ => none
  | n + 1, w2, h =>
    if (h.1 55 9) ≤ w2 then
    F_X7_digest_195 fuel (0 : Int32) h
    else
    if inb w2 24 = true then
    lt (F_X7_say (Int32.toInt64 (h.1 59 (Int32.toNatClampNeg w2))) h) fun q8 =>
    F_X7_digest_168 n (w2 + 1) q8
    else none
noncomputable def F_X7_digest_90  : Nat → Int32 → Hp → Option (Int64 × Hp)
  | 0, _, _ => none
  | n + 1, w1, h =>
    if (6 : Int32) ≤ w1 then
    (F_X7_groupsOf h).bind fun q9 =>
    lt (F_X7_say (Int32.toInt64 ((6 : Int32) - q9.1)) q9.2) fun q10 =>
    lt (F_X7_say (Int32.toInt64 q9.1) q10) fun q11 =>
    (F_X7_tellSkate (0 : Int32) ((F_X7_squares q11) - (1 : Int32)) (0 : Int32) q11).bind fun q12 =>
    lt (F_X7_say (Int32.toInt64 q12.1) q12.2) fun q13 =>
    (F_X7_tellSkate (0 : Int32) ((F_X7_squares q13) - (1 : Int32)) (1 : Int32) q13).bind fun q14 =>
    lt (F_X7_say (Int32.toInt64 q14.1) q14.2) fun q15 =>
    F_X7_digest_168 fuel (0 : Int32) q15
    else
    (F_X7_restOf w1 h).bind fun v16 =>
    lt (F_X7_say (Int32.toInt64 v16) h) fun q17 =>
    F_X7_digest_90 n (w1 + 1) q17
noncomputable def F_X7_digest_49  : Nat → Int32 → Hp → Option (Int64 × Hp)
  | 0, _, _ => none
  | n + 1, w1, h =>
    if (h.1 55 6) ≤ w1 then
    F_X7_digest_90 fuel (0 : Int32) h
    else
    F_X7_digest_59 (F_X7_digest_49 n) fuel w1 (0 : Int32) h
noncomputable def F_X7_digest_9  : Nat → Int32 → Hp → Option (Int64 × Hp)
  | 0, _, _ => none
  | n + 1, w1, h =>
    if (F_X7_squares h) ≤ w1 then
    F_X7_digest_49 fuel (0 : Int32) h
    else
    F_X7_digest_19 (F_X7_digest_9 n) fuel w1 (0 : Int32) h
noncomputable def F_X7_digest  (σ : Hp) : Option (Int64 × Hp) :=
  lt (upl σ (617 : Int64)) fun h18 =>
  F_X7_digest_9 fuel (0 : Int32) h18
set_option maxHeartbeats 4000000 in
set_option maxRecDepth 100000 in
theorem T_X7_digest_19 {G : Gm} {α : Nat → Nat} (hO : Ok G α cX7_digest 3 RX7 4 100) (hR : Rt G α (some .long)) (k9 : Int32 → Hp → (Option (Int64 × Hp))) (hk9 : ∀ (w1 : Int32) (h : Hp), V G α 3 (kSJ) 9 [(0, .ref (α (55))), (1, .int w1)] [] h (k9 w1 h)) : ∀ (fuel : Nat) (w1 : Int32) (w2 : Int32) (h : Hp), V G α 3 (kSJ) 19 [(0, .ref (α (55))), (1, .int w1), (2, .int w2)] [] h (F_X7_digest_19 k9 fuel w1 w2 h) := by
  intro fuel
  induction fuel with
  | zero => intro w1 w2 h; exact V_none rfl
  | succ n ih =>
    intro w1 w2 h
    rw [F_X7_digest_19]
    refine V_iload_n hO 2 dX7_digest_19 rfl rfl ?_
    refine V_iconst hO 4 dX7_digest_20 (by decide) ?_
    refine V_icmp_ge hO 41 dX7_digest_21 (by decide) ?_ ?_
    · refine V_iinc hO (ls2 := [(1, .int (w1 + 1)), (0, .ref (α (55))), (2, .int w2)]) (z := 1) 1 dX7_digest_41 rfl (by decide) (by decide) rfl ?_
      refine V_goto hO 9 dX7_digest_44 (by decide) ?_
      exact V_sub [1, 0] rfl (hk9 (w1 + 1) h )
    · refine V_aload_n hO 0 dX7_digest_24 rfl rfl ?_
      refine V_aload_n hO 0 dX7_digest_25 rfl rfl ?_
      refine V_iload_n hO 1 dX7_digest_26 rfl rfl ?_
      refine V_iload_n hO 2 dX7_digest_27 rfl rfl ?_
      refine V_callV hO ml_X7_110 (C_X7_tellSquare α w1 w2 h) (by decide) (fun _ _ => ce_55) rfl rfl (rest := [.ref (α (55))]) rfl rfl (Nat.le_of_ble_eq_true rfl) ⟨Nat.le_of_ble_eq_true rfl, Nat.le_of_ble_eq_true rfl⟩ dX7_digest_28 (kc_OI rfl fun v1 => ?_)
      refine V_i2l hO dX7_digest_31 ?_
      refine V_callV hO ml_X7_271 (C_X7_say α (Int32.toInt64 v1) h) (by decide) (fun _ _ => ce_55) rfl rfl (rest := []) rfl rfl (Nat.le_of_ble_eq_true rfl) ⟨Nat.le_of_ble_eq_true rfl, Nat.le_of_ble_eq_true rfl⟩ dX7_digest_32 (kc_TV fun q2 => ?_)
      refine V_iinc hO (ls2 := [(2, .int (w2 + 1)), (0, .ref (α (55))), (1, .int w1)]) (z := 1) 2 dX7_digest_35 rfl (by decide) (by decide) rfl ?_
      refine V_goto hO 19 dX7_digest_38 (by decide) ?_
      exact V_sub [1, 2, 0] rfl (ih w1 (w2 + 1) q2 )
set_option maxHeartbeats 4000000 in
set_option maxRecDepth 100000 in
theorem T_X7_digest_59 {G : Gm} {α : Nat → Nat} (hO : Ok G α cX7_digest 3 RX7 4 100) (hR : Rt G α (some .long)) (k49 : Int32 → Hp → (Option (Int64 × Hp))) (hk49 : ∀ (w1 : Int32) (h : Hp), V G α 3 (kSJ) 49 [(0, .ref (α (55))), (1, .int w1)] [] h (k49 w1 h)) : ∀ (fuel : Nat) (w1 : Int32) (w2 : Int32) (h : Hp), V G α 3 (kSJ) 59 [(0, .ref (α (55))), (1, .int w1), (2, .int w2)] [] h (F_X7_digest_59 k49 fuel w1 w2 h) := by
  intro fuel
  induction fuel with
  | zero => intro w1 w2 h; exact V_none rfl
  | succ n ih =>
    intro w1 w2 h
    rw [F_X7_digest_59]
    refine V_iload_n hO 2 dX7_digest_59 rfl rfl ?_
    refine V_bipush hO 8 dX7_digest_60 (by decide) ?_
    refine V_icmp_ge hO 82 dX7_digest_62 (by decide) ?_ ?_
    · refine V_iinc hO (ls2 := [(1, .int (w1 + 1)), (0, .ref (α (55))), (2, .int w2)]) (z := 1) 1 dX7_digest_82 rfl (by decide) (by decide) rfl ?_
      refine V_goto hO 49 dX7_digest_85 (by decide) ?_
      exact V_sub [1, 0] rfl (hk49 (w1 + 1) h )
    · refine V_aload_n hO 0 dX7_digest_65 rfl rfl ?_
      refine V_aload_n hO 0 dX7_digest_66 rfl rfl ?_
      refine V_iload_n hO 1 dX7_digest_67 rfl rfl ?_
      refine V_iload_n hO 2 dX7_digest_68 rfl rfl ?_
      refine V_callV hO ml_X7_132 (C_X7_tellDebt α w1 w2 h) (by decide) (fun _ _ => ce_55) rfl rfl (rest := [.ref (α (55))]) rfl rfl (Nat.le_of_ble_eq_true rfl) ⟨Nat.le_of_ble_eq_true rfl, Nat.le_of_ble_eq_true rfl⟩ dX7_digest_69 (kc_OI rfl fun v3 => ?_)
      refine V_i2l hO dX7_digest_72 ?_
      refine V_callV hO ml_X7_271 (C_X7_say α (Int32.toInt64 v3) h) (by decide) (fun _ _ => ce_55) rfl rfl (rest := []) rfl rfl (Nat.le_of_ble_eq_true rfl) ⟨Nat.le_of_ble_eq_true rfl, Nat.le_of_ble_eq_true rfl⟩ dX7_digest_73 (kc_TV fun q4 => ?_)
      refine V_iinc hO (ls2 := [(2, .int (w2 + 1)), (0, .ref (α (55))), (1, .int w1)]) (z := 1) 2 dX7_digest_76 rfl (by decide) (by decide) rfl ?_
      refine V_goto hO 59 dX7_digest_79 (by decide) ?_
      exact V_sub [1, 2, 0] rfl (ih w1 (w2 + 1) q4 )
set_option maxHeartbeats 4000000 in
set_option maxRecDepth 100000 in
theorem T_X7_digest_195 {G : Gm} {α : Nat → Nat} (hO : Ok G α cX7_digest 3 RX7 4 100) (hR : Rt G α (some .long)) : ∀ (fuel : Nat) (w2 : Int32) (h : Hp), V G α 3 (kSJ) 195 [(0, .ref (α (55))), (2, .int w2)] [] h (F_X7_digest_195 fuel w2 h) := by
  intro fuel
  induction fuel with
  | zero => intro w2 h; exact V_none rfl
  | succ n ih =>
    intro w2 h
    rw [F_X7_digest_195]
    refine V_iload_n hO 1 dX7_digest_195 rfl rfl ?_
    refine V_bipush hO 6 dX7_digest_196 (by decide) ?_
    refine V_icmp_ge hO 217 dX7_digest_198 (by decide) ?_ ?_
    · refine V_aload_n hO 0 dX7_digest_217 rfl rfl ?_
      refine V_get hO (v := .long h.2) fl_X7_265 (by decide) (fun _ _ => ce_55) rfl dX7_digest_218 ?_
      exact V_lret hO hR rfl dX7_digest_221
    · refine V_aload_n hO 0 dX7_digest_201 rfl rfl ?_
      refine V_aload_n hO 0 dX7_digest_202 rfl rfl ?_
      refine V_iload_n hO 1 dX7_digest_203 rfl rfl ?_
      refine V_callV hO ml_X7_260 (C_X7_countOf α w2 h) (by decide) (fun _ _ => ce_55) rfl rfl (rest := [.ref (α (55))]) rfl rfl (Nat.le_of_ble_eq_true rfl) ⟨Nat.le_of_ble_eq_true rfl, Nat.le_of_ble_eq_true rfl⟩ dX7_digest_204 (kc_OI rfl fun v5 => ?_)
      refine V_i2l hO dX7_digest_207 ?_
      refine V_callV hO ml_X7_271 (C_X7_say α (Int32.toInt64 v5) h) (by decide) (fun _ _ => ce_55) rfl rfl (rest := []) rfl rfl (Nat.le_of_ble_eq_true rfl) ⟨Nat.le_of_ble_eq_true rfl, Nat.le_of_ble_eq_true rfl⟩ dX7_digest_208 (kc_TV fun q6 => ?_)
      refine V_iinc hO (ls2 := [(2, .int (w2 + 1)), (0, .ref (α (55)))]) (z := 1) 1 dX7_digest_211 rfl (by decide) (by decide) rfl ?_
      refine V_goto hO 195 dX7_digest_214 (by decide) ?_
      exact V_sub [1, 0] rfl (ih (w2 + 1) q6 )
set_option maxHeartbeats 4000000 in
set_option maxRecDepth 100000 in
theorem T_X7_digest_168 {G : Gm} {α : Nat → Nat} (hO : Ok G α cX7_digest 3 RX7 4 100) (hR : Rt G α (some .long)) : ∀ (fuel : Nat) (w2 : Int32) (h : Hp), V G α 3 (kSJ) 168 [(0, .ref (α (55))), (2, .int w2)] [] h (F_X7_digest_168 fuel w2 h) := by
  intro fuel
  induction fuel with
  | zero => intro w2 h; exact V_none rfl
  | succ n ih =>
    intro w2 h
    rw [F_X7_digest_168]
    refine V_iload_n hO 1 dX7_digest_168 rfl rfl ?_
    refine V_aload_n hO 0 dX7_digest_169 rfl rfl ?_
    refine V_get hO (v := .int (h.1 55 9)) fl_X7_137 (by decide) (fun _ _ => ce_55) rfl dX7_digest_170 ?_
    refine V_icmp_ge hO 193 dX7_digest_173 (by decide) ?_ ?_
    · refine V_iconst hO 0 dX7_digest_193 (by decide) ?_
      refine V_istore_n hO (ls2 := [(2, .int 0), (0, .ref (α (55)))]) dX7_digest_194 rfl (by decide) rfl ?_
      exact V_sub [1, 0] rfl (T_X7_digest_195 hO hR fuel (0 : Int32) h )
    · refine V_aload_n hO 0 dX7_digest_176 rfl rfl ?_
      refine V_aload_n hO 0 dX7_digest_177 rfl rfl ?_
      refine V_get hO (v := .ref (α (59))) fl_X7_19 (by decide) (fun _ _ => ce_55) rfl dX7_digest_178 ?_
      refine V_iload_n hO 1 dX7_digest_181 rfl rfl ?_
      refine V_chk rfl fun c7 => ?_
      refine V_iald hO (by decide) (fun _ _ => ce_59) (inb_in c7) dX7_digest_182 ?_
      refine V_i2l hO dX7_digest_183 ?_
      refine V_callV hO ml_X7_271 (C_X7_say α (Int32.toInt64 (h.1 59 (Int32.toNatClampNeg w2))) h) (by decide) (fun _ _ => ce_55) rfl rfl (rest := []) rfl rfl (Nat.le_of_ble_eq_true rfl) ⟨Nat.le_of_ble_eq_true rfl, Nat.le_of_ble_eq_true rfl⟩ dX7_digest_184 (kc_TV fun q8 => ?_)
      refine V_iinc hO (ls2 := [(2, .int (w2 + 1)), (0, .ref (α (55)))]) (z := 1) 1 dX7_digest_187 rfl (by decide) (by decide) rfl ?_
      refine V_goto hO 168 dX7_digest_190 (by decide) ?_
      exact V_sub [1, 0] rfl (ih (w2 + 1) q8 )
set_option maxHeartbeats 4000000 in
set_option maxRecDepth 100000 in
theorem T_X7_digest_90 {G : Gm} {α : Nat → Nat} (hO : Ok G α cX7_digest 3 RX7 4 100) (hR : Rt G α (some .long)) : ∀ (fuel : Nat) (w1 : Int32) (h : Hp), V G α 3 (kSJ) 90 [(0, .ref (α (55))), (1, .int w1)] [] h (F_X7_digest_90 fuel w1 h) := by
  intro fuel
  induction fuel with
  | zero => intro w1 h; exact V_none rfl
  | succ n ih =>
    intro w1 h
    rw [F_X7_digest_90]
    refine V_iload_n hO 1 dX7_digest_90 rfl rfl ?_
    refine V_bipush hO 6 dX7_digest_91 (by decide) ?_
    refine V_icmp_ge hO 112 dX7_digest_93 (by decide) ?_ ?_
    · refine V_aload_n hO 0 dX7_digest_112 rfl rfl ?_
      refine V_callV hO ml_X7_208 (C_X7_groupsOf α h) (by decide) (fun _ _ => ce_55) rfl rfl (rest := []) rfl rfl (Nat.le_of_ble_eq_true rfl) ⟨Nat.le_of_ble_eq_true rfl, Nat.le_of_ble_eq_true rfl⟩ dX7_digest_113 (kc_SI rfl fun q9 => ?_)
      refine V_istore_n hO (ls2 := [(1, .int q9.1), (0, .ref (α (55)))]) dX7_digest_116 rfl (by decide) rfl ?_
      refine V_aload_n hO 1 dX7_digest_117 rfl rfl ?_
      refine V_bipush hO 6 dX7_digest_118 (by decide) ?_
      refine V_iload_n hO 0 dX7_digest_120 rfl rfl ?_
      refine V_isub hO dX7_digest_121 ?_
      refine V_i2l hO dX7_digest_122 ?_
      refine V_callV hO ml_X7_271 (C_X7_say α (Int32.toInt64 ((6 : Int32) - q9.1)) q9.2) (by decide) (fun _ _ => ce_55) rfl rfl (rest := []) rfl rfl (Nat.le_of_ble_eq_true rfl) ⟨Nat.le_of_ble_eq_true rfl, Nat.le_of_ble_eq_true rfl⟩ dX7_digest_123 (kc_TV fun q10 => ?_)
      refine V_aload_n hO 1 dX7_digest_126 rfl rfl ?_
      refine V_iload_n hO 0 dX7_digest_127 rfl rfl ?_
      refine V_i2l hO dX7_digest_128 ?_
      refine V_callV hO ml_X7_271 (C_X7_say α (Int32.toInt64 q9.1) q10) (by decide) (fun _ _ => ce_55) rfl rfl (rest := []) rfl rfl (Nat.le_of_ble_eq_true rfl) ⟨Nat.le_of_ble_eq_true rfl, Nat.le_of_ble_eq_true rfl⟩ dX7_digest_129 (kc_TV fun q11 => ?_)
      refine V_aload_n hO 1 dX7_digest_132 rfl rfl ?_
      refine V_aload_n hO 1 dX7_digest_133 rfl rfl ?_
      refine V_iconst hO 0 dX7_digest_134 (by decide) ?_
      refine V_aload_n hO 1 dX7_digest_135 rfl rfl ?_
      refine V_callV hO ml_X7_71 (C_X7_squares α q11) (by decide) (fun _ _ => ce_55) rfl rfl (rest := [.int 0, .ref (α (55)), .ref (α (55))]) rfl rfl (Nat.le_of_ble_eq_true rfl) ⟨Nat.le_of_ble_eq_true rfl, Nat.le_of_ble_eq_true rfl⟩ dX7_digest_136 (kc_I ?_)
      refine V_iconst hO 1 dX7_digest_139 (by decide) ?_
      refine V_isub hO dX7_digest_140 ?_
      refine V_iconst hO 0 dX7_digest_141 (by decide) ?_
      refine V_callV hO ml_X7_218 (C_X7_tellSkate α (0 : Int32) ((F_X7_squares q11) - (1 : Int32)) (0 : Int32) q11) (by decide) (fun _ _ => ce_55) rfl rfl (rest := [.ref (α (55))]) rfl rfl (Nat.le_of_ble_eq_true rfl) ⟨Nat.le_of_ble_eq_true rfl, Nat.le_of_ble_eq_true rfl⟩ dX7_digest_142 (kc_SI rfl fun q12 => ?_)
      refine V_i2l hO dX7_digest_145 ?_
      refine V_callV hO ml_X7_271 (C_X7_say α (Int32.toInt64 q12.1) q12.2) (by decide) (fun _ _ => ce_55) rfl rfl (rest := []) rfl rfl (Nat.le_of_ble_eq_true rfl) ⟨Nat.le_of_ble_eq_true rfl, Nat.le_of_ble_eq_true rfl⟩ dX7_digest_146 (kc_TV fun q13 => ?_)
      refine V_aload_n hO 1 dX7_digest_149 rfl rfl ?_
      refine V_aload_n hO 1 dX7_digest_150 rfl rfl ?_
      refine V_iconst hO 0 dX7_digest_151 (by decide) ?_
      refine V_aload_n hO 1 dX7_digest_152 rfl rfl ?_
      refine V_callV hO ml_X7_71 (C_X7_squares α q13) (by decide) (fun _ _ => ce_55) rfl rfl (rest := [.int 0, .ref (α (55)), .ref (α (55))]) rfl rfl (Nat.le_of_ble_eq_true rfl) ⟨Nat.le_of_ble_eq_true rfl, Nat.le_of_ble_eq_true rfl⟩ dX7_digest_153 (kc_I ?_)
      refine V_iconst hO 1 dX7_digest_156 (by decide) ?_
      refine V_isub hO dX7_digest_157 ?_
      refine V_iconst hO 1 dX7_digest_158 (by decide) ?_
      refine V_callV hO ml_X7_218 (C_X7_tellSkate α (0 : Int32) ((F_X7_squares q13) - (1 : Int32)) (1 : Int32) q13) (by decide) (fun _ _ => ce_55) rfl rfl (rest := [.ref (α (55))]) rfl rfl (Nat.le_of_ble_eq_true rfl) ⟨Nat.le_of_ble_eq_true rfl, Nat.le_of_ble_eq_true rfl⟩ dX7_digest_159 (kc_SI rfl fun q14 => ?_)
      refine V_i2l hO dX7_digest_162 ?_
      refine V_callV hO ml_X7_271 (C_X7_say α (Int32.toInt64 q14.1) q14.2) (by decide) (fun _ _ => ce_55) rfl rfl (rest := []) rfl rfl (Nat.le_of_ble_eq_true rfl) ⟨Nat.le_of_ble_eq_true rfl, Nat.le_of_ble_eq_true rfl⟩ dX7_digest_163 (kc_TV fun q15 => ?_)
      refine V_iconst hO 0 dX7_digest_166 (by decide) ?_
      refine V_istore_n hO (ls2 := [(2, .int 0), (1, .int q9.1), (0, .ref (α (55)))]) dX7_digest_167 rfl (by decide) rfl ?_
      exact V_sub [2, 0] rfl (T_X7_digest_168 hO hR fuel (0 : Int32) q15 )
    · refine V_aload_n hO 0 dX7_digest_96 rfl rfl ?_
      refine V_aload_n hO 0 dX7_digest_97 rfl rfl ?_
      refine V_iload_n hO 1 dX7_digest_98 rfl rfl ?_
      refine V_callV hO ml_X7_188 (C_X7_restOf α w1 h) (by decide) (fun _ _ => ce_55) rfl rfl (rest := [.ref (α (55))]) rfl rfl (Nat.le_of_ble_eq_true rfl) ⟨Nat.le_of_ble_eq_true rfl, Nat.le_of_ble_eq_true rfl⟩ dX7_digest_99 (kc_OI rfl fun v16 => ?_)
      refine V_i2l hO dX7_digest_102 ?_
      refine V_callV hO ml_X7_271 (C_X7_say α (Int32.toInt64 v16) h) (by decide) (fun _ _ => ce_55) rfl rfl (rest := []) rfl rfl (Nat.le_of_ble_eq_true rfl) ⟨Nat.le_of_ble_eq_true rfl, Nat.le_of_ble_eq_true rfl⟩ dX7_digest_103 (kc_TV fun q17 => ?_)
      refine V_iinc hO (ls2 := [(1, .int (w1 + 1)), (0, .ref (α (55)))]) (z := 1) 1 dX7_digest_106 rfl (by decide) (by decide) rfl ?_
      refine V_goto hO 90 dX7_digest_109 (by decide) ?_
      exact V_sub [1, 0] rfl (ih (w1 + 1) q17 )
set_option maxHeartbeats 4000000 in
set_option maxRecDepth 100000 in
theorem T_X7_digest_49 {G : Gm} {α : Nat → Nat} (hO : Ok G α cX7_digest 3 RX7 4 100) (hR : Rt G α (some .long)) : ∀ (fuel : Nat) (w1 : Int32) (h : Hp), V G α 3 (kSJ) 49 [(0, .ref (α (55))), (1, .int w1)] [] h (F_X7_digest_49 fuel w1 h) := by
  intro fuel
  induction fuel with
  | zero => intro w1 h; exact V_none rfl
  | succ n ih =>
    intro w1 h
    rw [F_X7_digest_49]
    refine V_iload_n hO 1 dX7_digest_49 rfl rfl ?_
    refine V_aload_n hO 0 dX7_digest_50 rfl rfl ?_
    refine V_get hO (v := .int (h.1 55 6)) fl_X7_79 (by decide) (fun _ _ => ce_55) rfl dX7_digest_51 ?_
    refine V_icmp_ge hO 88 dX7_digest_54 (by decide) ?_ ?_
    · refine V_iconst hO 0 dX7_digest_88 (by decide) ?_
      refine V_istore_n hO (ls2 := [(1, .int 0), (0, .ref (α (55)))]) dX7_digest_89 rfl (by decide) rfl ?_
      exact V_sub [1, 0] rfl (T_X7_digest_90 hO hR fuel (0 : Int32) h )
    · refine V_iconst hO 0 dX7_digest_57 (by decide) ?_
      refine V_istore_n hO (ls2 := [(2, .int 0), (0, .ref (α (55))), (1, .int w1)]) dX7_digest_58 rfl (by decide) rfl ?_
      exact V_sub [1, 2, 0] rfl (T_X7_digest_59 hO hR (F_X7_digest_49 n) ih fuel w1 (0 : Int32) h )
set_option maxHeartbeats 4000000 in
set_option maxRecDepth 100000 in
theorem T_X7_digest_9 {G : Gm} {α : Nat → Nat} (hO : Ok G α cX7_digest 3 RX7 4 100) (hR : Rt G α (some .long)) : ∀ (fuel : Nat) (w1 : Int32) (h : Hp), V G α 3 (kSJ) 9 [(0, .ref (α (55))), (1, .int w1)] [] h (F_X7_digest_9 fuel w1 h) := by
  intro fuel
  induction fuel with
  | zero => intro w1 h; exact V_none rfl
  | succ n ih =>
    intro w1 h
    rw [F_X7_digest_9]
    refine V_iload_n hO 1 dX7_digest_9 rfl rfl ?_
    refine V_aload_n hO 0 dX7_digest_10 rfl rfl ?_
    refine V_callV hO ml_X7_71 (C_X7_squares α h) (by decide) (fun _ _ => ce_55) rfl rfl (rest := [.int w1]) rfl rfl (Nat.le_of_ble_eq_true rfl) ⟨Nat.le_of_ble_eq_true rfl, Nat.le_of_ble_eq_true rfl⟩ dX7_digest_11 (kc_I ?_)
    refine V_icmp_ge hO 47 dX7_digest_14 (by decide) ?_ ?_
    · refine V_iconst hO 0 dX7_digest_47 (by decide) ?_
      refine V_istore_n hO (ls2 := [(1, .int 0), (0, .ref (α (55)))]) dX7_digest_48 rfl (by decide) rfl ?_
      exact V_sub [1, 0] rfl (T_X7_digest_49 hO hR fuel (0 : Int32) h )
    · refine V_iconst hO 0 dX7_digest_17 (by decide) ?_
      refine V_istore_n hO (ls2 := [(2, .int 0), (0, .ref (α (55))), (1, .int w1)]) dX7_digest_18 rfl (by decide) rfl ?_
      exact V_sub [1, 2, 0] rfl (T_X7_digest_19 hO hR (F_X7_digest_9 n) ih fuel w1 (0 : Int32) h )
set_option maxHeartbeats 4000000 in
set_option maxRecDepth 100000 in
theorem T_X7_digest {G : Gm} {α : Nat → Nat} (hO : Ok G α cX7_digest 3 RX7 4 100) (hR : Rt G α (some .long)) (σ : Hp) : V G α 3 (kSJ) 0 [(0, .ref (α (55)))] [] σ (F_X7_digest σ) := by
  rw [F_X7_digest]
  refine V_aload_n hO 0 dX7_digest_0 rfl rfl ?_
  refine V_ldc2 hO (v := 617) dX7_digest_1 cn_X7_269 ?_
  refine V_putl hO fp_X7_265 (fun _ _ => ce_55) (Nat.le_of_ble_eq_true rfl) (fun _ _ => pe_55_30) dX7_digest_4 (V_name fun h18 => ?_)
  refine V_iconst hO 0 dX7_digest_7 (by decide) ?_
  refine V_istore_n hO (ls2 := [(1, .int 0), (0, .ref (α (55)))]) dX7_digest_8 rfl (by decide) rfl ?_
  exact V_sub [1, 0] rfl (T_X7_digest_9 hO hR fuel (0 : Int32) h18 )
set_option maxHeartbeats 4000000 in
set_option maxRecDepth 100000 in
theorem C_X7_digest (α : Nat → Nat) (σ : Hp) : Ct yX7_digest cX7_digest 3 (some .long) 4 100 α [.ref (α (55))] σ (kSJ (F_X7_digest σ)) := ct_of_V (own := RX7) rfl (by decide +kernel) (Nat.le_of_ble_eq_true rfl) fun _ hO hR => T_X7_digest hO hR σ
