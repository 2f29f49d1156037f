/-! X7_countOf -/
noncomputable def F_X7_countOf  (p1 : Int32) (σ : Hp) : Option Int32 :=
  if p1 = 0 then
  some (F_X7_squares σ)
  else if p1 = 1 then
  some (σ.1 55 6)
  else if p1 = 2 then
  (F_X7_thereMany σ).bind fun v5 =>
  some v5
  else if p1 = 3 then
  some (σ.1 55 5)
  else if p1 = 4 then
  some (σ.1 55 9)
  else if p1 = 5 then
  some (σ.1 55 14)
  else 
  some ((-102) : Int32)
set_option maxHeartbeats 4000000 in
set_option maxRecDepth 100000 in
theorem T_X7_countOf {G : Gm} {α : Nat → Nat} (hO : Ok G α cX7_countOf 2 RX7 1 22) (hR : Rt G α (some .int)) (p1 : Int32) (σ : Hp) : V G α 2 (kOI σ) 0 [(0, .ref (α (55))), (1, .int p1)] [] σ (F_X7_countOf p1 σ) := by
  rw [F_X7_countOf]
  refine V_iload_n hO 1 dX7_countOf_0 rfl rfl ?_
  refine V_case (fun c1 => ?_) (fun n2 => ?_)
  · refine V_tsIn hO (off := 39) 40 dX7_countOf_1 (by rw [c1]; decide) (by rw [c1]; decide) (by rw [c1]; first | done | rfl | decide) (by decide) ?_
    refine V_aload_n hO 0 dX7_countOf_40 rfl rfl ?_
    refine V_callV hO ml_X7_71 (C_X7_squares α σ) (by decide) (fun _ _ => ce_55) rfl rfl (rest := []) rfl rfl (Nat.le_of_ble_eq_true rfl) ⟨Nat.le_of_ble_eq_true rfl, Nat.le_of_ble_eq_true rfl⟩ dX7_countOf_41 (kc_I ?_)
    exact V_iret hO hR rfl dX7_countOf_44
  refine V_case (fun c3 => ?_) (fun n4 => ?_)
  · refine V_tsIn hO (off := 44) 45 dX7_countOf_1 (by rw [c3]; decide) (by rw [c3]; decide) (by rw [c3]; first | done | rfl | decide) (by decide) ?_
    refine V_aload_n hO 0 dX7_countOf_45 rfl rfl ?_
    refine V_get hO (v := .int (σ.1 55 6)) fl_X7_79 (by decide) (fun _ _ => ce_55) rfl dX7_countOf_46 ?_
    exact V_iret hO hR rfl dX7_countOf_49
  refine V_case (fun c6 => ?_) (fun n7 => ?_)
  · refine V_tsIn hO (off := 49) 50 dX7_countOf_1 (by rw [c6]; decide) (by rw [c6]; decide) (by rw [c6]; first | done | rfl | decide) (by decide) ?_
    refine V_aload_n hO 0 dX7_countOf_50 rfl rfl ?_
    refine V_callV hO ml_X7_173 (C_X7_thereMany α σ) (by decide) (fun _ _ => ce_55) rfl rfl (rest := []) rfl rfl (Nat.le_of_ble_eq_true rfl) ⟨Nat.le_of_ble_eq_true rfl, Nat.le_of_ble_eq_true rfl⟩ dX7_countOf_51 (kc_OI rfl fun v5 => ?_)
    exact V_iret hO hR rfl dX7_countOf_54
  refine V_case (fun c8 => ?_) (fun n9 => ?_)
  · refine V_tsIn hO (off := 54) 55 dX7_countOf_1 (by rw [c8]; decide) (by rw [c8]; decide) (by rw [c8]; first | done | rfl | decide) (by decide) ?_
    refine V_aload_n hO 0 dX7_countOf_55 rfl rfl ?_
    refine V_get hO (v := .int (σ.1 55 5)) fl_X7_88 (by decide) (fun _ _ => ce_55) rfl dX7_countOf_56 ?_
    exact V_iret hO hR rfl dX7_countOf_59
  refine V_case (fun c10 => ?_) (fun n11 => ?_)
  · refine V_tsIn hO (off := 59) 60 dX7_countOf_1 (by rw [c10]; decide) (by rw [c10]; decide) (by rw [c10]; first | done | rfl | decide) (by decide) ?_
    refine V_aload_n hO 0 dX7_countOf_60 rfl rfl ?_
    refine V_get hO (v := .int (σ.1 55 9)) fl_X7_137 (by decide) (fun _ _ => ce_55) rfl dX7_countOf_61 ?_
    exact V_iret hO hR rfl dX7_countOf_64
  refine V_case (fun c12 => ?_) (fun n13 => ?_)
  · refine V_tsIn hO (off := 64) 65 dX7_countOf_1 (by rw [c12]; decide) (by rw [c12]; decide) (by rw [c12]; first | done | rfl | decide) (by decide) ?_
    refine V_aload_n hO 0 dX7_countOf_65 rfl rfl ?_
    refine V_get hO (v := .int (σ.1 55 14)) fl_X7_199 (by decide) (fun _ _ => ce_55) rfl dX7_countOf_66 ?_
    exact V_iret hO hR rfl dX7_countOf_69
  refine V_tsOut hO 70 dX7_countOf_1 (by have h9 := ts_out 6 (p9_ts (lt_s (lt_s (lt_s (lt_s (lt_s (lt_s lt_0 n2) n4) n7) n9) n11) n13)) (by decide); omega) (by decide) ?_
  refine V_bipush hO (-102) dX7_countOf_70 (by decide) ?_
  exact V_iret hO hR rfl dX7_countOf_72
set_option maxHeartbeats 4000000 in
set_option maxRecDepth 100000 in
theorem C_X7_countOf (α : Nat → Nat) (p1 : Int32) (σ : Hp) : Ct yX7_countOf cX7_countOf 2 (some .int) 1 22 α [.ref (α (55)), .int p1] σ (kOI σ (F_X7_countOf p1 σ)) := ct_of_V (own := RX7) rfl (by decide +kernel) (Nat.le_of_ble_eq_true rfl) fun _ hO hR => T_X7_countOf hO hR p1 σ
/-! X7_count -/
noncomputable def F_X7_count  (p1 : Int32) (σ : Hp) : Option Int32 :=
  (F_X7_countOf p1 σ).bind fun v1 =>
  some v1
set_option maxHeartbeats 4000000 in
set_option maxRecDepth 100000 in
theorem T_X7_count {G : Gm} {α : Nat → Nat} (hO : Ok G α cX7_count 2 RX7 2 43) (hR : Rt G α (some .int)) (p1 : Int32) (σ : Hp) : V G α 2 (kOI σ) 0 [(0, .ref (α (55))), (1, .int p1)] [] σ (F_X7_count p1 σ) := by
  rw [F_X7_count]
  refine V_aload_n hO 0 dX7_count_0 rfl rfl ?_
  refine V_iload_n hO 1 dX7_count_1 rfl rfl ?_
  refine V_callV hO ml_X7_260 (C_X7_countOf α p1 σ) (by decide) (fun _ _ => ce_55) rfl rfl (rest := []) rfl rfl (Nat.le_of_ble_eq_true rfl) ⟨Nat.le_of_ble_eq_true rfl, Nat.le_of_ble_eq_true rfl⟩ dX7_count_2 (kc_OI rfl fun v1 => ?_)
  exact V_iret hO hR rfl dX7_count_5
set_option maxHeartbeats 4000000 in
set_option maxRecDepth 100000 in
theorem C_X7_count (α : Nat → Nat) (p1 : Int32) (σ : Hp) : Ct yX7_count cX7_count 2 (some .int) 2 43 α [.ref (α (55)), .int p1] σ (kOI σ (F_X7_count p1 σ)) := ct_of_V (own := RX7) rfl (by decide +kernel) (Nat.le_of_ble_eq_true rfl) fun _ hO hR => T_X7_count hO hR p1 σ
/-! X7_say -/
noncomputable def F_X7_say  (p1 : Int64) (σ : Hp) : Hp :=
  lt (upl σ (((31 : Int64) * σ.2) + p1)) fun h1 =>
  h1
set_option maxHeartbeats 4000000 in
set_option maxRecDepth 100000 in
theorem T_X7_say {G : Gm} {α : Nat → Nat} (hO : Ok G α cX7_say 3 RX7 0 0) (hR : Rt G α none) (p1 : Int64) (σ : Hp) : V G α 3 (kTV) 0 [(0, .ref (α (55))), (1, .long p1)] [] σ (F_X7_say p1 σ) := by
  rw [F_X7_say]
  refine V_aload_n hO 0 dX7_say_0 rfl rfl ?_
  refine V_ldc2 hO (v := 31) dX7_say_1 cn_X7_263 ?_
  refine V_aload_n hO 0 dX7_say_4 rfl rfl ?_
  refine V_get hO (v := .long σ.2) fl_X7_265 (by decide) (fun _ _ => ce_55) rfl dX7_say_5 ?_
  refine V_lmul hO dX7_say_8 ?_
  refine V_lload_n hO 1 dX7_say_9 rfl rfl ?_
  refine V_ladd hO dX7_say_10 ?_
  refine V_putl hO fp_X7_265 (fun _ _ => ce_55) (Nat.le_of_ble_eq_true rfl) (fun _ _ => pe_55_30) dX7_say_11 (V_name fun h1 => ?_)
  exact V_vret hO hR rfl dX7_say_14
set_option maxHeartbeats 4000000 in
set_option maxRecDepth 100000 in
theorem C_X7_say (α : Nat → Nat) (p1 : Int64) (σ : Hp) : Ct yX7_say cX7_say 3 none 0 0 α [.ref (α (55)), .long p1] σ (kTV (F_X7_say p1 σ)) := ct_of_V (own := RX7) rfl (by decide +kernel) (Nat.le_of_ble_eq_true rfl) fun _ hO hR => T_X7_say hO hR p1 σ
/-! X7_digest -/
noncomputable def F_X7_digest_19 (k9 : Int32 → Hp → (Option (Int64 × Hp))) : Nat → Int32 → Int32 → Hp → Option (Int64 × Hp)
  | 0, _, _, _ => none
  | n + 1, w1, w2, h =>
    if (4 : Int32) ≤ w2 then
    k9 (w1 + 1) h
    else
    (F_X7_tellSquare w1 w2 h).bind fun v1 =>
    lt (F_X7_say (Int32.toInt64 v1) h) fun q2 =>
    F_X7_digest_19 k9 n w1 (w2 + 1) q2
noncomputable def F_X7_digest_59 (k49 : Int32 → Hp → (Option (Int64 × Hp))) : Nat → Int32 → Int32 → Hp → Option (Int64 × Hp)
  | 0, _, _, _ => none
  | n + 1, w1, w2, h =>
    if (8 : Int32) ≤ w2 then
    k49 (w1 + 1) h
    else
    (F_X7_tellDebt w1 w2 h).bind fun v3 =>
    lt (F_X7_say (Int32.toInt64 v3) h) fun q4 =>
    F_X7_digest_59 k49 n w1 (w2 + 1) q4
noncomputable def F_X7_digest_195  : Nat → Int32 → Hp → Option (Int64 × Hp)
  | 0, _, _ => none
  | n + 1, w2, h =>
    if (6 : Int32) ≤ w2 then
    some (h.2, h)
    else
    (F_X7_countOf w2 h).bind fun v5 =>
    lt (F_X7_say (Int32.toInt64 v5) h) fun q6 =>
    F_X7_digest_195 n (w2 + 1) q6
noncomputable def F_X7_digest_168  : Nat → Int32 → Hp → Option (Int64 × Hp)
  | 0, _, _ => none
  | n + 1, w2, h =>
    if (h.1 55 9) ≤ w2 then
    F_X7_digest_195 fuel (0 : Int32) h
    else
    if inb w2 24 = true then
    lt (F_X7_say (Int32.toInt64 (h.1 59 (Int32.toNatClampNeg w2))) h) fun q8 =>
    F_X7_digest_168 n (w2 + 1) q8
    else none
noncomputable def F_X7_digest_90  : Nat → Int32 → Hp → Option (Int64 × Hp)
  | 0, _, _ => none
  | n + 1, w1, h =>
    if (6 : Int32) ≤ w1 then
    (F_X7_groupsOf h).bind fun q9 =>
    lt (F_X7_say (Int32.toInt64 ((6 : Int32) - q9.1)) q9.2) fun q10 =>
    lt (F_X7_say (Int32.toInt64 q9.1) q10) fun q11 =>
    (F_X7_tellSkate (0 : Int32) ((F_X7_squares q11) - (1 : Int32)) (0 : Int32) q11).bind fun q12 =>
    lt (F_X7_say (Int32.toInt64 q12.1) q12.2) fun q13 =>
    (F_X7_tellSkate (0 : Int32) ((F_X7_squares q13) - (1 : Int32)) (1 : Int32) q13).bind fun q14 =>
    lt (F_X7_say (Int32.toInt64 q14.1) q14.2) fun q15 =>
    F_X7_digest_168 fuel (0 : Int32) q15
    else
    (F_X7_restOf w1 h).bind fun v16 =>
    lt (F_X7_say (Int32.toInt64 v16) h) fun q17 =>
    F_X7_digest_90 n (w1 + 1) q17
noncomputable def F_X7_digest_49  : Nat → Int32 → Hp → Option (Int64 × Hp)
  | 0, _, _ => none
  | n + 1, w1, h =>
    if (h.1 55 6) ≤ w1 then
    F_X7_digest_90 fuel (0 : Int32) h
    else
    F_X7_digest_59 (F_X7_digest_49 n) fuel w1 (0 : Int32) h
noncomputable def F_X7_digest_9  : Nat → Int32 → Hp → Option (Int64 × Hp)
  | 0, _, _ => none
  | n + 1, w1, h =>
    if (F_X7_squares h) ≤ w1 then
    F_X7_digest_49 fuel (0 : Int32) h
    else
    F_X7_digest_19 (F_X7_digest_9 n) fuel w1 (0 : Int32) h
noncomputable def F_X7_digest  (σ : Hp) : Option (Int64 × Hp) :=
  lt (upl σ (617 : Int64)) fun h18 =>
  F_X7_digest_9 fuel (0 : Int32) h18
set_option maxHeartbeats 4000000 in
set_option maxRecDepth 100000 in
theorem T_X7_digest_19 {G : Gm} {α : Nat → Nat} (hO : Ok G α cX7_digest 3 RX7 4 100) (hR : Rt G α (some .long)) (k9 : Int32 → Hp → (Option (Int64 × Hp))) (hk9 : ∀ (w1 : Int32) (h : Hp), V G α 3 (kSJ) 9 [(0, .ref (α (55))), (1, .int w1)] [] h (k9 w1 h)) : ∀ (fuel : Nat) (w1 : Int32) (w2 : Int32) (h : Hp), V G α 3 (kSJ) 19 [(0, .ref (α (55))), (1, .int w1), (2, .int w2)] [] h (F_X7_digest_19 k9 fuel w1 w2 h) := by
  intro fuel
  induction fuel with
  | zero => intro w1 w2 h; exact V_none rfl
  | succ n ih =>
    intro w1 w2 h
    rw [F_X7_digest_19]
    refine V_iload_n hO 2 dX7_digest_19 rfl rfl ?_
    refine V_iconst hO 4 dX7_digest_20 (by decide) ?_
    refine V_icmp_ge hO 41 dX7_digest_21 (by decide) ?_ ?_
    · refine V_iinc hO (ls2 := [(1, .int (w1 + 1)), (0, .ref (α (55))), (2, .int w2)]) (z := 1) 1 dX7_digest_41 rfl (by decide) (by decide) rfl ?_
      refine V_goto hO 9 dX7_digest_44 (by decide) ?_
      exact V_sub [1, 0] rfl (hk9 (w1 + 1) h )
    · refine V_aload_n hO 0 dX7_digest_24 rfl rfl ?_
      refine V_aload_n hO 0 dX7_digest_25 rfl rfl ?_
      refine V_iload_n hO 1 dX7_digest_26 rfl rfl ?_
      refine V_iload_n hO 2 dX7_digest_27 rfl rfl ?_
      refine V_callV hO ml_X7_110 (C_X7_tellSquare α w1 w2 h) (by decide) (fun _ _ => ce_55) rfl rfl (rest := [.ref (α (55))]) rfl rfl (Nat.le_of_ble_eq_true rfl) ⟨Nat.le_of_ble_eq_true rfl, Nat.le_of_ble_eq_true rfl⟩ dX7_digest_28 (kc_OI rfl fun v1 => ?_)
      refine V_i2l hO dX7_digest_31 ?_
      refine V_callV hO ml_X7_271 (C_X7_say α (Int32.toInt64 v1) h) (by decide) (fun _ _ => ce_55) rfl rfl (rest := []) rfl rfl (Nat.le_of_ble_eq_true rfl) ⟨Nat.le_of_ble_eq_true rfl, Nat.le_of_ble_eq_true rfl⟩ dX7_digest_32 (kc_TV fun q2 => ?_)
      refine V_iinc hO (ls2 := [(2, .int (w2 + 1)), (0, .ref (α (55))), (1, .int w1)]) (z := 1) 2 dX7_digest_35 rfl (by decide) (by decide) rfl ?_
      refine V_goto hO 19 dX7_digest_38 (by decide) ?_
      exact V_sub [1, 2, 0] rfl (ih w1 (w2 + 1) q2 )
set_option maxHeartbeats 4000000 in
set_option maxRecDepth 100000 in
theorem T_X7_digest_59 {G : Gm} {α : Nat → Nat} (hO : Ok G α cX7_digest 3 RX7 4 100) (hR : Rt G α (some .long)) (k49 : Int32 → Hp → (Option (Int64 × Hp))) (hk49 : ∀ (w1 : Int32) (h : Hp), V G α 3 (kSJ) 49 [(0, .ref (α (55))), (1, .int w1)] [] h (k49 w1 h)) : ∀ (fuel : Nat) (w1 : Int32) (w2 : Int32) (h : Hp), V G α 3 (kSJ) 59 [(0, .ref (α (55))), (1, .int w1), (2, .int w2)] [] h (F_X7_digest_59 k49 fuel w1 w2 h) := by
  intro fuel
  induction fuel with
  | zero => intro w1 w2 h; exact V_none rfl
  | succ n ih =>
    intro w1 w2 h
    rw [F_X7_digest_59]
    refine V_iload_n hO 2 dX7_digest_59 rfl rfl ?_
    refine V_bipush hO 8 dX7_digest_60 (by decide) ?_
    refine V_icmp_ge hO 82 dX7_digest_62 (by decide) ?_ ?_
    · refine V_iinc hO (ls2 := [(1, .int (w1 + 1)), (0, .ref (α (55))), (2, .int w2)]) (z := 1) 1 dX7_digest_82 rfl (by decide) (by decide) rfl ?_
      refine V_goto hO 49 dX7_digest_85 (by decide) ?_
      exact V_sub [1, 0] rfl (hk49 (w1 + 1) h )
    · refine V_aload_n hO 0 dX7_digest_65 rfl rfl ?_
      refine V_aload_n hO 0 dX7_digest_66 rfl rfl ?_
      refine V_iload_n hO 1 dX7_digest_67 rfl rfl ?_
      refine V_iload_n hO 2 dX7_digest_68 rfl rfl ?_
      refine V_callV hO ml_X7_132 (C_X7_tellDebt α w1 w2 h) (by decide) (fun _ _ => ce_55) rfl rfl (rest := [.ref (α (55))]) rfl rfl (Nat.le_of_ble_eq_true rfl) ⟨Nat.le_of_ble_eq_true rfl, Nat.le_of_ble_eq_true rfl⟩ dX7_digest_69 (kc_OI rfl fun v3 => ?_)
      refine V_i2l hO dX7_digest_72 ?_
      refine V_callV hO ml_X7_271 (C_X7_say α (Int32.toInt64 v3) h) (by decide) (fun _ _ => ce_55) rfl rfl (rest := []) rfl rfl (Nat.le_of_ble_eq_true rfl) ⟨Nat.le_of_ble_eq_true rfl, Nat.le_of_ble_eq_true rfl⟩ dX7_digest_73 (kc_TV fun q4 => ?_)
      refine V_iinc hO (ls2 := [(2, .int (w2 + 1)), (0, .ref (α (55))), (1, .int w1)]) (z := 1) 2 dX7_digest_76 rfl (by decide) (by decide) rfl ?_
      refine V_goto hO 59 dX7_digest_79 (by decide) ?_
      exact V_sub [1, 2, 0] rfl (ih w1 (w2 + 1) q4 )
set_option maxHeartbeats 4000000 in
set_option maxRecDepth 100000 in
theorem T_X7_digest_195 {G : Gm} {α : Nat → Nat} (hO : Ok G α cX7_digest 3 RX7 4 100) (hR : Rt G α (some .long)) : ∀ (fuel : Nat) (w2 : Int32) (h : Hp), V G α 3 (kSJ) 195 [(0, .ref (α (55))), (2, .int w2)] [] h (F_X7_digest_195 fuel w2 h) := by
  intro fuel
  induction fuel with
  | zero => intro w2 h; exact V_none rfl
  | succ n ih =>
    intro w2 h
    rw [F_X7_digest_195]
    refine V_iload_n hO 1 dX7_digest_195 rfl rfl ?_
    refine V_bipush hO 6 dX7_digest_196 (by decide) ?_
    refine V_icmp_ge hO 217 dX7_digest_198 (by decide) ?_ ?_
    · refine V_aload_n hO 0 dX7_digest_217 rfl rfl ?_
      refine V_get hO (v := .long h.2) fl_X7_265 (by decide) (fun _ _ => ce_55) rfl dX7_digest_218 ?_
      exact V_lret hO hR rfl dX7_digest_221
    · refine V_aload_n hO 0 dX7_digest_201 rfl rfl ?_
      refine V_aload_n hO 0 dX7_digest_202 rfl rfl ?_
      refine V_iload_n hO 1 dX7_digest_203 rfl rfl ?_
      refine V_callV hO ml_X7_260 (C_X7_countOf α w2 h) (by decide) (fun _ _ => ce_55) rfl rfl (rest := [.ref (α (55))]) rfl rfl (Nat.le_of_ble_eq_true rfl) ⟨Nat.le_of_ble_eq_true rfl, Nat.le_of_ble_eq_true rfl⟩ dX7_digest_204 (kc_OI rfl fun v5 => ?_)
      refine V_i2l hO dX7_digest_207 ?_
      refine V_callV hO ml_X7_271 (C_X7_say α (Int32.toInt64 v5) h) (by decide) (fun _ _ => ce_55) rfl rfl (rest := []) rfl rfl (Nat.le_of_ble_eq_true rfl) ⟨Nat.le_of_ble_eq_true rfl, Nat.le_of_ble_eq_true rfl⟩ dX7_digest_208 (kc_TV fun q6 => ?_)
      refine V_iinc hO (ls2 := [(2, .int (w2 + 1)), (0, .ref (α (55)))]) (z := 1) 1 dX7_digest_211 rfl (by decide) (by decide) rfl ?_
      refine V_goto hO 195 dX7_digest_214 (by decide) ?_
      exact V_sub [1, 0] rfl (ih (w2 + 1) q6 )
set_option maxHeartbeats 4000000 in
set_option maxRecDepth 100000 in
theorem T_X7_digest_168 {G : Gm} {α : Nat → Nat} (hO : Ok G α cX7_digest 3 RX7 4 100) (hR : Rt G α (some .long)) : ∀ (fuel : Nat) (w2 : Int32) (h : Hp), V G α 3 (kSJ) 168 [(0, .ref (α (55))), (2, .int w2)] [] h (F_X7_digest_168 fuel w2 h) := by
  intro fuel
  induction fuel with
  | zero => intro w2 h; exact V_none rfl
  | succ n ih =>
    intro w2 h
    rw [F_X7_digest_168]
    refine V_iload_n hO 1 dX7_digest_168 rfl rfl ?_
    refine V_aload_n hO 0 dX7_digest_169 rfl rfl ?_
    refine V_get hO (v := .int (h.1 55 9)) fl_X7_137 (by decide) (fun _ _ => ce_55) rfl dX7_digest_170 ?_
    refine V_icmp_ge hO 193 dX7_digest_173 (by decide) ?_ ?_
    · refine V_iconst hO 0 dX7_digest_193 (by decide) ?_
      refine V_istore_n hO (ls2 := [(2, .int 0), (0, .ref (α (55)))]) dX7_digest_194 rfl (by decide) rfl ?_
      exact V_sub [1, 0] rfl (T_X7_digest_195 hO hR fuel (0 : Int32) h )
    · refine V_aload_n hO 0 dX7_digest_176 rfl rfl ?_
      refine V_aload_n hO 0 dX7_digest_177 rfl rfl ?_
      refine V_get hO (v := .ref (α (59))) fl_X7_19 (by decide) (fun _ _ => ce_55) rfl dX7_digest_178 ?_
      refine V_iload_n hO 1 dX7_digest_181 rfl rfl ?_
      refine V_chk rfl fun c7 => ?_
      refine V_iald hO (by decide) (fun _ _ => ce_59) (inb_in c7) dX7_digest_182 ?_
      refine V_i2l hO dX7_digest_183 ?_
      refine V_callV hO ml_X7_271 (C_X7_say α (Int32.toInt64 (h.1 59 (Int32.toNatClampNeg w2))) h) (by decide) (fun _ _ => ce_55) rfl rfl (rest := []) rfl rfl (Nat.le_of_ble_eq_true rfl) ⟨Nat.le_of_ble_eq_true rfl, Nat.le_of_ble_eq_true rfl⟩ dX7_digest_184 (kc_TV fun q8 => ?_)
      refine V_iinc hO (ls2 := [(2, .int (w2 + 1)), (0, .ref (α (55)))]) (z := 1) 1 dX7_digest_187 rfl (by decide) (by decide) rfl ?_
      refine V_goto hO 168 dX7_digest_190 (by decide) ?_
      exact V_sub [1, 0] rfl (ih (w2 + 1) q8 )
set_option maxHeartbeats 4000000 in
set_option maxRecDepth 100000 in
theorem T_X7_digest_90 {G : Gm} {α : Nat → Nat} (hO : Ok G α cX7_digest 3 RX7 4 100) (hR : Rt G α (some .long)) : ∀ (fuel : Nat) (w1 : Int32) (h : Hp), V G α 3 (kSJ) 90 [(0, .ref (α (55))), (1, .int w1)] [] h (F_X7_digest_90 fuel w1 h) := by
  intro fuel
  induction fuel with
  | zero => intro w1 h; exact V_none rfl
  | succ n ih =>
    intro w1 h
    rw [F_X7_digest_90]
    refine V_iload_n hO 1 dX7_digest_90 rfl rfl ?_
    refine V_bipush hO 6 dX7_digest_91 (by decide) ?_
    refine V_icmp_ge hO 112 dX7_digest_93 (by decide) ?_ ?_
    · refine V_aload_n hO 0 dX7_digest_112 rfl rfl ?_
      refine V_callV hO ml_X7_208 (C_X7_groupsOf α h) (by decide) (fun _ _ => ce_55) rfl rfl (rest := []) rfl rfl (Nat.le_of_ble_eq_true rfl) ⟨Nat.le_of_ble_eq_true rfl, Nat.le_of_ble_eq_true rfl⟩ dX7_digest_113 (kc_SI rfl fun q9 => ?_)
      refine V_istore_n hO (ls2 := [(1, .int q9.1), (0, .ref (α (55)))]) dX7_digest_116 rfl (by decide) rfl ?_
      refine V_aload_n hO 1 dX7_digest_117 rfl rfl ?_
      refine V_bipush hO 6 dX7_digest_118 (by decide) ?_
      refine V_iload_n hO 0 dX7_digest_120 rfl rfl ?_
      refine V_isub hO dX7_digest_121 ?_
      refine V_i2l hO dX7_digest_122 ?_
      refine V_callV hO ml_X7_271 (C_X7_say α (Int32.toInt64 ((6 : Int32) - q9.1)) q9.2) (by decide) (fun _ _ => ce_55) rfl rfl (rest := []) rfl rfl (Nat.le_of_ble_eq_true rfl) ⟨Nat.le_of_ble_eq_true rfl, Nat.le_of_ble_eq_true rfl⟩ dX7_digest_123 (kc_TV fun q10 => ?_)
      refine V_aload_n hO 1 dX7_digest_126 rfl rfl ?_
      refine V_iload_n hO 0 dX7_digest_127 rfl rfl ?_
      refine V_i2l hO dX7_digest_128 ?_
      refine V_callV hO ml_X7_271 (C_X7_say α (Int32.toInt64 q9.1) q10) (by decide) (fun _ _ => ce_55) rfl rfl (rest := []) rfl rfl (Nat.le_of_ble_eq_true rfl) ⟨Nat.le_of_ble_eq_true rfl, Nat.le_of_ble_eq_true rfl⟩ dX7_digest_129 (kc_TV fun q11 => ?_)
      refine V_aload_n hO 1 dX7_digest_132 rfl rfl ?_
      refine V_aload_n hO 1 dX7_digest_133 rfl rfl ?_
      refine V_iconst hO 0 dX7_digest_134 (by decide) ?_
      refine V_aload_n hO 1 dX7_digest_135 rfl rfl ?_
      refine V_callV hO ml_X7_71 (C_X7_squares α q11) (by decide) (fun _ _ => ce_55) rfl rfl (rest := [.int 0, .ref (α (55)), .ref (α (55))]) rfl rfl (Nat.le_of_ble_eq_true rfl) ⟨Nat.le_of_ble_eq_true rfl, Nat.le_of_ble_eq_true rfl⟩ dX7_digest_136 (kc_I ?_)
      refine V_iconst hO 1 dX7_digest_139 (by decide) ?_
      refine V_isub hO dX7_digest_140 ?_
      refine V_iconst hO 0 dX7_digest_141 (by decide) ?_
      refine V_callV hO ml_X7_218 (C_X7_tellSkate α (0 : Int32) ((F_X7_squares q11) - (1 : Int32)) (0 : Int32) q11) (by decide) (fun _ _ => ce_55) rfl rfl (rest := [.ref (α (55))]) rfl rfl (Nat.le_of_ble_eq_true rfl) ⟨Nat.le_of_ble_eq_true rfl, Nat.le_of_ble_eq_true rfl⟩ dX7_digest_142 (kc_SI rfl fun q12 => ?_)
      refine V_i2l hO dX7_digest_145 ?_
      refine V_callV hO ml_X7_271 (C_X7_say α (Int32.toInt64 q12.1) q12.2) (by decide) (fun _ _ => ce_55) rfl rfl (rest := []) rfl rfl (Nat.le_of_ble_eq_true rfl) ⟨Nat.le_of_ble_eq_true rfl, Nat.le_of_ble_eq_true rfl⟩ dX7_digest_146 (kc_TV fun q13 => ?_)
      refine V_aload_n hO 1 dX7_digest_149 rfl rfl ?_
      refine V_aload_n hO 1 dX7_digest_150 rfl rfl ?_
      refine V_iconst hO 0 dX7_digest_151 (by decide) ?_
      refine V_aload_n hO 1 dX7_digest_152 rfl rfl ?_
      refine V_callV hO ml_X7_71 (C_X7_squares α q13) (by decide) (fun _ _ => ce_55) rfl rfl (rest := [.int 0, .ref (α (55)), .ref (α (55))]) rfl rfl (Nat.le_of_ble_eq_true rfl) ⟨Nat.le_of_ble_eq_true rfl, Nat.le_of_ble_eq_true rfl⟩ dX7_digest_153 (kc_I ?_)
      refine V_iconst hO 1 dX7_digest_156 (by decide) ?_
      refine V_isub hO dX7_digest_157 ?_
      refine V_iconst hO 1 dX7_digest_158 (by decide) ?_
      refine V_callV hO ml_X7_218 (C_X7_tellSkate α (0 : Int32) ((F_X7_squares q13) - (1 : Int32)) (1 : Int32) q13) (by decide) (fun _ _ => ce_55) rfl rfl (rest := [.ref (α (55))]) rfl rfl (Nat.le_of_ble_eq_true rfl) ⟨Nat.le_of_ble_eq_true rfl, Nat.le_of_ble_eq_true rfl⟩ dX7_digest_159 (kc_SI rfl fun q14 => ?_)
      refine V_i2l hO dX7_digest_162 ?_
      refine V_callV hO ml_X7_271 (C_X7_say α (Int32.toInt64 q14.1) q14.2) (by decide) (fun _ _ => ce_55) rfl rfl (rest := []) rfl rfl (Nat.le_of_ble_eq_true rfl) ⟨Nat.le_of_ble_eq_true rfl, Nat.le_of_ble_eq_true rfl⟩ dX7_digest_163 (kc_TV fun q15 => ?_)
      refine V_iconst hO 0 dX7_digest_166 (by decide) ?_
      refine V_istore_n hO (ls2 := [(2, .int 0), (1, .int q9.1), (0, .ref (α (55)))]) dX7_digest_167 rfl (by decide) rfl ?_
      exact V_sub [2, 0] rfl (T_X7_digest_168 hO hR fuel (0 : Int32) q15 )
    · refine V_aload_n hO 0 dX7_digest_96 rfl rfl ?_
      refine V_aload_n hO 0 dX7_digest_97 rfl rfl ?_
      refine V_iload_n hO 1 dX7_digest_98 rfl rfl ?_
      refine V_callV hO ml_X7_188 (C_X7_restOf α w1 h) (by decide) (fun _ _ => ce_55) rfl rfl (rest := [.ref (α (55))]) rfl rfl (Nat.le_of_ble_eq_true rfl) ⟨Nat.le_of_ble_eq_true rfl, Nat.le_of_ble_eq_true rfl⟩ dX7_digest_99 (kc_OI rfl fun v16 => ?_)
      refine V_i2l hO dX7_digest_102 ?_
      refine V_callV hO ml_X7_271 (C_X7_say α (Int32.toInt64 v16) h) (by decide) (fun _ _ => ce_55) rfl rfl (rest := []) rfl rfl (Nat.le_of_ble_eq_true rfl) ⟨Nat.le_of_ble_eq_true rfl, Nat.le_of_ble_eq_true rfl⟩ dX7_digest_103 (kc_TV fun q17 => ?_)
      refine V_iinc hO (ls2 := [(1, .int (w1 + 1)), (0, .ref (α (55)))]) (z := 1) 1 dX7_digest_106 rfl (by decide) (by decide) rfl ?_
      refine V_goto hO 90 dX7_digest_109 (by decide) ?_
      exact V_sub [1, 0] rfl (ih (w1 + 1) q17 )
set_option maxHeartbeats 4000000 in
set_option maxRecDepth 100000 in
theorem T_X7_digest_49 {G : Gm} {α : Nat → Nat} (hO : Ok G α cX7_digest 3 RX7 4 100) (hR : Rt G α (some .long)) : ∀ (fuel : Nat) (w1 : Int32) (h : Hp), V G α 3 (kSJ) 49 [(0, .ref (α (55))), (1, .int w1)] [] h (F_X7_digest_49 fuel w1 h) := by
  intro fuel
  induction fuel with
  | zero => intro w1 h; exact V_none rfl
  | succ n ih =>
    intro w1 h
    rw [F_X7_digest_49]
    refine V_iload_n hO 1 dX7_digest_49 rfl rfl ?_
    refine V_aload_n hO 0 dX7_digest_50 rfl rfl ?_
    refine V_get hO (v := .int (h.1 55 6)) fl_X7_79 (by decide) (fun _ _ => ce_55) rfl dX7_digest_51 ?_
    refine V_icmp_ge hO 88 dX7_digest_54 (by decide) ?_ ?_
    · refine V_iconst hO 0 dX7_digest_88 (by decide) ?_
      refine V_istore_n hO (ls2 := [(1, .int 0), (0, .ref (α (55)))]) dX7_digest_89 rfl (by decide) rfl ?_
      exact V_sub [1, 0] rfl (T_X7_digest_90 hO hR fuel (0 : Int32) h )
    · refine V_iconst hO 0 dX7_digest_57 (by decide) ?_
      refine V_istore_n hO (ls2 := [(2, .int 0), (0, .ref (α (55))), (1, .int w1)]) dX7_digest_58 rfl (by decide) rfl ?_
      exact V_sub [1, 2, 0] rfl (T_X7_digest_59 hO hR (F_X7_digest_49 n) ih fuel w1 (0 : Int32) h )
set_option maxHeartbeats 4000000 in
set_option maxRecDepth 100000 in
theorem T_X7_digest_9 {G : Gm} {α : Nat → Nat} (hO : Ok G α cX7_digest 3 RX7 4 100) (hR : Rt G α (some .long)) : ∀ (fuel : Nat) (w1 : Int32) (h : Hp), V G α 3 (kSJ) 9 [(0, .ref (α (55))), (1, .int w1)] [] h (F_X7_digest_9 fuel w1 h) := by
  intro fuel
  induction fuel with
  | zero => intro w1 h; exact V_none rfl
  | succ n ih =>
    intro w1 h
    rw [F_X7_digest_9]
    refine V_iload_n hO 1 dX7_digest_9 rfl rfl ?_
    refine V_aload_n hO 0 dX7_digest_10 rfl rfl ?_
    refine V_callV hO ml_X7_71 (C_X7_squares α h) (by decide) (fun _ _ => ce_55) rfl rfl (rest := [.int w1]) rfl rfl (Nat.le_of_ble_eq_true rfl) ⟨Nat.le_of_ble_eq_true rfl, Nat.le_of_ble_eq_true rfl⟩ dX7_digest_11 (kc_I ?_)
    refine V_icmp_ge hO 47 dX7_digest_14 (by decide) ?_ ?_
    · refine V_iconst hO 0 dX7_digest_47 (by decide) ?_
      refine V_istore_n hO (ls2 := [(1, .int 0), (0, .ref (α (55)))]) dX7_digest_48 rfl (by decide) rfl ?_
      exact V_sub [1, 0] rfl (T_X7_digest_49 hO hR fuel (0 : Int32) h )
    · refine V_iconst hO 0 dX7_digest_17 (by decide) ?_
      refine V_istore_n hO (ls2 := [(2, .int 0), (0, .ref (α (55))), (1, .int w1)]) dX7_digest_18 rfl (by decide) rfl ?_
      exact V_sub [1, 2, 0] rfl (T_X7_digest_19 hO hR (F_X7_digest_9 n) ih fuel w1 (0 : Int32) h )
set_option maxHeartbeats 4000000 in
set_option maxRecDepth 100000 in
theorem T_X7_digest {G : Gm} {α : Nat → Nat} (hO : Ok G α cX7_digest 3 RX7 4 100) (hR : Rt G α (some .long)) (σ : Hp) : V G α 3 (kSJ) 0 [(0, .ref (α (55)))] [] σ (F_X7_digest σ) := by
  rw [F_X7_digest]
  refine V_aload_n hO 0 dX7_digest_0 rfl rfl ?_
  refine V_ldc2 hO (v := 617) dX7_digest_1 cn_X7_269 ?_
  refine V_putl hO fp_X7_265 (fun _ _ => ce_55) (Nat.le_of_ble_eq_true rfl) (fun _ _ => pe_55_30) dX7_digest_4 (V_name fun h18 => ?_)
  refine V_iconst hO 0 dX7_digest_7 (by decide) ?_
  refine V_istore_n hO (ls2 := [(1, .int 0), (0, .ref (α (55)))]) dX7_digest_8 rfl (by decide) rfl ?_
  exact V_sub [1, 0] rfl (T_X7_digest_9 hO hR fuel (0 : Int32) h18 )
set_option maxHeartbeats 4000000 in
set_option maxRecDepth 100000 in
theorem C_X7_digest (α : Nat → Nat) (σ : Hp) : Ct yX7_digest cX7_digest 3 (some .long) 4 100 α [.ref (α (55))] σ (kSJ (F_X7_digest σ)) := ct_of_V (own := RX7) rfl (by decide +kernel) (Nat.le_of_ble_eq_true rfl) fun _ hO hR => T_X7_digest hO hR σ
