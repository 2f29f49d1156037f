/-! X5_debtsThereIn -/
noncomputable def F_X5_debtsThereIn_40 (t : Nat) (σ : Hp) (k4 : Int32 → Int32 → Int32 → (Option Int32)) (w1 : Int32) (w2 : Int32) (w3 : Int32) : Option Int32 :=
  k4 w1 w2 (w3 + 1)
noncomputable def F_X5_debtsThereIn_4 (t : Nat) (σ : Hp) : Nat → Int32 → Int32 → Int32 → Option Int32
  | 0, _, _, _ => none
  | n + 1, w1, w2, w3 =>
    if (σ.1 (30 + t) 4) ≤ w3 then
    some w2
    else
    if inb w3 10 = true then
    if (F_X0_isThere (10 * t + (Int32.toNatClampNeg w3)) σ) = true then
    if inb w3 10 = true then
    if (σ.1 ((10 * t + (Int32.toNatClampNeg w3))) 1) = w1 then
    F_X5_debtsThereIn_40 t σ (F_X5_debtsThereIn_4 t σ n) w1 (w2 + 1) w3
    else
    F_X5_debtsThereIn_40 t σ (F_X5_debtsThereIn_4 t σ n) w1 w2 w3
    else none
    else
    F_X5_debtsThereIn_40 t σ (F_X5_debtsThereIn_4 t σ n) w1 w2 w3
    else none
noncomputable def F_X5_debtsThereIn (t : Nat) (p1 : Int32) (σ : Hp) : Option Int32 :=
  F_X5_debtsThereIn_4 t σ fuel p1 (0 : Int32) (0 : Int32)
set_option maxHeartbeats 4000000 in
set_option maxRecDepth 100000 in
theorem T_X5_debtsThereIn_40 {G : Gm} {α : Nat → Nat} {t : Nat} (hO : Ok G α cX5_debtsThereIn 4 RX5 1 20) (hR : Rt G α (some .int)) (ht : t < 3) (σ : Hp) (k4 : Int32 → Int32 → Int32 → (Option Int32)) (hk4 : ∀ (w1 : Int32) (w2 : Int32) (w3 : Int32), V G α 4 (kOI σ) 4 [(0, .ref (α (30 + t))), (1, .int w1), (2, .int w2), (3, .int w3)] [] σ (k4 w1 w2 w3)) : ∀ (w1 : Int32) (w2 : Int32) (w3 : Int32), V G α 4 (kOI σ) 40 [(0, .ref (α (30 + t))), (1, .int w1), (2, .int w2), (3, .int w3)] [] σ (F_X5_debtsThereIn_40 t σ k4 w1 w2 w3) := by
  intro w1 w2 w3
  rw [F_X5_debtsThereIn_40]
  refine V_iinc hO (ls2 := [(3, .int (w3 + 1)), (0, .ref (α (30 + t))), (1, .int w1), (2, .int w2)]) (z := 1) 3 dX5_debtsThereIn_40 rfl (by decide) (by decide) rfl ?_
  refine V_goto hO 4 dX5_debtsThereIn_43 (by decide) ?_
  exact V_sub [1, 2, 3, 0] rfl (hk4 w1 w2 (w3 + 1) )
set_option maxHeartbeats 4000000 in
set_option maxRecDepth 100000 in
theorem T_X5_debtsThereIn_4 {G : Gm} {α : Nat → Nat} {t : Nat} (hO : Ok G α cX5_debtsThereIn 4 RX5 1 20) (hR : Rt G α (some .int)) (ht : t < 3) (σ : Hp) : ∀ (fuel : Nat) (w1 : Int32) (w2 : Int32) (w3 : Int32), V G α 4 (kOI σ) 4 [(0, .ref (α (30 + t))), (1, .int w1), (2, .int w2), (3, .int w3)] [] σ (F_X5_debtsThereIn_4 t σ fuel w1 w2 w3) := by
  intro fuel
  induction fuel with
  | zero => intro w1 w2 w3; exact V_none rfl
  | succ n ih =>
    intro w1 w2 w3
    rw [F_X5_debtsThereIn_4]
    refine V_iload_n hO 3 dX5_debtsThereIn_4 rfl rfl ?_
    refine V_aload_n hO 0 dX5_debtsThereIn_5 rfl rfl ?_
    refine V_get hO (v := .int (σ.1 (30 + t) 4)) fl_X5_35 (tw_X5 ht) (fun _ _ => ce_town ht) rfl dX5_debtsThereIn_6 ?_
    refine V_icmp_ge hO 46 dX5_debtsThereIn_9 (by decide) ?_ ?_
    · refine V_iload_n hO 2 dX5_debtsThereIn_46 rfl rfl ?_
      exact V_iret hO hR rfl dX5_debtsThereIn_47
    · refine V_aload_n hO 0 dX5_debtsThereIn_12 rfl rfl ?_
      refine V_get hO (v := .ref (α (36 + t))) fl_X5_17 (tw_X5 ht) (fun _ _ => ce_town ht) rfl dX5_debtsThereIn_13 ?_
      refine V_iload_n hO 3 dX5_debtsThereIn_16 rfl rfl ?_
      refine V_chk rfl fun c1 => ?_
      refine V_aald hO (tw_darr ht) (fun _ _ => ce_da ht) (inb_in c1) dX5_debtsThereIn_17 ?_
      refine V_callV hO ml_X5_56 (C_X0_isThere α (c := (10 * t + (Int32.toNatClampNeg w3))) (cd_lt ht (inb_in c1)) σ) (Nat.lt_trans (cd_lt ht (inb_in c1)) (by decide)) (fun _ _ => ce_debt (cd_lt ht (inb_in c1))) rfl rfl (rest := []) rfl rfl (Nat.le_of_ble_eq_true rfl) ⟨Nat.le_of_ble_eq_true rfl, Nat.le_of_ble_eq_true rfl⟩ dX5_debtsThereIn_18 (kc_Z ?_)
      refine V_ifeqZ hO 40 dX5_debtsThereIn_21 (by decide) ?_ ?_
      · exact V_sub [0, 1, 2, 3] rfl (T_X5_debtsThereIn_40 hO hR ht σ (F_X5_debtsThereIn_4 t σ n) ih w1 w2 w3 )
      · refine V_aload_n hO 0 dX5_debtsThereIn_24 rfl rfl ?_
        refine V_get hO (v := .ref (α (36 + t))) fl_X5_17 (tw_X5 ht) (fun _ _ => ce_town ht) rfl dX5_debtsThereIn_25 ?_
        refine V_iload_n hO 3 dX5_debtsThereIn_28 rfl rfl ?_
        refine V_chk rfl fun c2 => ?_
        refine V_aald hO (tw_darr ht) (fun _ _ => ce_da ht) (inb_in c2) dX5_debtsThereIn_29 ?_
        refine V_get hO (v := .int (σ.1 ((10 * t + (Int32.toNatClampNeg w3))) 1)) fl_X5_46 (Nat.lt_trans (cd_lt ht (inb_in c1)) (by decide)) (fun _ _ => ce_debt (cd_lt ht (inb_in c1))) rfl dX5_debtsThereIn_30 ?_
        refine V_iload_n hO 1 dX5_debtsThereIn_33 rfl rfl ?_
        refine V_icmp_ne hO 40 dX5_debtsThereIn_34 (by decide) ?_ ?_
        · exact V_sub [0, 1, 2, 3] rfl (T_X5_debtsThereIn_40 hO hR ht σ (F_X5_debtsThereIn_4 t σ n) ih w1 w2 w3 )
        · refine V_iinc hO (ls2 := [(2, .int (w2 + 1)), (0, .ref (α (30 + t))), (1, .int w1), (3, .int w3)]) (z := 1) 2 dX5_debtsThereIn_37 rfl (by decide) (by decide) rfl ?_
          exact V_sub [1, 2, 0, 3] rfl (T_X5_debtsThereIn_40 hO hR ht σ (F_X5_debtsThereIn_4 t σ n) ih w1 (w2 + 1) w3 )
set_option maxHeartbeats 4000000 in
set_option maxRecDepth 100000 in
theorem T_X5_debtsThereIn {G : Gm} {α : Nat → Nat} {t : Nat} (hO : Ok G α cX5_debtsThereIn 4 RX5 1 20) (hR : Rt G α (some .int)) (ht : t < 3) (p1 : Int32) (σ : Hp) : V G α 4 (kOI σ) 0 [(0, .ref (α (30 + t))), (1, .int p1)] [] σ (F_X5_debtsThereIn t p1 σ) := by
  rw [F_X5_debtsThereIn]
  refine V_iconst hO 0 dX5_debtsThereIn_0 (by decide) ?_
  refine V_istore_n hO (ls2 := [(2, .int 0), (0, .ref (α (30 + t))), (1, .int p1)]) dX5_debtsThereIn_1 rfl (by decide) rfl ?_
  refine V_iconst hO 0 dX5_debtsThereIn_2 (by decide) ?_
  refine V_istore_n hO (ls2 := [(3, .int 0), (2, .int 0), (0, .ref (α (30 + t))), (1, .int p1)]) dX5_debtsThereIn_3 rfl (by decide) rfl ?_
  exact V_sub [2, 3, 1, 0] rfl (T_X5_debtsThereIn_4 hO hR ht σ fuel p1 (0 : Int32) (0 : Int32) )
set_option maxHeartbeats 4000000 in
set_option maxRecDepth 100000 in
theorem C_X5_debtsThereIn (α : Nat → Nat) {t : Nat} (ht : t < 3) (p1 : Int32) (σ : Hp) : Ct yX5_debtsThereIn cX5_debtsThereIn 4 (some .int) 1 20 α [.ref (α (30 + t)), .int p1] σ (kOI σ (F_X5_debtsThereIn t p1 σ)) := ct_of_V (own := RX5) rfl (by decide +kernel) (Nat.le_of_ble_eq_true rfl) fun _ hO hR => T_X5_debtsThereIn hO hR ht p1 σ
/-! X5_debtsStanding -/
noncomputable def F_X5_debtsStanding_27 (t : Nat) (σ : Hp) (k4 : Int32 → Int32 → (Option Int32)) (w1 : Int32) (w2 : Int32) : Option Int32 :=
  k4 w1 (w2 + 1)
noncomputable def F_X5_debtsStanding_4 (t : Nat) (σ : Hp) : Nat → Int32 → Int32 → Option Int32
  | 0, _, _ => none
  | n + 1, w1, w2 =>
    if (σ.1 (30 + t) 4) ≤ w2 then
    some w1
    else
    if inb w2 10 = true then
    if (σ.1 ((10 * t + (Int32.toNatClampNeg w2))) 5) ≤ 0 then
    F_X5_debtsStanding_27 t σ (F_X5_debtsStanding_4 t σ n) w1 w2
    else
    F_X5_debtsStanding_27 t σ (F_X5_debtsStanding_4 t σ n) (w1 + 1) w2
    else none
noncomputable def F_X5_debtsStanding (t : Nat) (σ : Hp) : Option Int32 :=
  F_X5_debtsStanding_4 t σ fuel (0 : Int32) (0 : Int32)
set_option maxHeartbeats 4000000 in
set_option maxRecDepth 100000 in
theorem T_X5_debtsStanding_27 {G : Gm} {α : Nat → Nat} {t : Nat} (hO : Ok G α cX5_debtsStanding 3 RX5 0 0) (hR : Rt G α (some .int)) (ht : t < 3) (σ : Hp) (k4 : Int32 → Int32 → (Option Int32)) (hk4 : ∀ (w1 : Int32) (w2 : Int32), V G α 3 (kOI σ) 4 [(0, .ref (α (30 + t))), (1, .int w1), (2, .int w2)] [] σ (k4 w1 w2)) : ∀ (w1 : Int32) (w2 : Int32), V G α 3 (kOI σ) 27 [(0, .ref (α (30 + t))), (1, .int w1), (2, .int w2)] [] σ (F_X5_debtsStanding_27 t σ k4 w1 w2) := by
  intro w1 w2
  rw [F_X5_debtsStanding_27]
  refine V_iinc hO (ls2 := [(2, .int (w2 + 1)), (0, .ref (α (30 + t))), (1, .int w1)]) (z := 1) 2 dX5_debtsStanding_27 rfl (by decide) (by decide) rfl ?_
  refine V_goto hO 4 dX5_debtsStanding_30 (by decide) ?_
  exact V_sub [1, 2, 0] rfl (hk4 w1 (w2 + 1) )
set_option maxHeartbeats 4000000 in
set_option maxRecDepth 100000 in
theorem T_X5_debtsStanding_4 {G : Gm} {α : Nat → Nat} {t : Nat} (hO : Ok G α cX5_debtsStanding 3 RX5 0 0) (hR : Rt G α (some .int)) (ht : t < 3) (σ : Hp) : ∀ (fuel : Nat) (w1 : Int32) (w2 : Int32), V G α 3 (kOI σ) 4 [(0, .ref (α (30 + t))), (1, .int w1), (2, .int w2)] [] σ (F_X5_debtsStanding_4 t σ fuel w1 w2) := by
  intro fuel
  induction fuel with
  | zero => intro w1 w2; exact V_none rfl
  | succ n ih =>
    intro w1 w2
    rw [F_X5_debtsStanding_4]
    refine V_iload_n hO 2 dX5_debtsStanding_4 rfl rfl ?_
    refine V_aload_n hO 0 dX5_debtsStanding_5 rfl rfl ?_
    refine V_get hO (v := .int (σ.1 (30 + t) 4)) fl_X5_35 (tw_X5 ht) (fun _ _ => ce_town ht) rfl dX5_debtsStanding_6 ?_
    refine V_icmp_ge hO 33 dX5_debtsStanding_9 (by decide) ?_ ?_
    · refine V_iload_n hO 1 dX5_debtsStanding_33 rfl rfl ?_
      exact V_iret hO hR rfl dX5_debtsStanding_34
    · refine V_aload_n hO 0 dX5_debtsStanding_12 rfl rfl ?_
      refine V_get hO (v := .ref (α (36 + t))) fl_X5_17 (tw_X5 ht) (fun _ _ => ce_town ht) rfl dX5_debtsStanding_13 ?_
      refine V_iload_n hO 2 dX5_debtsStanding_16 rfl rfl ?_
      refine V_chk rfl fun c1 => ?_
      refine V_aald hO (tw_darr ht) (fun _ _ => ce_da ht) (inb_in c1) dX5_debtsStanding_17 ?_
      refine V_get hO (v := .int (σ.1 ((10 * t + (Int32.toNatClampNeg w2))) 5)) fl_X5_60 (Nat.lt_trans (cd_lt ht (inb_in c1)) (by decide)) (fun _ _ => ce_debt (cd_lt ht (inb_in c1))) rfl dX5_debtsStanding_18 ?_
      refine V_if_le hO 27 dX5_debtsStanding_21 (by decide) ?_ ?_
      · exact V_sub [0, 1, 2] rfl (T_X5_debtsStanding_27 hO hR ht σ (F_X5_debtsStanding_4 t σ n) ih w1 w2 )
      · refine V_iinc hO (ls2 := [(1, .int (w1 + 1)), (0, .ref (α (30 + t))), (2, .int w2)]) (z := 1) 1 dX5_debtsStanding_24 rfl (by decide) (by decide) rfl ?_
        exact V_sub [1, 0, 2] rfl (T_X5_debtsStanding_27 hO hR ht σ (F_X5_debtsStanding_4 t σ n) ih (w1 + 1) w2 )
set_option maxHeartbeats 4000000 in
set_option maxRecDepth 100000 in
theorem T_X5_debtsStanding {G : Gm} {α : Nat → Nat} {t : Nat} (hO : Ok G α cX5_debtsStanding 3 RX5 0 0) (hR : Rt G α (some .int)) (ht : t < 3) (σ : Hp) : V G α 3 (kOI σ) 0 [(0, .ref (α (30 + t)))] [] σ (F_X5_debtsStanding t σ) := by
  rw [F_X5_debtsStanding]
  refine V_iconst hO 0 dX5_debtsStanding_0 (by decide) ?_
  refine V_istore_n hO (ls2 := [(1, .int 0), (0, .ref (α (30 + t)))]) dX5_debtsStanding_1 rfl (by decide) rfl ?_
  refine V_iconst hO 0 dX5_debtsStanding_2 (by decide) ?_
  refine V_istore_n hO (ls2 := [(2, .int 0), (1, .int 0), (0, .ref (α (30 + t)))]) dX5_debtsStanding_3 rfl (by decide) rfl ?_
  exact V_sub [2, 1, 0] rfl (T_X5_debtsStanding_4 hO hR ht σ fuel (0 : Int32) (0 : Int32) )
set_option maxHeartbeats 4000000 in
set_option maxRecDepth 100000 in
theorem C_X5_debtsStanding (α : Nat → Nat) {t : Nat} (ht : t < 3) (σ : Hp) : Ct yX5_debtsStanding cX5_debtsStanding 3 (some .int) 0 0 α [.ref (α (30 + t))] σ (kOI σ (F_X5_debtsStanding t σ)) := ct_of_V (own := RX5) rfl (by decide +kernel) (Nat.le_of_ble_eq_true rfl) fun _ hO hR => T_X5_debtsStanding hO hR ht σ
/-! X5_iceTogether -/
noncomputable def F_X5_iceTogether_4 (t : Nat) (σ : Hp) : Nat → Int32 → Int32 → Option Int32
  | 0, _, _ => none
  | n + 1, w1, w2 =>
    if (σ.1 (30 + t) 1) ≤ w2 then
    some w1
    else
    if inb w2 16 = true then
    lt (w1 + (σ.1 (33 + t) (Int32.toNatClampNeg w2))) fun v2 =>
    F_X5_iceTogether_4 t σ n v2 (w2 + 1)
    else none
noncomputable def F_X5_iceTogether (t : Nat) (σ : Hp) : Option Int32 :=
  F_X5_iceTogether_4 t σ fuel (0 : Int32) (0 : Int32)
set_option maxHeartbeats 4000000 in
set_option maxRecDepth 100000 in
theorem T_X5_iceTogether_4 {G : Gm} {α : Nat → Nat} {t : Nat} (hO : Ok G α cX5_iceTogether 3 RX5 0 0) (hR : Rt G α (some .int)) (ht : t < 3) (σ : Hp) : ∀ (fuel : Nat) (w1 : Int32) (w2 : Int32), V G α 3 (kOI σ) 4 [(0, .ref (α (30 + t))), (1, .int w1), (2, .int w2)] [] σ (F_X5_iceTogether_4 t σ fuel w1 w2) := by
  intro fuel
  induction fuel with
  | zero => intro w1 w2; exact V_none rfl
  | succ n ih =>
    intro w1 w2
    rw [F_X5_iceTogether_4]
    refine V_iload_n hO 2 dX5_iceTogether_4 rfl rfl ?_
    refine V_aload_n hO 0 dX5_iceTogether_5 rfl rfl ?_
    refine V_get hO (v := .int (σ.1 (30 + t) 1)) fl_X5_26 (tw_X5 ht) (fun _ _ => ce_town ht) rfl dX5_iceTogether_6 ?_
    refine V_icmp_ge hO 27 dX5_iceTogether_9 (by decide) ?_ ?_
    · refine V_iload_n hO 1 dX5_iceTogether_27 rfl rfl ?_
      exact V_iret hO hR rfl dX5_iceTogether_28
    · refine V_iload_n hO 1 dX5_iceTogether_12 rfl rfl ?_
      refine V_aload_n hO 0 dX5_iceTogether_13 rfl rfl ?_
      refine V_get hO (v := .ref (α (33 + t))) fl_X5_9 (tw_X5 ht) (fun _ _ => ce_town ht) rfl dX5_iceTogether_14 ?_
      refine V_iload_n hO 2 dX5_iceTogether_17 rfl rfl ?_
      refine V_chk rfl fun c1 => ?_
      refine V_iald hO (tw_ice ht) (fun _ _ => ce_ice ht) (inb_in c1) dX5_iceTogether_18 ?_
      refine V_iadd hO dX5_iceTogether_19 ?_
      refine V_istore_nN hO (ls2 := fun v2 => [(1, .int v2), (0, .ref (α (30 + t))), (2, .int w2)]) dX5_iceTogether_20 rfl (by decide) (fun _ => rfl) (fun v2 => ?_)
      refine V_iinc hO (ls2 := [(2, .int (w2 + 1)), (1, .int v2), (0, .ref (α (30 + t)))]) (z := 1) 2 dX5_iceTogether_21 rfl (by decide) (by decide) rfl ?_
      refine V_goto hO 4 dX5_iceTogether_24 (by decide) ?_
      exact V_sub [2, 1, 0] rfl (ih v2 (w2 + 1) )
set_option maxHeartbeats 4000000 in
set_option maxRecDepth 100000 in
theorem T_X5_iceTogether {G : Gm} {α : Nat → Nat} {t : Nat} (hO : Ok G α cX5_iceTogether 3 RX5 0 0) (hR : Rt G α (some .int)) (ht : t < 3) (σ : Hp) : V G α 3 (kOI σ) 0 [(0, .ref (α (30 + t)))] [] σ (F_X5_iceTogether t σ) := by
  rw [F_X5_iceTogether]
  refine V_iconst hO 0 dX5_iceTogether_0 (by decide) ?_
  refine V_istore_n hO (ls2 := [(1, .int 0), (0, .ref (α (30 + t)))]) dX5_iceTogether_1 rfl (by decide) rfl ?_
  refine V_iconst hO 0 dX5_iceTogether_2 (by decide) ?_
  refine V_istore_n hO (ls2 := [(2, .int 0), (1, .int 0), (0, .ref (α (30 + t)))]) dX5_iceTogether_3 rfl (by decide) rfl ?_
  exact V_sub [2, 1, 0] rfl (T_X5_iceTogether_4 hO hR ht σ fuel (0 : Int32) (0 : Int32) )
set_option maxHeartbeats 4000000 in
set_option maxRecDepth 100000 in
theorem C_X5_iceTogether (α : Nat → Nat) {t : Nat} (ht : t < 3) (σ : Hp) : Ct yX5_iceTogether cX5_iceTogether 3 (some .int) 0 0 α [.ref (α (30 + t))] σ (kOI σ (F_X5_iceTogether t σ)) := ct_of_V (own := RX5) rfl (by decide +kernel) (Nat.le_of_ble_eq_true rfl) fun _ hO hR => T_X5_iceTogether hO hR ht σ
/-! X5_makeHole -/
noncomputable def F_X5_makeHole_57 (t : Nat) (k11 : Int32 → Int32 → Int32 → Hp → (Option (Int32 × Hp))) (w1 : Int32) (w2 : Int32) (w3 : Int32) (h : Hp) : Option (Int32 × Hp) :=
  k11 w1 w2 (w3 + 1) h
noncomputable def F_X5_makeHole_11 (t : Nat) : Nat → Int32 → Int32 → Int32 → Hp → Option (Int32 × Hp)
  | 0, _, _, _, _ => none
  | n + 1, w1, w2, w3, h =>
    if (h.1 (30 + t) 4) ≤ w3 then
    some (w2, h)
    else
    if inb w3 10 = true then
    if (F_X0_isThere (10 * t + (Int32.toNatClampNeg w3)) h) = true then
    if inb w3 10 = true then
    if (h.1 ((10 * t + (Int32.toNatClampNeg w3))) 1) = w1 then
    if inb w3 10 = true then
    lt (up h ((10 * t + (Int32.toNatClampNeg w3))) 5 (0 : Int32)) fun h4 =>
    F_X5_makeHole_57 t (F_X5_makeHole_11 t n) w1 (w2 + 1) w3 h4
    else none
    else
    F_X5_makeHole_57 t (F_X5_makeHole_11 t n) w1 w2 w3 h
    else none
    else
    F_X5_makeHole_57 t (F_X5_makeHole_11 t n) w1 w2 w3 h
    else none
noncomputable def F_X5_makeHole (t : Nat) (p1 : Int32) (σ : Hp) : Option (Int32 × Hp) :=
  if inb p1 16 = true then
  lt (up σ (33 + t) (Int32.toNatClampNeg p1) (0 : Int32)) fun h6 =>
  F_X5_makeHole_11 t fuel p1 (0 : Int32) (0 : Int32) h6
  else none
set_option maxHeartbeats 4000000 in
set_option maxRecDepth 100000 in
theorem T_X5_makeHole_57 {G : Gm} {α : Nat → Nat} {t : Nat} (hO : Ok G α cX5_makeHole 4 RX5 1 20) (hR : Rt G α (some .int)) (ht : t < 3) (k11 : Int32 → Int32 → Int32 → Hp → (Option (Int32 × Hp))) (hk11 : ∀ (w1 : Int32) (w2 : Int32) (w3 : Int32) (h : Hp), V G α 4 (kSI) 11 [(0, .ref (α (30 + t))), (1, .int w1), (2, .int w2), (3, .int w3)] [] h (k11 w1 w2 w3 h)) : ∀ (w1 : Int32) (w2 : Int32) (w3 : Int32) (h : Hp), V G α 4 (kSI) 57 [(0, .ref (α (30 + t))), (1, .int w1), (2, .int w2), (3, .int w3)] [] h (F_X5_makeHole_57 t k11 w1 w2 w3 h) := by
  intro w1 w2 w3 h
  rw [F_X5_makeHole_57]
  refine V_iinc hO (ls2 := [(3, .int (w3 + 1)), (0, .ref (α (30 + t))), (1, .int w1), (2, .int w2)]) (z := 1) 3 dX5_makeHole_57 rfl (by decide) (by decide) rfl ?_
  refine V_goto hO 11 dX5_makeHole_60 (by decide) ?_
  exact V_sub [1, 2, 3, 0] rfl (hk11 w1 w2 (w3 + 1) h )
set_option maxHeartbeats 4000000 in
set_option maxRecDepth 100000 in
theorem T_X5_makeHole_11 {G : Gm} {α : Nat → Nat} {t : Nat} (hO : Ok G α cX5_makeHole 4 RX5 1 20) (hR : Rt G α (some .int)) (ht : t < 3) : ∀ (fuel : Nat) (w1 : Int32) (w2 : Int32) (w3 : Int32) (h : Hp), V G α 4 (kSI) 11 [(0, .ref (α (30 + t))), (1, .int w1), (2, .int w2), (3, .int w3)] [] h (F_X5_makeHole_11 t fuel w1 w2 w3 h) := by
  intro fuel
  induction fuel with
  | zero => intro w1 w2 w3 h; exact V_none rfl
  | succ n ih =>
    intro w1 w2 w3 h
    rw [F_X5_makeHole_11]
    refine V_iload_n hO 3 dX5_makeHole_11 rfl rfl ?_
    refine V_aload_n hO 0 dX5_makeHole_12 rfl rfl ?_
    refine V_get hO (v := .int (h.1 (30 + t) 4)) fl_X5_35 (tw_X5 ht) (fun _ _ => ce_town ht) rfl dX5_makeHole_13 ?_
    refine V_icmp_ge hO 63 dX5_makeHole_16 (by decide) ?_ ?_
    · refine V_iload_n hO 2 dX5_makeHole_63 rfl rfl ?_
      exact V_iret hO hR rfl dX5_makeHole_64
    · refine V_aload_n hO 0 dX5_makeHole_19 rfl rfl ?_
      refine V_get hO (v := .ref (α (36 + t))) fl_X5_17 (tw_X5 ht) (fun _ _ => ce_town ht) rfl dX5_makeHole_20 ?_
      refine V_iload_n hO 3 dX5_makeHole_23 rfl rfl ?_
      refine V_chk rfl fun c1 => ?_
      refine V_aald hO (tw_darr ht) (fun _ _ => ce_da ht) (inb_in c1) dX5_makeHole_24 ?_
      refine V_callV hO ml_X5_56 (C_X0_isThere α (c := (10 * t + (Int32.toNatClampNeg w3))) (cd_lt ht (inb_in c1)) h) (Nat.lt_trans (cd_lt ht (inb_in c1)) (by decide)) (fun _ _ => ce_debt (cd_lt ht (inb_in c1))) rfl rfl (rest := []) rfl rfl (Nat.le_of_ble_eq_true rfl) ⟨Nat.le_of_ble_eq_true rfl, Nat.le_of_ble_eq_true rfl⟩ dX5_makeHole_25 (kc_Z ?_)
      refine V_ifeqZ hO 57 dX5_makeHole_28 (by decide) ?_ ?_
      · exact V_sub [0, 1, 2, 3] rfl (T_X5_makeHole_57 hO hR ht (F_X5_makeHole_11 t n) ih w1 w2 w3 h )
      · refine V_aload_n hO 0 dX5_makeHole_31 rfl rfl ?_
        refine V_get hO (v := .ref (α (36 + t))) fl_X5_17 (tw_X5 ht) (fun _ _ => ce_town ht) rfl dX5_makeHole_32 ?_
        refine V_iload_n hO 3 dX5_makeHole_35 rfl rfl ?_
        refine V_chk rfl fun c2 => ?_
        refine V_aald hO (tw_darr ht) (fun _ _ => ce_da ht) (inb_in c2) dX5_makeHole_36 ?_
        refine V_get hO (v := .int (h.1 ((10 * t + (Int32.toNatClampNeg w3))) 1)) fl_X5_46 (Nat.lt_trans (cd_lt ht (inb_in c1)) (by decide)) (fun _ _ => ce_debt (cd_lt ht (inb_in c1))) rfl dX5_makeHole_37 ?_
        refine V_iload_n hO 1 dX5_makeHole_40 rfl rfl ?_
        refine V_icmp_ne hO 57 dX5_makeHole_41 (by decide) ?_ ?_
        · exact V_sub [0, 1, 2, 3] rfl (T_X5_makeHole_57 hO hR ht (F_X5_makeHole_11 t n) ih w1 w2 w3 h )
        · refine V_aload_n hO 0 dX5_makeHole_44 rfl rfl ?_
          refine V_get hO (v := .ref (α (36 + t))) fl_X5_17 (tw_X5 ht) (fun _ _ => ce_town ht) rfl dX5_makeHole_45 ?_
          refine V_iload_n hO 3 dX5_makeHole_48 rfl rfl ?_
          refine V_chk rfl fun c3 => ?_
          refine V_aald hO (tw_darr ht) (fun _ _ => ce_da ht) (inb_in c3) dX5_makeHole_49 ?_
          refine V_iconst hO 0 dX5_makeHole_50 (by decide) ?_
          refine V_puti hO fp_X5_60 (Nat.lt_trans (cd_lt ht (inb_in c1)) (by decide)) (fun _ _ => ce_debt (cd_lt ht (inb_in c1))) (Nat.le_of_ble_eq_true rfl) (fun _ _ => pe_debt5 (cd_lt ht (inb_in c1))) dX5_makeHole_51 (V_name fun h4 => ?_)
          refine V_iinc hO (ls2 := [(2, .int (w2 + 1)), (0, .ref (α (30 + t))), (1, .int w1), (3, .int w3)]) (z := 1) 2 dX5_makeHole_54 rfl (by decide) (by decide) rfl ?_
          exact V_sub [1, 2, 0, 3] rfl (T_X5_makeHole_57 hO hR ht (F_X5_makeHole_11 t n) ih w1 (w2 + 1) w3 h4 )
set_option maxHeartbeats 4000000 in
set_option maxRecDepth 100000 in
theorem T_X5_makeHole {G : Gm} {α : Nat → Nat} {t : Nat} (hO : Ok G α cX5_makeHole 4 RX5 1 20) (hR : Rt G α (some .int)) (ht : t < 3) (p1 : Int32) (σ : Hp) : V G α 4 (kSI) 0 [(0, .ref (α (30 + t))), (1, .int p1)] [] σ (F_X5_makeHole t p1 σ) := by
  rw [F_X5_makeHole]
  refine V_iconst hO 0 dX5_makeHole_0 (by decide) ?_
  refine V_istore_n hO (ls2 := [(2, .int 0), (0, .ref (α (30 + t))), (1, .int p1)]) dX5_makeHole_1 rfl (by decide) rfl ?_
  refine V_aload_n hO 1 dX5_makeHole_2 rfl rfl ?_
  refine V_get hO (v := .ref (α (33 + t))) fl_X5_9 (tw_X5 ht) (fun _ _ => ce_town ht) rfl dX5_makeHole_3 ?_
  refine V_iload_n hO 2 dX5_makeHole_6 rfl rfl ?_
  refine V_iconst hO 0 dX5_makeHole_7 (by decide) ?_
  refine V_chk rfl fun c5 => ?_
  refine V_iast hO (tw_ice ht) (fun _ _ _ => ce_ice ht) (inb_in c5) dX5_makeHole_8 (V_name fun h6 => ?_)
  refine V_iconst hO 0 dX5_makeHole_9 (by decide) ?_
  refine V_istore_n hO (ls2 := [(3, .int 0), (2, .int 0), (0, .ref (α (30 + t))), (1, .int p1)]) dX5_makeHole_10 rfl (by decide) rfl ?_
  exact V_sub [2, 3, 1, 0] rfl (T_X5_makeHole_11 hO hR ht fuel p1 (0 : Int32) (0 : Int32) h6 )
set_option maxHeartbeats 4000000 in
set_option maxRecDepth 100000 in
theorem C_X5_makeHole (α : Nat → Nat) {t : Nat} (ht : t < 3) (p1 : Int32) (σ : Hp) : Ct yX5_makeHole cX5_makeHole 4 (some .int) 1 20 α [.ref (α (30 + t)), .int p1] σ (kSI (F_X5_makeHole t p1 σ)) := ct_of_V (own := RX5) rfl (by decide +kernel) (Nat.le_of_ble_eq_true rfl) fun _ hO hR => T_X5_makeHole hO hR ht p1 σ
/-! X5_meltCuts -/
noncomputable def F_X5_meltCuts_80 (t : Nat) (k4 : Int32 → Int32 → Int32 → Hp → (Option (Int32 × Hp))) (w1 : Int32) (w2 : Int32) (w3 : Int32) (h : Hp) : Option (Int32 × Hp) :=
  k4 w1 w2 (w3 + 1) h
noncomputable def F_X5_meltCuts_78 (t : Nat) (k4 : Int32 → Int32 → Int32 → Hp → (Option (Int32 × Hp))) (w1 : Int32) (w3 : Int32) (s0 : Bool) (s1 : Int32) (h : Hp) : Option (Int32 × Hp) :=
  lt (s1 + (b2i s0)) fun v1 =>
  F_X5_meltCuts_80 t k4 w1 v1 w3 h
noncomputable def F_X5_meltCuts_4 (t : Nat) : Nat → Int32 → Int32 → Int32 → Hp → Option (Int32 × Hp)
  | 0, _, _, _, _ => none
  | n + 1, w1, w2, w3, h =>
    if (h.1 (30 + t) 4) ≤ w3 then
    some (w2, h)
    else
    if inb w3 10 = true then
    if (F_X0_isThere (10 * t + (Int32.toNatClampNeg w3)) h) = true then
    if inb w3 10 = true then
    if inb w3 10 = true then
    if inb w3 10 = true then
    (F_X5_iceUnder t w3 h).bind fun v6 =>
    lt (up h ((10 * t + (Int32.toNatClampNeg w3))) 5 (F_X0_cutBehindThaw (h.1 ((10 * t + (Int32.toNatClampNeg w3))) 0) (h.1 ((10 * t + (Int32.toNatClampNeg w3))) 5) w1 v6 h)) fun h7 =>
    if inb w3 10 = true then
    if (h7.1 ((10 * t + (Int32.toNatClampNeg w3))) 5) = 0 then
    F_X5_meltCuts_78 t (F_X5_meltCuts_4 t n) w1 w3 true w2 h7
    else
    F_X5_meltCuts_78 t (F_X5_meltCuts_4 t n) w1 w3 false w2 h7
    else none
    else none
    else none
    else none
    else
    F_X5_meltCuts_80 t (F_X5_meltCuts_4 t n) w1 w2 w3 h
    else none
noncomputable def F_X5_meltCuts (t : Nat) (p1 : Int32) (σ : Hp) : Option (Int32 × Hp) :=
  F_X5_meltCuts_4 t fuel p1 (0 : Int32) (0 : Int32) σ
set_option maxHeartbeats 4000000 in
set_option maxRecDepth 100000 in
theorem T_X5_meltCuts_80 {G : Gm} {α : Nat → Nat} {t : Nat} (hO : Ok G α cX5_meltCuts 4 RX5 2 45) (hR : Rt G α (some .int)) (ht : t < 3) (k4 : Int32 → Int32 → Int32 → Hp → (Option (Int32 × Hp))) (hk4 : ∀ (w1 : Int32) (w2 : Int32) (w3 : Int32) (h : Hp), V G α 4 (kSI) 4 [(0, .ref (α (30 + t))), (1, .int w1), (2, .int w2), (3, .int w3)] [] h (k4 w1 w2 w3 h)) : ∀ (w1 : Int32) (w2 : Int32) (w3 : Int32) (h : Hp), V G α 4 (kSI) 80 [(0, .ref (α (30 + t))), (1, .int w1), (2, .int w2), (3, .int w3)] [] h (F_X5_meltCuts_80 t k4 w1 w2 w3 h) := by
  intro w1 w2 w3 h
  rw [F_X5_meltCuts_80]
  refine V_iinc hO (ls2 := [(3, .int (w3 + 1)), (0, .ref (α (30 + t))), (1, .int w1), (2, .int w2)]) (z := 1) 3 dX5_meltCuts_80 rfl (by decide) (by decide) rfl ?_
  refine V_goto hO 4 dX5_meltCuts_83 (by decide) ?_
  exact V_sub [1, 2, 3, 0] rfl (hk4 w1 w2 (w3 + 1) h )
set_option maxHeartbeats 4000000 in
set_option maxRecDepth 100000 in
theorem T_X5_meltCuts_78 {G : Gm} {α : Nat → Nat} {t : Nat} (hO : Ok G α cX5_meltCuts 4 RX5 2 45) (hR : Rt G α (some .int)) (ht : t < 3) (k4 : Int32 → Int32 → Int32 → Hp → (Option (Int32 × Hp))) (hk4 : ∀ (w1 : Int32) (w2 : Int32) (w3 : Int32) (h : Hp), V G α 4 (kSI) 4 [(0, .ref (α (30 + t))), (1, .int w1), (2, .int w2), (3, .int w3)] [] h (k4 w1 w2 w3 h)) : ∀ (w1 : Int32) (w3 : Int32) (s0 : Bool) (s1 : Int32) (h : Hp), V G α 4 (kSI) 78 [(0, .ref (α (30 + t))), (1, .int w1), (3, .int w3)] [.int (b2i s0), .int s1] h (F_X5_meltCuts_78 t k4 w1 w3 s0 s1 h) := by
  intro w1 w3 s0 s1 h
  rw [F_X5_meltCuts_78]
  refine V_iadd hO dX5_meltCuts_78 ?_
  refine V_istore_nN hO (ls2 := fun v1 => [(2, .int v1), (0, .ref (α (30 + t))), (1, .int w1), (3, .int w3)]) dX5_meltCuts_79 rfl (by decide) (fun _ => rfl) (fun v1 => ?_)
  exact V_sub [1, 2, 0, 3] rfl (T_X5_meltCuts_80 hO hR ht k4 hk4 w1 v1 w3 h )
set_option maxHeartbeats 4000000 in
set_option maxRecDepth 100000 in
theorem T_X5_meltCuts_4 {G : Gm} {α : Nat → Nat} {t : Nat} (hO : Ok G α cX5_meltCuts 4 RX5 2 45) (hR : Rt G α (some .int)) (ht : t < 3) : ∀ (fuel : Nat) (w1 : Int32) (w2 : Int32) (w3 : Int32) (h : Hp), V G α 4 (kSI) 4 [(0, .ref (α (30 + t))), (1, .int w1), (2, .int w2), (3, .int w3)] [] h (F_X5_meltCuts_4 t fuel w1 w2 w3 h) := by
  intro fuel
  induction fuel with
  | zero => intro w1 w2 w3 h; exact V_none rfl
  | succ n ih =>
    intro w1 w2 w3 h
    rw [F_X5_meltCuts_4]
    refine V_iload_n hO 3 dX5_meltCuts_4 rfl rfl ?_
    refine V_aload_n hO 0 dX5_meltCuts_5 rfl rfl ?_
    refine V_get hO (v := .int (h.1 (30 + t) 4)) fl_X5_35 (tw_X5 ht) (fun _ _ => ce_town ht) rfl dX5_meltCuts_6 ?_
    refine V_icmp_ge hO 86 dX5_meltCuts_9 (by decide) ?_ ?_
    · refine V_iload_n hO 2 dX5_meltCuts_86 rfl rfl ?_
      exact V_iret hO hR rfl dX5_meltCuts_87
    · refine V_aload_n hO 0 dX5_meltCuts_12 rfl rfl ?_
      refine V_get hO (v := .ref (α (36 + t))) fl_X5_17 (tw_X5 ht) (fun _ _ => ce_town ht) rfl dX5_meltCuts_13 ?_
      refine V_iload_n hO 3 dX5_meltCuts_16 rfl rfl ?_
      refine V_chk rfl fun c2 => ?_
      refine V_aald hO (tw_darr ht) (fun _ _ => ce_da ht) (inb_in c2) dX5_meltCuts_17 ?_
      refine V_callV hO ml_X5_56 (C_X0_isThere α (c := (10 * t + (Int32.toNatClampNeg w3))) (cd_lt ht (inb_in c2)) h) (Nat.lt_trans (cd_lt ht (inb_in c2)) (by decide)) (fun _ _ => ce_debt (cd_lt ht (inb_in c2))) rfl rfl (rest := []) rfl rfl (Nat.le_of_ble_eq_true rfl) ⟨Nat.le_of_ble_eq_true rfl, Nat.le_of_ble_eq_true rfl⟩ dX5_meltCuts_18 (kc_Z ?_)
      refine V_ifeqZ hO 80 dX5_meltCuts_21 (by decide) ?_ ?_
      · exact V_sub [0, 1, 2, 3] rfl (T_X5_meltCuts_80 hO hR ht (F_X5_meltCuts_4 t n) ih w1 w2 w3 h )
      · refine V_aload_n hO 0 dX5_meltCuts_24 rfl rfl ?_
        refine V_get hO (v := .ref (α (36 + t))) fl_X5_17 (tw_X5 ht) (fun _ _ => ce_town ht) rfl dX5_meltCuts_25 ?_
        refine V_iload_n hO 3 dX5_meltCuts_28 rfl rfl ?_
        refine V_chk rfl fun c3 => ?_
        refine V_aald hO (tw_darr ht) (fun _ _ => ce_da ht) (inb_in c3) dX5_meltCuts_29 ?_
        refine V_aload_n hO 0 dX5_meltCuts_30 rfl rfl ?_
        refine V_get hO (v := .ref (α (36 + t))) fl_X5_17 (tw_X5 ht) (fun _ _ => ce_town ht) rfl dX5_meltCuts_31 ?_
        refine V_iload_n hO 3 dX5_meltCuts_34 rfl rfl ?_
        refine V_chk rfl fun c4 => ?_
        refine V_aald hO (tw_darr ht) (fun _ _ => ce_da ht) (inb_in c4) dX5_meltCuts_35 ?_
        refine V_get hO (v := .int (h.1 ((10 * t + (Int32.toNatClampNeg w3))) 0)) fl_X5_85 (Nat.lt_trans (cd_lt ht (inb_in c2)) (by decide)) (fun _ _ => ce_debt (cd_lt ht (inb_in c2))) rfl dX5_meltCuts_36 ?_
        refine V_aload_n hO 0 dX5_meltCuts_39 rfl rfl ?_
        refine V_get hO (v := .ref (α (36 + t))) fl_X5_17 (tw_X5 ht) (fun _ _ => ce_town ht) rfl dX5_meltCuts_40 ?_
        refine V_iload_n hO 3 dX5_meltCuts_43 rfl rfl ?_
        refine V_chk rfl fun c5 => ?_
        refine V_aald hO (tw_darr ht) (fun _ _ => ce_da ht) (inb_in c5) dX5_meltCuts_44 ?_
        refine V_get hO (v := .int (h.1 ((10 * t + (Int32.toNatClampNeg w3))) 5)) fl_X5_60 (Nat.lt_trans (cd_lt ht (inb_in c2)) (by decide)) (fun _ _ => ce_debt (cd_lt ht (inb_in c2))) rfl dX5_meltCuts_45 ?_
        refine V_iload_n hO 1 dX5_meltCuts_48 rfl rfl ?_
        refine V_aload_n hO 0 dX5_meltCuts_49 rfl rfl ?_
        refine V_iload_n hO 3 dX5_meltCuts_50 rfl rfl ?_
        refine V_callV hO ml_X5_49 (C_X5_iceUnder α (t := t) ht w3 h) (tw_X5 ht) (fun _ _ => ce_town ht) rfl rfl (rest := [.int w1, .int (h.1 ((10 * t + (Int32.toNatClampNeg w3))) 5), .int (h.1 ((10 * t + (Int32.toNatClampNeg w3))) 0), .ref (α ((10 * t + (Int32.toNatClampNeg w3))))]) rfl rfl (Nat.le_of_ble_eq_true rfl) ⟨Nat.le_of_ble_eq_true rfl, Nat.le_of_ble_eq_true rfl⟩ dX5_meltCuts_51 (kc_OI rfl fun v6 => ?_)
        refine V_callS hO ml_X5_88 (C_X0_cutBehindThaw α (h.1 ((10 * t + (Int32.toNatClampNeg w3))) 0) (h.1 ((10 * t + (Int32.toNatClampNeg w3))) 5) w1 v6 h) (rest := [.ref (α ((10 * t + (Int32.toNatClampNeg w3))))]) rfl rfl (Nat.le_of_ble_eq_true rfl) ⟨Nat.le_of_ble_eq_true rfl, Nat.le_of_ble_eq_true rfl⟩ dX5_meltCuts_54 (kc_I ?_)
        refine V_puti hO fp_X5_60 (Nat.lt_trans (cd_lt ht (inb_in c2)) (by decide)) (fun _ _ => ce_debt (cd_lt ht (inb_in c2))) (Nat.le_of_ble_eq_true rfl) (fun _ _ => pe_debt5 (cd_lt ht (inb_in c2))) dX5_meltCuts_57 (V_name fun h7 => ?_)
        refine V_iload_n hO 2 dX5_meltCuts_60 rfl rfl ?_
        refine V_aload_n hO 0 dX5_meltCuts_61 rfl rfl ?_
        refine V_get hO (v := .ref (α (36 + t))) fl_X5_17 (tw_X5 ht) (fun _ _ => ce_town ht) rfl dX5_meltCuts_62 ?_
        refine V_iload_n hO 3 dX5_meltCuts_65 rfl rfl ?_
        refine V_chk rfl fun c8 => ?_
        refine V_aald hO (tw_darr ht) (fun _ _ => ce_da ht) (inb_in c8) dX5_meltCuts_66 ?_
        refine V_get hO (v := .int (h7.1 ((10 * t + (Int32.toNatClampNeg w3))) 5)) fl_X5_60 (Nat.lt_trans (cd_lt ht (inb_in c2)) (by decide)) (fun _ _ => ce_debt (cd_lt ht (inb_in c2))) rfl dX5_meltCuts_67 ?_
        refine V_if_ne hO 77 dX5_meltCuts_70 (by decide) ?_ ?_
        · refine V_iconst hO 0 dX5_meltCuts_77 (by decide) ?_
          exact V_sub [0, 1, 3] rfl (T_X5_meltCuts_78 hO hR ht (F_X5_meltCuts_4 t n) ih w1 w3 false w2 h7 )
        · refine V_iconst hO 1 dX5_meltCuts_73 (by decide) ?_
          refine V_goto hO 78 dX5_meltCuts_74 (by decide) ?_
          exact V_sub [0, 1, 3] rfl (T_X5_meltCuts_78 hO hR ht (F_X5_meltCuts_4 t n) ih w1 w3 true w2 h7 )
set_option maxHeartbeats 4000000 in
set_option maxRecDepth 100000 in
theorem T_X5_meltCuts {G : Gm} {α : Nat → Nat} {t : Nat} (hO : Ok G α cX5_meltCuts 4 RX5 2 45) (hR : Rt G α (some .int)) (ht : t < 3) (p1 : Int32) (σ : Hp) : V G α 4 (kSI) 0 [(0, .ref (α (30 + t))), (1, .int p1)] [] σ (F_X5_meltCuts t p1 σ) := by
  rw [F_X5_meltCuts]
  refine V_iconst hO 0 dX5_meltCuts_0 (by decide) ?_
  refine V_istore_n hO (ls2 := [(2, .int 0), (0, .ref (α (30 + t))), (1, .int p1)]) dX5_meltCuts_1 rfl (by decide) rfl ?_
  refine V_iconst hO 0 dX5_meltCuts_2 (by decide) ?_
  refine V_istore_n hO (ls2 := [(3, .int 0), (2, .int 0), (0, .ref (α (30 + t))), (1, .int p1)]) dX5_meltCuts_3 rfl (by decide) rfl ?_
  exact V_sub [2, 3, 1, 0] rfl (T_X5_meltCuts_4 hO hR ht fuel p1 (0 : Int32) (0 : Int32) σ )
set_option maxHeartbeats 4000000 in
set_option maxRecDepth 100000 in
theorem C_X5_meltCuts (α : Nat → Nat) {t : Nat} (ht : t < 3) (p1 : Int32) (σ : Hp) : Ct yX5_meltCuts cX5_meltCuts 4 (some .int) 2 45 α [.ref (α (30 + t)), .int p1] σ (kSI (F_X5_meltCuts t p1 σ)) := ct_of_V (own := RX5) rfl (by decide +kernel) (Nat.le_of_ble_eq_true rfl) fun _ hO hR => T_X5_meltCuts hO hR ht p1 σ
/-! X5_passDay -/
noncomputable def F_X5_passDay_40 (t : Nat) : Nat → Int32 → Int32 → Int32 → Hp → Option (Int32 × Hp)
  | 0, _, _, _, _ => none
  | n + 1, w1, w2, w3, h =>
    if (h.1 (30 + t) 1) ≤ w3 then
    if w1 = (1 : Int32) then
    (F_X5_meltCuts t w2 h).bind fun q1 =>
    some (q1.1, q1.2)
    else
    some ((0 : Int32), h)
    else
    if inb w3 16 = true then
    if inb w3 16 = true then
    lt (up h (33 + t) (Int32.toNatClampNeg w3) (F_X6_iceBehind w1 w2 (h.1 (33 + t) (Int32.toNatClampNeg w3)) h)) fun h4 =>
    F_X5_passDay_40 t n w1 w2 (w3 + 1) h4
    else none
    else none
noncomputable def F_X5_passDay_33 (t : Nat) (w1 : Int32) (w2 : Int32) (h : Hp) : Option (Int32 × Hp) :=
  lt (up h (30 + t) 2 (0 : Int32)) fun h5 =>
  F_X5_passDay_40 t fuel w1 w2 (0 : Int32) h5
noncomputable def F_X5_passDay (t : Nat) (p1 : Int32) (p2 : Int32) (σ : Hp) : Option (Int32 × Hp) :=
  if p1 = (2 : Int32) then
  lt (up σ (30 + t) 2 (imin (9 : Int32) ((σ.1 (30 + t) 2) + (1 : Int32)))) fun h6 =>
  F_X5_passDay_40 t fuel p1 p2 (0 : Int32) h6
  else
  if p1 = (3 : Int32) then
  F_X5_passDay_33 t p1 p2 σ
  else
  if p1 = (1 : Int32) then
  F_X5_passDay_33 t p1 p2 σ
  else
  F_X5_passDay_40 t fuel p1 p2 (0 : Int32) σ
set_option maxHeartbeats 4000000 in
set_option maxRecDepth 100000 in
theorem T_X5_passDay_40 {G : Gm} {α : Nat → Nat} {t : Nat} (hO : Ok G α cX5_passDay 4 RX5 3 68) (hR : Rt G α (some .int)) (ht : t < 3) : ∀ (fuel : Nat) (w1 : Int32) (w2 : Int32) (w3 : Int32) (h : Hp), V G α 4 (kSI) 40 [(0, .ref (α (30 + t))), (1, .int w1), (2, .int w2), (3, .int w3)] [] h (F_X5_passDay_40 t fuel w1 w2 w3 h) := by
  intro fuel
  induction fuel with
  | zero => intro w1 w2 w3 h; exact V_none rfl
  | succ n ih =>
    intro w1 w2 w3 h
    rw [F_X5_passDay_40]
    refine V_iload_n hO 3 dX5_passDay_40 rfl rfl ?_
    refine V_aload_n hO 0 dX5_passDay_41 rfl rfl ?_
    refine V_get hO (v := .int (h.1 (30 + t) 1)) fl_X5_26 (tw_X5 ht) (fun _ _ => ce_town ht) rfl dX5_passDay_42 ?_
    refine V_icmp_ge hO 71 dX5_passDay_45 (by decide) ?_ ?_
    · refine V_iload_n hO 1 dX5_passDay_71 rfl rfl ?_
      refine V_iconst hO 1 dX5_passDay_72 (by decide) ?_
      refine V_icmp_ne hO 84 dX5_passDay_73 (by decide) ?_ ?_
      · refine V_iconst hO 0 dX5_passDay_84 (by decide) ?_
        exact V_iret hO hR rfl dX5_passDay_85
      · refine V_aload_n hO 0 dX5_passDay_76 rfl rfl ?_
        refine V_iload_n hO 2 dX5_passDay_77 rfl rfl ?_
        refine V_callV hO ml_X5_82 (C_X5_meltCuts α (t := t) ht w2 h) (tw_X5 ht) (fun _ _ => ce_town ht) rfl rfl (rest := []) rfl rfl (Nat.le_of_ble_eq_true rfl) ⟨Nat.le_of_ble_eq_true rfl, Nat.le_of_ble_eq_true rfl⟩ dX5_passDay_78 (kc_SI rfl fun q1 => ?_)
        refine V_goto hO 85 dX5_passDay_81 (by decide) ?_
        exact V_iret hO hR rfl dX5_passDay_85
    · refine V_aload_n hO 0 dX5_passDay_48 rfl rfl ?_
      refine V_get hO (v := .ref (α (33 + t))) fl_X5_9 (tw_X5 ht) (fun _ _ => ce_town ht) rfl dX5_passDay_49 ?_
      refine V_iload_n hO 3 dX5_passDay_52 rfl rfl ?_
      refine V_iload_n hO 1 dX5_passDay_53 rfl rfl ?_
      refine V_iload_n hO 2 dX5_passDay_54 rfl rfl ?_
      refine V_aload_n hO 0 dX5_passDay_55 rfl rfl ?_
      refine V_get hO (v := .ref (α (33 + t))) fl_X5_9 (tw_X5 ht) (fun _ _ => ce_town ht) rfl dX5_passDay_56 ?_
      refine V_iload_n hO 3 dX5_passDay_59 rfl rfl ?_
      refine V_chk rfl fun c2 => ?_
      refine V_iald hO (tw_ice ht) (fun _ _ => ce_ice ht) (inb_in c2) dX5_passDay_60 ?_
      refine V_callN hO ml_X5_78 (C_X6_iceBehind α w1 w2 (h.1 (33 + t) (Int32.toNatClampNeg w3)) h) (rest := [.int w3, .ref (α (33 + t))]) rfl rfl (Nat.le_of_ble_eq_true rfl) ⟨Nat.le_of_ble_eq_true rfl, Nat.le_of_ble_eq_true rfl⟩ dX5_passDay_61 (kc_I ?_)
      refine V_chk rfl fun c3 => ?_
      refine V_iast hO (tw_ice ht) (fun _ _ _ => ce_ice ht) (inb_in c3) dX5_passDay_64 (V_name fun h4 => ?_)
      refine V_iinc hO (ls2 := [(3, .int (w3 + 1)), (0, .ref (α (30 + t))), (1, .int w1), (2, .int w2)]) (z := 1) 3 dX5_passDay_65 rfl (by decide) (by decide) rfl ?_
      refine V_goto hO 40 dX5_passDay_68 (by decide) ?_
      exact V_sub [1, 2, 3, 0] rfl (ih w1 w2 (w3 + 1) h4 )
set_option maxHeartbeats 4000000 in
set_option maxRecDepth 100000 in
theorem T_X5_passDay_33 {G : Gm} {α : Nat → Nat} {t : Nat} (hO : Ok G α cX5_passDay 4 RX5 3 68) (hR : Rt G α (some .int)) (ht : t < 3) : ∀ (w1 : Int32) (w2 : Int32) (h : Hp), V G α 4 (kSI) 33 [(0, .ref (α (30 + t))), (1, .int w1), (2, .int w2)] [] h (F_X5_passDay_33 t w1 w2 h) := by
  intro w1 w2 h
  rw [F_X5_passDay_33]
  refine V_aload_n hO 0 dX5_passDay_33 rfl rfl ?_
  refine V_iconst hO 0 dX5_passDay_34 (by decide) ?_
  refine V_puti hO fp_X5_29 (tw_X5 ht) (fun _ _ => ce_town ht) (Nat.le_of_ble_eq_true rfl) (fun _ _ => pe_town2 ht) dX5_passDay_35 (V_name fun h5 => ?_)
  refine V_iconst hO 0 dX5_passDay_38 (by decide) ?_
  refine V_istore_n hO (ls2 := [(3, .int 0), (0, .ref (α (30 + t))), (1, .int w1), (2, .int w2)]) dX5_passDay_39 rfl (by decide) rfl ?_
  exact V_sub [1, 2, 3, 0] rfl (T_X5_passDay_40 hO hR ht fuel w1 w2 (0 : Int32) h5 )
set_option maxHeartbeats 4000000 in
set_option maxRecDepth 100000 in
theorem T_X5_passDay {G : Gm} {α : Nat → Nat} {t : Nat} (hO : Ok G α cX5_passDay 4 RX5 3 68) (hR : Rt G α (some .int)) (ht : t < 3) (p1 : Int32) (p2 : Int32) (σ : Hp) : V G α 4 (kSI) 0 [(0, .ref (α (30 + t))), (1, .int p1), (2, .int p2)] [] σ (F_X5_passDay t p1 p2 σ) := by
  rw [F_X5_passDay]
  refine V_iload_n hO 1 dX5_passDay_0 rfl rfl ?_
  refine V_iconst hO 2 dX5_passDay_1 (by decide) ?_
  refine V_icmp_ne hO 23 dX5_passDay_2 (by decide) ?_ ?_
  · refine V_iload_n hO 1 dX5_passDay_23 rfl rfl ?_
    refine V_iconst hO 3 dX5_passDay_24 (by decide) ?_
    refine V_icmp_eq hO 33 dX5_passDay_25 (by decide) ?_ ?_
    · exact V_sub [0, 1, 2] rfl (T_X5_passDay_33 hO hR ht p1 p2 σ )
    · refine V_iload_n hO 1 dX5_passDay_28 rfl rfl ?_
      refine V_iconst hO 1 dX5_passDay_29 (by decide) ?_
      refine V_icmp_ne hO 38 dX5_passDay_30 (by decide) ?_ ?_
      · refine V_iconst hO 0 dX5_passDay_38 (by decide) ?_
        refine V_istore_n hO (ls2 := [(3, .int 0), (0, .ref (α (30 + t))), (1, .int p1), (2, .int p2)]) dX5_passDay_39 rfl (by decide) rfl ?_
        exact V_sub [1, 2, 3, 0] rfl (T_X5_passDay_40 hO hR ht fuel p1 p2 (0 : Int32) σ )
      · exact V_sub [0, 1, 2] rfl (T_X5_passDay_33 hO hR ht p1 p2 σ )
  · refine V_aload_n hO 0 dX5_passDay_5 rfl rfl ?_
    refine V_bipush hO 9 dX5_passDay_6 (by decide) ?_
    refine V_aload_n hO 0 dX5_passDay_8 rfl rfl ?_
    refine V_get hO (v := .int (σ.1 (30 + t) 2)) fl_X5_29 (tw_X5 ht) (fun _ _ => ce_town ht) rfl dX5_passDay_9 ?_
    refine V_iconst hO 1 dX5_passDay_12 (by decide) ?_
    refine V_iadd hO dX5_passDay_13 ?_
    refine V_mmin hO mm_X5_72 (Nat.le_of_ble_eq_true rfl) ⟨by decide, by decide⟩ dX5_passDay_14 ?_
    refine V_puti hO fp_X5_29 (tw_X5 ht) (fun _ _ => ce_town ht) (Nat.le_of_ble_eq_true rfl) (fun _ _ => pe_town2 ht) dX5_passDay_17 (V_name fun h6 => ?_)
    refine V_goto hO 38 dX5_passDay_20 (by decide) ?_
    refine V_iconst hO 0 dX5_passDay_38 (by decide) ?_
    refine V_istore_n hO (ls2 := [(3, .int 0), (0, .ref (α (30 + t))), (1, .int p1), (2, .int p2)]) dX5_passDay_39 rfl (by decide) rfl ?_
    exact V_sub [1, 2, 3, 0] rfl (T_X5_passDay_40 hO hR ht fuel p1 p2 (0 : Int32) h6 )
set_option maxHeartbeats 4000000 in
set_option maxRecDepth 100000 in
theorem C_X5_passDay (α : Nat → Nat) {t : Nat} (ht : t < 3) (p1 : Int32) (p2 : Int32) (σ : Hp) : Ct yX5_passDay cX5_passDay 4 (some .int) 3 68 α [.ref (α (30 + t)), .int p1, .int p2] σ (kSI (F_X5_passDay t p1 p2 σ)) := ct_of_V (own := RX5) rfl (by decide +kernel) (Nat.le_of_ble_eq_true rfl) fun _ hO hR => T_X5_passDay hO hR ht p1 p2 σ
/-! X6_within -/
noncomputable def F_X6_within  (p1 : Int32) (p2 : Int32) (p3 : Int32) (σ : Hp) : Bool :=
  if p1 < p2 then
  false
  else
  if p3 < p1 then
  false
  else
  true
set_option maxHeartbeats 4000000 in
set_option maxRecDepth 100000 in
theorem T_X6_within {G : Gm} {α : Nat → Nat} (hO : Ok G α cX6_within 3 RX6 0 0) (hR : Rt G α (some .boolean)) (p1 : Int32) (p2 : Int32) (p3 : Int32) (σ : Hp) : V G α 3 (kZ σ) 0 [(0, .int p1), (1, .int p2), (2, .int p3)] [] σ (F_X6_within p1 p2 p3 σ) := by
  rw [F_X6_within]
  refine V_iload_n hO 0 dX6_within_0 rfl rfl ?_
  refine V_iload_n hO 1 dX6_within_1 rfl rfl ?_
  refine V_icmp_lt hO 14 dX6_within_2 (by decide) ?_ ?_
  · refine V_iconst hO 0 dX6_within_14 (by decide) ?_
    exact V_zret hO hR (by decide) rfl dX6_within_15
  · refine V_iload_n hO 0 dX6_within_5 rfl rfl ?_
    refine V_iload_n hO 2 dX6_within_6 rfl rfl ?_
    refine V_icmp_gt hO 14 dX6_within_7 (by decide) ?_ ?_
    · refine V_iconst hO 0 dX6_within_14 (by decide) ?_
      exact V_zret hO hR (by decide) rfl dX6_within_15
    · refine V_iconst hO 1 dX6_within_10 (by decide) ?_
      refine V_goto hO 15 dX6_within_11 (by decide) ?_
      exact V_zret hO hR (by decide) rfl dX6_within_15
set_option maxHeartbeats 4000000 in
set_option maxRecDepth 100000 in
theorem C_X6_within (α : Nat → Nat) (p1 : Int32) (p2 : Int32) (p3 : Int32) (σ : Hp) : Ct yX6_within cX6_within 3 (some .boolean) 0 0 α [.int p1, .int p2, .int p3] σ (kZ σ (F_X6_within p1 p2 p3 σ)) := ct_of_V (own := RX6) rfl (by decide +kernel) (Nat.le_of_ble_eq_true rfl) fun _ hO hR => T_X6_within hO hR p1 p2 p3 σ
/-! X6_lake -/
noncomputable def F_X6_lake  (p1 : Int32) (p2 : Int32) (σ : Hp) : Option (Int32 × Hp) :=
  if (F_X6_within p1 (2 : Int32) (4 : Int32) σ) = true then
  if (F_X6_within p2 (2 : Int32) (4 : Int32) σ) = true then
  (F_X5_begin 0 p1 p2 σ).bind fun q1 =>
  lt (up q1 54 7 (0 : Int32)) fun h2 =>
  some ((h2.1 30 1), h2)
  else
  some (((-102) : Int32), σ)
  else
  some (((-102) : Int32), σ)
set_option maxHeartbeats 4000000 in
set_option maxRecDepth 100000 in
theorem T_X6_lake {G : Gm} {α : Nat → Nat} (hO : Ok G α cX6_lake 3 RX6 1 23) (hR : Rt G α (some .int)) (p1 : Int32) (p2 : Int32) (σ : Hp) : V G α 3 (kSI) 0 [(0, .ref (α (54))), (1, .int p1), (2, .int p2)] [] σ (F_X6_lake p1 p2 σ) := by
  rw [F_X6_lake]
  refine V_iload_n hO 1 dX6_lake_0 rfl rfl ?_
  refine V_iconst hO 2 dX6_lake_1 (by decide) ?_
  refine V_iconst hO 4 dX6_lake_2 (by decide) ?_
  refine V_callS hO ml_X6_54 (C_X6_within α p1 (2 : Int32) (4 : Int32) σ) (rest := []) rfl rfl (Nat.le_of_ble_eq_true rfl) ⟨Nat.le_of_ble_eq_true rfl, Nat.le_of_ble_eq_true rfl⟩ dX6_lake_3 (kc_Z ?_)
  refine V_ifeqZ hO 18 dX6_lake_6 (by decide) ?_ ?_
  · refine V_bipush hO (-102) dX6_lake_18 (by decide) ?_
    exact V_iret hO hR rfl dX6_lake_20
  · refine V_iload_n hO 2 dX6_lake_9 rfl rfl ?_
    refine V_iconst hO 2 dX6_lake_10 (by decide) ?_
    refine V_iconst hO 4 dX6_lake_11 (by decide) ?_
    refine V_callS hO ml_X6_54 (C_X6_within α p2 (2 : Int32) (4 : Int32) σ) (rest := []) rfl rfl (Nat.le_of_ble_eq_true rfl) ⟨Nat.le_of_ble_eq_true rfl, Nat.le_of_ble_eq_true rfl⟩ dX6_lake_12 (kc_Z ?_)
    refine V_ifneZ hO 21 dX6_lake_15 (by decide) ?_ ?_
    · refine V_aload_n hO 0 dX6_lake_21 rfl rfl ?_
      refine V_get hO (v := .ref (α (30))) fl_X6_10 (by decide) (fun _ _ => ce_54) rfl dX6_lake_22 ?_
      refine V_iload_n hO 1 dX6_lake_25 rfl rfl ?_
      refine V_iload_n hO 2 dX6_lake_26 rfl rfl ?_
      refine V_callV hO ml_X6_50 (C_X5_begin α (t := 0) (by decide) p1 p2 σ) (by decide) (fun _ _ => ce_town (t := 0) (by decide)) rfl rfl (rest := []) rfl rfl (Nat.le_of_ble_eq_true rfl) ⟨Nat.le_of_ble_eq_true rfl, Nat.le_of_ble_eq_true rfl⟩ dX6_lake_27 (kc_SV rfl fun q1 => ?_)
      refine V_aload_n hO 0 dX6_lake_30 rfl rfl ?_
      refine V_iconst hO 0 dX6_lake_31 (by decide) ?_
      refine V_putz hO fp_X6_58 (by decide) (fun _ _ => ce_54) (Nat.le_of_ble_eq_true rfl) (by decide) (fun _ _ => pe_54_7) dX6_lake_32 (V_name fun h2 => ?_)
      refine V_aload_n hO 0 dX6_lake_35 rfl rfl ?_
      refine V_get hO (v := .ref (α (30))) fl_X6_10 (by decide) (fun _ _ => ce_54) rfl dX6_lake_36 ?_
      refine V_get hO (v := .int (h2.1 30 1)) fl_X6_62 (by decide) (fun _ _ => ce_town (t := 0) (by decide)) rfl dX6_lake_39 ?_
      exact V_iret hO hR rfl dX6_lake_42
    · refine V_bipush hO (-102) dX6_lake_18 (by decide) ?_
      exact V_iret hO hR rfl dX6_lake_20
set_option maxHeartbeats 4000000 in
set_option maxRecDepth 100000 in
theorem C_X6_lake (α : Nat → Nat) (p1 : Int32) (p2 : Int32) (σ : Hp) : Ct yX6_lake cX6_lake 3 (some .int) 1 23 α [.ref (α (54)), .int p1, .int p2] σ (kSI (F_X6_lake p1 p2 σ)) := ct_of_V (own := RX6) rfl (by decide +kernel) (Nat.le_of_ble_eq_true rfl) fun _ hO hR => T_X6_lake hO hR p1 p2 σ
/-! X6_ice -/
noncomputable def F_X6_ice  (p1 : Int32) (p2 : Int32) (σ : Hp) : Option (Int32 × Hp) :=
  if (F_X5_hasSquare 0 p1 σ) = true then
  if (F_X6_within p2 (0 : Int32) (99 : Int32) σ) = true then
  (F_X5_debtsThereIn 0 p1 σ).bind fun v1 =>
  if v1 ≤ 0 then
  if inb p1 16 = true then
  lt (σ.1 33 (Int32.toNatClampNeg p1)) fun v3 =>
  if inb p1 16 = true then
  lt (up σ 33 (Int32.toNatClampNeg p1) p2) fun h5 =>
  some (v3, h5)
  else none
  else none
  else
  some (((-103) : Int32), σ)
  else
  some (((-102) : Int32), σ)
  else
  some (((-101) : Int32), σ)
set_option maxHeartbeats 4000000 in
set_option maxRecDepth 100000 in
theorem T_X6_ice {G : Gm} {α : Nat → Nat} (hO : Ok G α cX6_ice 4 RX6 2 43) (hR : Rt G α (some .int)) (p1 : Int32) (p2 : Int32) (σ : Hp) : V G α 4 (kSI) 0 [(0, .ref (α (54))), (1, .int p1), (2, .int p2)] [] σ (F_X6_ice p1 p2 σ) := by
  rw [F_X6_ice]
  refine V_aload_n hO 0 dX6_ice_0 rfl rfl ?_
  refine V_get hO (v := .ref (α (30))) fl_X6_10 (by decide) (fun _ _ => ce_54) rfl dX6_ice_1 ?_
  refine V_iload_n hO 1 dX6_ice_4 rfl rfl ?_
  refine V_callV hO ml_X6_66 (C_X5_hasSquare α (t := 0) (by decide) p1 σ) (by decide) (fun _ _ => ce_town (t := 0) (by decide)) rfl rfl (rest := []) rfl rfl (Nat.le_of_ble_eq_true rfl) ⟨Nat.le_of_ble_eq_true rfl, Nat.le_of_ble_eq_true rfl⟩ dX6_ice_5 (kc_Z ?_)
  refine V_ifneZ hO 14 dX6_ice_8 (by decide) ?_ ?_
  · refine V_iload_n hO 2 dX6_ice_14 rfl rfl ?_
    refine V_iconst hO 0 dX6_ice_15 (by decide) ?_
    refine V_bipush hO 99 dX6_ice_16 (by decide) ?_
    refine V_callS hO ml_X6_54 (C_X6_within α p2 (0 : Int32) (99 : Int32) σ) (rest := []) rfl rfl (Nat.le_of_ble_eq_true rfl) ⟨Nat.le_of_ble_eq_true rfl, Nat.le_of_ble_eq_true rfl⟩ dX6_ice_18 (kc_Z ?_)
    refine V_ifneZ hO 27 dX6_ice_21 (by decide) ?_ ?_
    · refine V_aload_n hO 0 dX6_ice_27 rfl rfl ?_
      refine V_get hO (v := .ref (α (30))) fl_X6_10 (by decide) (fun _ _ => ce_54) rfl dX6_ice_28 ?_
      refine V_iload_n hO 1 dX6_ice_31 rfl rfl ?_
      refine V_callV hO ml_X6_70 (C_X5_debtsThereIn α (t := 0) (by decide) p1 σ) (by decide) (fun _ _ => ce_town (t := 0) (by decide)) rfl rfl (rest := []) rfl rfl (Nat.le_of_ble_eq_true rfl) ⟨Nat.le_of_ble_eq_true rfl, Nat.le_of_ble_eq_true rfl⟩ dX6_ice_32 (kc_OI rfl fun v1 => ?_)
      refine V_if_le hO 41 dX6_ice_35 (by decide) ?_ ?_
      · refine V_aload_n hO 0 dX6_ice_41 rfl rfl ?_
        refine V_get hO (v := .ref (α (30))) fl_X6_10 (by decide) (fun _ _ => ce_54) rfl dX6_ice_42 ?_
        refine V_get hO (v := .ref (α (33))) fl_X6_74 (by decide) (fun _ _ => ce_town (t := 0) (by decide)) rfl dX6_ice_45 ?_
        refine V_iload_n hO 1 dX6_ice_48 rfl rfl ?_
        refine V_chk rfl fun c2 => ?_
        refine V_iald hO (by decide) (fun _ _ => ce_ice (t := 0) (by decide)) (inb_in c2) dX6_ice_49 ?_
        refine V_istore_nN hO (ls2 := fun v3 => [(3, .int v3), (0, .ref (α (54))), (1, .int p1), (2, .int p2)]) dX6_ice_50 rfl (by decide) (fun _ => rfl) (fun v3 => ?_)
        refine V_aload_n hO 1 dX6_ice_51 rfl rfl ?_
        refine V_get hO (v := .ref (α (30))) fl_X6_10 (by decide) (fun _ _ => ce_54) rfl dX6_ice_52 ?_
        refine V_get hO (v := .ref (α (33))) fl_X6_74 (by decide) (fun _ _ => ce_town (t := 0) (by decide)) rfl dX6_ice_55 ?_
        refine V_iload_n hO 2 dX6_ice_58 rfl rfl ?_
        refine V_iload_n hO 3 dX6_ice_59 rfl rfl ?_
        refine V_chk rfl fun c4 => ?_
        refine V_iast hO (by decide) (fun _ _ _ => ce_ice (t := 0) (by decide)) (inb_in c4) dX6_ice_60 (V_name fun h5 => ?_)
        refine V_iload_n hO 0 dX6_ice_61 rfl rfl ?_
        exact V_iret hO hR rfl dX6_ice_62
      · refine V_bipush hO (-103) dX6_ice_38 (by decide) ?_
        exact V_iret hO hR rfl dX6_ice_40
    · refine V_bipush hO (-102) dX6_ice_24 (by decide) ?_
      exact V_iret hO hR rfl dX6_ice_26
  · refine V_bipush hO (-101) dX6_ice_11 (by decide) ?_
    exact V_iret hO hR rfl dX6_ice_13
set_option maxHeartbeats 4000000 in
set_option maxRecDepth 100000 in
theorem C_X6_ice (α : Nat → Nat) (p1 : Int32) (p2 : Int32) (σ : Hp) : Ct yX6_ice cX6_ice 4 (some .int) 2 43 α [.ref (α (54)), .int p1, .int p2] σ (kSI (F_X6_ice p1 p2 σ)) := ct_of_V (own := RX6) rfl (by decide +kernel) (Nat.le_of_ble_eq_true rfl) fun _ hO hR => T_X6_ice hO hR p1 p2 σ
/-! X6_square -/
noncomputable def F_X6_square  (p1 : Int32) (p2 : Int32) (σ : Hp) : Option Int32 :=
  if (F_X5_hasSquare 0 p1 σ) = true then
  if p2 = 0 then
  if inb p1 16 = true then
  some (σ.1 33 (Int32.toNatClampNeg p1))
  else none
  else if p2 = 1 then
  some (σ.1 30 2)
  else if p2 = 2 then
  (F_X5_debtsThereIn 0 p1 σ).bind fun v6 =>
  some v6
  else if p2 = 3 then
  if inb p1 16 = true then
  if (σ.1 33 (Int32.toNatClampNeg p1)) < (4 : Int32) then
  some (0 : Int32)
  else
  some (1 : Int32)
  else none
  else 
  some ((-102) : Int32)
  else
  some ((-101) : Int32)
set_option maxHeartbeats 4000000 in
set_option maxRecDepth 100000 in
theorem T_X6_square {G : Gm} {α : Nat → Nat} (hO : Ok G α cX6_square 3 RX6 2 43) (hR : Rt G α (some .int)) (p1 : Int32) (p2 : Int32) (σ : Hp) : V G α 3 (kOI σ) 0 [(0, .ref (α (54))), (1, .int p1), (2, .int p2)] [] σ (F_X6_square p1 p2 σ) := by
  rw [F_X6_square]
  refine V_aload_n hO 0 dX6_square_0 rfl rfl ?_
  refine V_get hO (v := .ref (α (30))) fl_X6_10 (by decide) (fun _ _ => ce_54) rfl dX6_square_1 ?_
  refine V_iload_n hO 1 dX6_square_4 rfl rfl ?_
  refine V_callV hO ml_X6_66 (C_X5_hasSquare α (t := 0) (by decide) p1 σ) (by decide) (fun _ _ => ce_town (t := 0) (by decide)) rfl rfl (rest := []) rfl rfl (Nat.le_of_ble_eq_true rfl) ⟨Nat.le_of_ble_eq_true rfl, Nat.le_of_ble_eq_true rfl⟩ dX6_square_5 (kc_Z ?_)
  refine V_ifneZ hO 14 dX6_square_8 (by decide) ?_ ?_
  · refine V_iload_n hO 2 dX6_square_14 rfl rfl ?_
    refine V_case (fun c2 => ?_) (fun n3 => ?_)
    · refine V_tsIn hO (off := 29) 44 dX6_square_15 (by rw [c2]; decide) (by rw [c2]; decide) (by rw [c2]; first | done | rfl | decide) (by decide) ?_
      refine V_aload_n hO 0 dX6_square_44 rfl rfl ?_
      refine V_get hO (v := .ref (α (30))) fl_X6_10 (by decide) (fun _ _ => ce_54) rfl dX6_square_45 ?_
      refine V_get hO (v := .ref (α (33))) fl_X6_74 (by decide) (fun _ _ => ce_town (t := 0) (by decide)) rfl dX6_square_48 ?_
      refine V_iload_n hO 1 dX6_square_51 rfl rfl ?_
      refine V_chk rfl fun c1 => ?_
      refine V_iald hO (by decide) (fun _ _ => ce_ice (t := 0) (by decide)) (inb_in c1) dX6_square_52 ?_
      exact V_iret hO hR rfl dX6_square_53
    refine V_case (fun c4 => ?_) (fun n5 => ?_)
    · refine V_tsIn hO (off := 39) 54 dX6_square_15 (by rw [c4]; decide) (by rw [c4]; decide) (by rw [c4]; first | done | rfl | decide) (by decide) ?_
      refine V_aload_n hO 0 dX6_square_54 rfl rfl ?_
      refine V_get hO (v := .ref (α (30))) fl_X6_10 (by decide) (fun _ _ => ce_54) rfl dX6_square_55 ?_
      refine V_get hO (v := .int (σ.1 30 2)) fl_X6_78 (by decide) (fun _ _ => ce_town (t := 0) (by decide)) rfl dX6_square_58 ?_
      exact V_iret hO hR rfl dX6_square_61
    refine V_case (fun c7 => ?_) (fun n8 => ?_)
    · refine V_tsIn hO (off := 47) 62 dX6_square_15 (by rw [c7]; decide) (by rw [c7]; decide) (by rw [c7]; first | done | rfl | decide) (by decide) ?_
      refine V_aload_n hO 0 dX6_square_62 rfl rfl ?_
      refine V_get hO (v := .ref (α (30))) fl_X6_10 (by decide) (fun _ _ => ce_54) rfl dX6_square_63 ?_
      refine V_iload_n hO 1 dX6_square_66 rfl rfl ?_
      refine V_callV hO ml_X6_70 (C_X5_debtsThereIn α (t := 0) (by decide) p1 σ) (by decide) (fun _ _ => ce_town (t := 0) (by decide)) rfl rfl (rest := []) rfl rfl (Nat.le_of_ble_eq_true rfl) ⟨Nat.le_of_ble_eq_true rfl, Nat.le_of_ble_eq_true rfl⟩ dX6_square_67 (kc_OI rfl fun v6 => ?_)
      exact V_iret hO hR rfl dX6_square_70
    refine V_case (fun c10 => ?_) (fun n11 => ?_)
    · refine V_tsIn hO (off := 56) 71 dX6_square_15 (by rw [c10]; decide) (by rw [c10]; decide) (by rw [c10]; first | done | rfl | decide) (by decide) ?_
      refine V_aload_n hO 0 dX6_square_71 rfl rfl ?_
      refine V_get hO (v := .ref (α (30))) fl_X6_10 (by decide) (fun _ _ => ce_54) rfl dX6_square_72 ?_
      refine V_get hO (v := .ref (α (33))) fl_X6_74 (by decide) (fun _ _ => ce_town (t := 0) (by decide)) rfl dX6_square_75 ?_
      refine V_iload_n hO 1 dX6_square_78 rfl rfl ?_
      refine V_chk rfl fun c9 => ?_
      refine V_iald hO (by decide) (fun _ _ => ce_ice (t := 0) (by decide)) (inb_in c9) dX6_square_79 ?_
      refine V_iconst hO 4 dX6_square_80 (by decide) ?_
      refine V_icmp_lt hO 88 dX6_square_81 (by decide) ?_ ?_
      · refine V_iconst hO 0 dX6_square_88 (by decide) ?_
        exact V_iret hO hR rfl dX6_square_89
      · refine V_iconst hO 1 dX6_square_84 (by decide) ?_
        refine V_goto hO 89 dX6_square_85 (by decide) ?_
        exact V_iret hO hR rfl dX6_square_89
    refine V_tsOut hO 90 dX6_square_15 (by have h9 := ts_out 4 (p9_ts (lt_s (lt_s (lt_s (lt_s lt_0 n3) n5) n8) n11)) (by decide); omega) (by decide) ?_
    refine V_bipush hO (-102) dX6_square_90 (by decide) ?_
    exact V_iret hO hR rfl dX6_square_92
  · refine V_bipush hO (-101) dX6_square_11 (by decide) ?_
    exact V_iret hO hR rfl dX6_square_13
set_option maxHeartbeats 4000000 in
set_option maxRecDepth 100000 in
theorem C_X6_square (α : Nat → Nat) (p1 : Int32) (p2 : Int32) (σ : Hp) : Ct yX6_square cX6_square 3 (some .int) 2 43 α [.ref (α (54)), .int p1, .int p2] σ (kOI σ (F_X6_square p1 p2 σ)) := ct_of_V (own := RX6) rfl (by decide +kernel) (Nat.le_of_ble_eq_true rfl) fun _ hO hR => T_X6_square hO hR p1 p2 σ
/-! X6_fish -/
noncomputable def F_X6_fish  (p1 : Int32) (σ : Hp) : Option (Int32 × Hp) :=
  if (F_X5_hasSquare 0 p1 σ) = true then
  if inb p1 16 = true then
  if (σ.1 33 (Int32.toNatClampNeg p1)) = 0 then
  some (((-103) : Int32), σ)
  else
  (F_X5_makeHole 0 p1 σ).bind fun q2 =>
  some (q2.1, q2.2)
  else none
  else
  some (((-101) : Int32), σ)
set_option maxHeartbeats 4000000 in
set_option maxRecDepth 100000 in
theorem T_X6_fish {G : Gm} {α : Nat → Nat} (hO : Ok G α cX6_fish 2 RX6 2 43) (hR : Rt G α (some .int)) (p1 : Int32) (σ : Hp) : V G α 2 (kSI) 0 [(0, .ref (α (54))), (1, .int p1)] [] σ (F_X6_fish p1 σ) := by
  rw [F_X6_fish]
  refine V_aload_n hO 0 dX6_fish_0 rfl rfl ?_
  refine V_get hO (v := .ref (α (30))) fl_X6_10 (by decide) (fun _ _ => ce_54) rfl dX6_fish_1 ?_
  refine V_iload_n hO 1 dX6_fish_4 rfl rfl ?_
  refine V_callV hO ml_X6_66 (C_X5_hasSquare α (t := 0) (by decide) p1 σ) (by decide) (fun _ _ => ce_town (t := 0) (by decide)) rfl rfl (rest := []) rfl rfl (Nat.le_of_ble_eq_true rfl) ⟨Nat.le_of_ble_eq_true rfl, Nat.le_of_ble_eq_true rfl⟩ dX6_fish_5 (kc_Z ?_)
  refine V_ifneZ hO 14 dX6_fish_8 (by decide) ?_ ?_
  · refine V_aload_n hO 0 dX6_fish_14 rfl rfl ?_
    refine V_get hO (v := .ref (α (30))) fl_X6_10 (by decide) (fun _ _ => ce_54) rfl dX6_fish_15 ?_
    refine V_get hO (v := .ref (α (33))) fl_X6_74 (by decide) (fun _ _ => ce_town (t := 0) (by decide)) rfl dX6_fish_18 ?_
    refine V_iload_n hO 1 dX6_fish_21 rfl rfl ?_
    refine V_chk rfl fun c1 => ?_
    refine V_iald hO (by decide) (fun _ _ => ce_ice (t := 0) (by decide)) (inb_in c1) dX6_fish_22 ?_
    refine V_if_ne hO 29 dX6_fish_23 (by decide) ?_ ?_
    · refine V_aload_n hO 0 dX6_fish_29 rfl rfl ?_
      refine V_get hO (v := .ref (α (30))) fl_X6_10 (by decide) (fun _ _ => ce_54) rfl dX6_fish_30 ?_
      refine V_iload_n hO 1 dX6_fish_33 rfl rfl ?_
      refine V_callV hO ml_X6_81 (C_X5_makeHole α (t := 0) (by decide) p1 σ) (by decide) (fun _ _ => ce_town (t := 0) (by decide)) rfl rfl (rest := []) rfl rfl (Nat.le_of_ble_eq_true rfl) ⟨Nat.le_of_ble_eq_true rfl, Nat.le_of_ble_eq_true rfl⟩ dX6_fish_34 (kc_SI rfl fun q2 => ?_)
      exact V_iret hO hR rfl dX6_fish_37
    · refine V_bipush hO (-103) dX6_fish_26 (by decide) ?_
      exact V_iret hO hR rfl dX6_fish_28
  · refine V_bipush hO (-101) dX6_fish_11 (by decide) ?_
    exact V_iret hO hR rfl dX6_fish_13
set_option maxHeartbeats 4000000 in
set_option maxRecDepth 100000 in
theorem C_X6_fish (α : Nat → Nat) (p1 : Int32) (σ : Hp) : Ct yX6_fish cX6_fish 2 (some .int) 2 43 α [.ref (α (54)), .int p1] σ (kSI (F_X6_fish p1 σ)) := ct_of_V (own := RX6) rfl (by decide +kernel) (Nat.le_of_ble_eq_true rfl) fun _ hO hR => T_X6_fish hO hR p1 σ
/-! X6_isPerson -/
noncomputable def F_X6_isPerson  (p1 : Int32) (σ : Hp) : Bool :=
  (F_X6_within p1 (0 : Int32) (5 : Int32) σ)
set_option maxHeartbeats 4000000 in
set_option maxRecDepth 100000 in
theorem T_X6_isPerson {G : Gm} {α : Nat → Nat} (hO : Ok G α cX6_isPerson 1 RX6 1 22) (hR : Rt G α (some .boolean)) (p1 : Int32) (σ : Hp) : V G α 1 (kZ σ) 0 [(0, .int p1)] [] σ (F_X6_isPerson p1 σ) := by
  rw [F_X6_isPerson]
  refine V_iload_n hO 0 dX6_isPerson_0 rfl rfl ?_
  refine V_iconst hO 0 dX6_isPerson_1 (by decide) ?_
  refine V_iconst hO 5 dX6_isPerson_2 (by decide) ?_
  refine V_callS hO ml_X6_54 (C_X6_within α p1 (0 : Int32) (5 : Int32) σ) (rest := []) rfl rfl (Nat.le_of_ble_eq_true rfl) ⟨Nat.le_of_ble_eq_true rfl, Nat.le_of_ble_eq_true rfl⟩ dX6_isPerson_3 (kc_Z ?_)
  exact V_zret hO hR (b2i_01 _) rfl dX6_isPerson_6
set_option maxHeartbeats 4000000 in
set_option maxRecDepth 100000 in
theorem C_X6_isPerson (α : Nat → Nat) (p1 : Int32) (σ : Hp) : Ct yX6_isPerson cX6_isPerson 1 (some .boolean) 1 22 α [.int p1] σ (kZ σ (F_X6_isPerson p1 σ)) := ct_of_V (own := RX6) rfl (by decide +kernel) (Nat.le_of_ble_eq_true rfl) fun _ hO hR => T_X6_isPerson hO hR p1 σ
/-! X6_arePair -/
noncomputable def F_X6_arePair  (p1 : Int32) (p2 : Int32) (σ : Hp) : Bool :=
  if (F_X6_isPerson p1 σ) = true then
  if (F_X6_isPerson p2 σ) = true then
  if p1 = p2 then
  false
  else
  true
  else
  false
  else
  false
set_option maxHeartbeats 4000000 in
set_option maxRecDepth 100000 in
theorem T_X6_arePair {G : Gm} {α : Nat → Nat} (hO : Ok G α cX6_arePair 2 RX6 2 42) (hR : Rt G α (some .boolean)) (p1 : Int32) (p2 : Int32) (σ : Hp) : V G α 2 (kZ σ) 0 [(0, .int p1), (1, .int p2)] [] σ (F_X6_arePair p1 p2 σ) := by
  rw [F_X6_arePair]
  refine V_iload_n hO 0 dX6_arePair_0 rfl rfl ?_
  refine V_callS hO ml_X6_195 (C_X6_isPerson α p1 σ) (rest := []) rfl rfl (Nat.le_of_ble_eq_true rfl) ⟨Nat.le_of_ble_eq_true rfl, Nat.le_of_ble_eq_true rfl⟩ dX6_arePair_1 (kc_Z ?_)
  refine V_ifeqZ hO 23 dX6_arePair_4 (by decide) ?_ ?_
  · refine V_iconst hO 0 dX6_arePair_23 (by decide) ?_
    exact V_zret hO hR (by decide) rfl dX6_arePair_24
  · refine V_iload_n hO 1 dX6_arePair_7 rfl rfl ?_
    refine V_callS hO ml_X6_195 (C_X6_isPerson α p2 σ) (rest := []) rfl rfl (Nat.le_of_ble_eq_true rfl) ⟨Nat.le_of_ble_eq_true rfl, Nat.le_of_ble_eq_true rfl⟩ dX6_arePair_8 (kc_Z ?_)
    refine V_ifeqZ hO 23 dX6_arePair_11 (by decide) ?_ ?_
    · refine V_iconst hO 0 dX6_arePair_23 (by decide) ?_
      exact V_zret hO hR (by decide) rfl dX6_arePair_24
    · refine V_iload_n hO 0 dX6_arePair_14 rfl rfl ?_
      refine V_iload_n hO 1 dX6_arePair_15 rfl rfl ?_
      refine V_icmp_eq hO 23 dX6_arePair_16 (by decide) ?_ ?_
      · refine V_iconst hO 0 dX6_arePair_23 (by decide) ?_
        exact V_zret hO hR (by decide) rfl dX6_arePair_24
      · refine V_iconst hO 1 dX6_arePair_19 (by decide) ?_
        refine V_goto hO 24 dX6_arePair_20 (by decide) ?_
        exact V_zret hO hR (by decide) rfl dX6_arePair_24
set_option maxHeartbeats 4000000 in
set_option maxRecDepth 100000 in
theorem C_X6_arePair (α : Nat → Nat) (p1 : Int32) (p2 : Int32) (σ : Hp) : Ct yX6_arePair cX6_arePair 2 (some .boolean) 2 42 α [.int p1, .int p2] σ (kZ σ (F_X6_arePair p1 p2 σ)) := ct_of_V (own := RX6) rfl (by decide +kernel) (Nat.le_of_ble_eq_true rfl) fun _ hO hR => T_X6_arePair hO hR p1 p2 σ
/-! X6_isKind -/
noncomputable def F_X6_isKind  (p1 : Int32) (σ : Hp) : Bool :=
  (F_X6_within p1 (0 : Int32) (4 : Int32) σ)
set_option maxHeartbeats 4000000 in
set_option maxRecDepth 100000 in
theorem T_X6_isKind {G : Gm} {α : Nat → Nat} (hO : Ok G α cX6_isKind 1 RX6 1 22) (hR : Rt G α (some .boolean)) (p1 : Int32) (σ : Hp) : V G α 1 (kZ σ) 0 [(0, .int p1)] [] σ (F_X6_isKind p1 σ) := by
  rw [F_X6_isKind]
  refine V_iload_n hO 0 dX6_isKind_0 rfl rfl ?_
  refine V_iconst hO 0 dX6_isKind_1 (by decide) ?_
  refine V_iconst hO 4 dX6_isKind_2 (by decide) ?_
  refine V_callS hO ml_X6_54 (C_X6_within α p1 (0 : Int32) (4 : Int32) σ) (rest := []) rfl rfl (Nat.le_of_ble_eq_true rfl) ⟨Nat.le_of_ble_eq_true rfl, Nat.le_of_ble_eq_true rfl⟩ dX6_isKind_3 (kc_Z ?_)
  exact V_zret hO hR (b2i_01 _) rfl dX6_isKind_6
set_option maxHeartbeats 4000000 in
set_option maxRecDepth 100000 in
theorem C_X6_isKind (α : Nat → Nat) (p1 : Int32) (σ : Hp) : Ct yX6_isKind cX6_isKind 1 (some .boolean) 1 22 α [.int p1] σ (kZ σ (F_X6_isKind p1 σ)) := ct_of_V (own := RX6) rfl (by decide +kernel) (Nat.le_of_ble_eq_true rfl) fun _ hO hR => T_X6_isKind hO hR p1 σ
