/-! X7_groupsOf -/
noncomputable def F_X7_groupsOf_63 (k37 : Int32 → Int32 → Int32 → Hp → (Option (Int32 × Hp))) (w1 : Int32) (w3 : Int32) (s0 : Int32) (s1 : Int32) (h : Hp) : Option (Int32 × Hp) :=
  lt (s1 + s0) fun v1 =>
  k37 w1 v1 (w3 + 1) h
noncomputable def F_X7_groupsOf_162 (k88 : Int32 → Int32 → Int32 → Hp → (Option (Int32 × Hp))) (w1 : Int32) (w4 : Int32) (s0 : Int32) (h : Hp) : Option (Int32 × Hp) :=
  lt ((w4 - (1 : Int32)) &&& w1) fun v2 =>
  k88 w1 s0 v2 h
noncomputable def F_X7_groupsOf_148 (k88 : Int32 → Int32 → Int32 → Hp → (Option (Int32 × Hp))) (w1 : Int32) (w3 : Int32) (w4 : Int32) (s0 : Int32) (h : Hp) : Option (Int32 × Hp) :=
  if s0 ≤ w3 then
  F_X7_groupsOf_162 k88 w1 w4 w3 h
  else
  F_X7_groupsOf_162 k88 w1 w4 s0 h
noncomputable def F_X7_groupsOf_120 (k88 : Int32 → Int32 → Int32 → Hp → (Option (Int32 × Hp))) (w1 : Int32) (w3 : Int32) (w4 : Int32) (s0 : Bool) (h : Hp) : Option (Int32 × Hp) :=
  if s0 = true then
  if inb w4 64 = true then
  if inb (w1 - w4) 64 = true then
  F_X7_groupsOf_148 k88 w1 w3 w4 ((h.1 63 (Int32.toNatClampNeg w4)) + (h.1 63 (Int32.toNatClampNeg (w1 - w4)))) h
  else none
  else none
  else
  F_X7_groupsOf_148 k88 w1 w3 w4 ((-1) : Int32) h
noncomputable def F_X7_groupsOf_88 (k27 : Int32 → Hp → (Option (Int32 × Hp))) : Nat → Int32 → Int32 → Int32 → Hp → Option (Int32 × Hp)
  | 0, _, _, _, _ => none
  | n + 1, w1, w3, w4, h =>
    if w4 ≤ 0 then
    if inb w1 64 = true then
    lt (up h 63 (Int32.toNatClampNeg w1) w3) fun h6 =>
    k27 (w1 + 1) h6
    else none
    else
    if inb w4 64 = true then
    if (h.1 63 (Int32.toNatClampNeg w4)) ≤ 0 then
    F_X7_groupsOf_120 (F_X7_groupsOf_88 k27 n) w1 w3 w4 false h
    else
    if inb (w1 - w4) 64 = true then
    if (h.1 63 (Int32.toNatClampNeg (w1 - w4))) ≤ 0 then
    F_X7_groupsOf_120 (F_X7_groupsOf_88 k27 n) w1 w3 w4 false h
    else
    F_X7_groupsOf_120 (F_X7_groupsOf_88 k27 n) w1 w3 w4 true h
    else none
    else none
noncomputable def F_X7_groupsOf_80 (k27 : Int32 → Hp → (Option (Int32 × Hp))) (w1 : Int32) (s0 : Int32) (h : Hp) : Option (Int32 × Hp) :=
  lt ((w1 - (1 : Int32)) &&& w1) fun v9 =>
  F_X7_groupsOf_88 k27 fuel w1 s0 v9 h
noncomputable def F_X7_groupsOf_37 (k27 : Int32 → Hp → (Option (Int32 × Hp))) : Nat → Int32 → Int32 → Int32 → Hp → Option (Int32 × Hp)
  | 0, _, _, _, _ => none
  | n + 1, w1, w2, w3, h =>
    if (6 : Int32) ≤ w3 then
    if w2 = 0 then
    F_X7_groupsOf_80 k27 w1 (1 : Int32) h
    else
    F_X7_groupsOf_80 k27 w1 ((-1) : Int32) h
    else
    if ((w1 >>> (w3 &&& 31)) &&& (1 : Int32)) = (1 : Int32) then
    if inb w3 6 = true then
    F_X7_groupsOf_63 (F_X7_groupsOf_37 k27 n) w1 w3 (h.1 64 (Int32.toNatClampNeg w3)) w2 h
    else none
    else
    F_X7_groupsOf_63 (F_X7_groupsOf_37 k27 n) w1 w3 (0 : Int32) w2 h
noncomputable def F_X7_groupsOf_27  : Nat → Int32 → Hp → Option (Int32 × Hp)
  | 0, _, _ => none
  | n + 1, w1, h =>
    if (64 : Int32) ≤ w1 then
    some ((h.1 63 (Int32.toNatClampNeg (63 : Int32))), h)
    else
    F_X7_groupsOf_37 (F_X7_groupsOf_27 n) fuel w1 (0 : Int32) (0 : Int32) h
noncomputable def F_X7_groupsOf_2  : Nat → Int32 → Hp → Option (Int32 × Hp)
  | 0, _, _ => none
  | n + 1, w1, h =>
    if (6 : Int32) ≤ w1 then
    F_X7_groupsOf_27 fuel (1 : Int32) h
    else
    (F_X7_restOf w1 h).bind fun v12 =>
    if inb w1 6 = true then
    lt (up h 64 (Int32.toNatClampNeg w1) v12) fun h14 =>
    F_X7_groupsOf_2 n (w1 + 1) h14
    else none
noncomputable def F_X7_groupsOf  (σ : Hp) : Option (Int32 × Hp) :=
  F_X7_groupsOf_2 fuel (0 : Int32) σ
set_option maxHeartbeats 4000000 in
set_option maxRecDepth 100000 in
theorem T_X7_groupsOf_63 {G : Gm} {α : Nat → Nat} (hO : Ok G α cX7_groupsOf 7 RX7 3 74) (hR : Rt G α (some .int)) (k37 : Int32 → Int32 → Int32 → Hp → (Option (Int32 × Hp))) (hk37 : ∀ (w1 : Int32) (w2 : Int32) (w3 : Int32) (h : Hp), V G α 7 (kSI) 37 [(0, .ref (α (55))), (1, .int w1), (2, .int w2), (3, .int w3)] [] h (k37 w1 w2 w3 h)) : ∀ (w1 : Int32) (w3 : Int32) (s0 : Int32) (s1 : Int32) (h : Hp), V G α 7 (kSI) 63 [(0, .ref (α (55))), (1, .int w1), (3, .int w3)] [.int s0, .int s1] h (F_X7_groupsOf_63 k37 w1 w3 s0 s1 h) := by
  intro w1 w3 s0 s1 h
  rw [F_X7_groupsOf_63]
  refine V_iadd hO dX7_groupsOf_63 ?_
  refine V_istore_nN hO (ls2 := fun v1 => [(2, .int v1), (0, .ref (α (55))), (1, .int w1), (3, .int w3)]) dX7_groupsOf_64 rfl (by decide) (fun _ => rfl) (fun v1 => ?_)
  refine V_iinc hO (ls2 := [(3, .int (w3 + 1)), (2, .int v1), (0, .ref (α (55))), (1, .int w1)]) (z := 1) 3 dX7_groupsOf_65 rfl (by decide) (by decide) rfl ?_
  refine V_goto hO 37 dX7_groupsOf_68 (by decide) ?_
  exact V_sub [2, 3, 1, 0] rfl (hk37 w1 v1 (w3 + 1) h )
set_option maxHeartbeats 4000000 in
set_option maxRecDepth 100000 in
theorem T_X7_groupsOf_162 {G : Gm} {α : Nat → Nat} (hO : Ok G α cX7_groupsOf 7 RX7 3 74) (hR : Rt G α (some .int)) (k88 : Int32 → Int32 → Int32 → Hp → (Option (Int32 × Hp))) (hk88 : ∀ (w1 : Int32) (w3 : Int32) (w4 : Int32) (h : Hp), V G α 7 (kSI) 88 [(0, .ref (α (55))), (1, .int w1), (3, .int w3), (4, .int w4)] [] h (k88 w1 w3 w4 h)) : ∀ (w1 : Int32) (w4 : Int32) (s0 : Int32) (h : Hp), V G α 7 (kSI) 162 [(0, .ref (α (55))), (1, .int w1), (4, .int w4)] [.int s0] h (F_X7_groupsOf_162 k88 w1 w4 s0 h) := by
  intro w1 w4 s0 h
  rw [F_X7_groupsOf_162]
  refine V_istore_n hO (ls2 := [(3, .int s0), (0, .ref (α (55))), (1, .int w1), (4, .int w4)]) dX7_groupsOf_162 rfl (by decide) rfl ?_
  refine V_iload hO 3 dX7_groupsOf_163 rfl ?_
  refine V_iconst hO 1 dX7_groupsOf_165 (by decide) ?_
  refine V_isub hO dX7_groupsOf_166 ?_
  refine V_iload_n hO 2 dX7_groupsOf_167 rfl rfl ?_
  refine V_iand hO dX7_groupsOf_168 ?_
  refine V_istoreN hO (ls2 := fun v2 => [(4, .int v2), (3, .int s0), (0, .ref (α (55))), (1, .int w1)]) dX7_groupsOf_169 (by decide) (fun _ => rfl) (fun v2 => ?_)
  refine V_goto hO 88 dX7_groupsOf_171 (by decide) ?_
  exact V_sub [2, 3, 1, 0] rfl (hk88 w1 s0 v2 h )
set_option maxHeartbeats 4000000 in
set_option maxRecDepth 100000 in
theorem T_X7_groupsOf_148 {G : Gm} {α : Nat → Nat} (hO : Ok G α cX7_groupsOf 7 RX7 3 74) (hR : Rt G α (some .int)) (k88 : Int32 → Int32 → Int32 → Hp → (Option (Int32 × Hp))) (hk88 : ∀ (w1 : Int32) (w3 : Int32) (w4 : Int32) (h : Hp), V G α 7 (kSI) 88 [(0, .ref (α (55))), (1, .int w1), (3, .int w3), (4, .int w4)] [] h (k88 w1 w3 w4 h)) : ∀ (w1 : Int32) (w3 : Int32) (w4 : Int32) (s0 : Int32) (h : Hp), V G α 7 (kSI) 148 [(0, .ref (α (55))), (1, .int w1), (3, .int w3), (4, .int w4)] [.int s0] h (F_X7_groupsOf_148 k88 w1 w3 w4 s0 h) := by
  intro w1 w3 w4 s0 h
  rw [F_X7_groupsOf_148]
  refine V_istore hO (ls2 := [(6, .int s0), (0, .ref (α (55))), (1, .int w1), (3, .int w3), (4, .int w4)]) dX7_groupsOf_148 (by decide) rfl ?_
  refine V_iload hO 0 dX7_groupsOf_150 rfl ?_
  refine V_iload_n hO 3 dX7_groupsOf_152 rfl rfl ?_
  refine V_icmp_le hO 161 dX7_groupsOf_153 (by decide) ?_ ?_
  · refine V_iload_n hO 3 dX7_groupsOf_161 rfl rfl ?_
    exact V_sub [1, 2, 4] rfl (T_X7_groupsOf_162 hO hR k88 hk88 w1 w4 w3 h )
  · refine V_iload hO 0 dX7_groupsOf_156 rfl ?_
    refine V_goto hO 162 dX7_groupsOf_158 (by decide) ?_
    exact V_sub [1, 2, 4] rfl (T_X7_groupsOf_162 hO hR k88 hk88 w1 w4 s0 h )
set_option maxHeartbeats 4000000 in
set_option maxRecDepth 100000 in
theorem T_X7_groupsOf_120 {G : Gm} {α : Nat → Nat} (hO : Ok G α cX7_groupsOf 7 RX7 3 74) (hR : Rt G α (some .int)) (k88 : Int32 → Int32 → Int32 → Hp → (Option (Int32 × Hp))) (hk88 : ∀ (w1 : Int32) (w3 : Int32) (w4 : Int32) (h : Hp), V G α 7 (kSI) 88 [(0, .ref (α (55))), (1, .int w1), (3, .int w3), (4, .int w4)] [] h (k88 w1 w3 w4 h)) : ∀ (w1 : Int32) (w3 : Int32) (w4 : Int32) (s0 : Bool) (h : Hp), V G α 7 (kSI) 120 [(0, .ref (α (55))), (1, .int w1), (3, .int w3), (4, .int w4)] [.int (b2i s0)] h (F_X7_groupsOf_120 k88 w1 w3 w4 s0 h) := by
  intro w1 w3 w4 s0 h
  rw [F_X7_groupsOf_120]
  refine V_istore hO (ls2 := [(5, .int (b2i s0)), (0, .ref (α (55))), (1, .int w1), (3, .int w3), (4, .int w4)]) dX7_groupsOf_120 (by decide) rfl ?_
  refine V_iload hO 0 dX7_groupsOf_122 rfl ?_
  refine V_ifeqZ hO 147 dX7_groupsOf_124 (by decide) ?_ ?_
  · refine V_iconst hO (-1) dX7_groupsOf_147 (by decide) ?_
    exact V_sub [1, 2, 3, 4] rfl (T_X7_groupsOf_148 hO hR k88 hk88 w1 w3 w4 ((-1) : Int32) h )
  · refine V_aload_n hO 1 dX7_groupsOf_127 rfl rfl ?_
    refine V_get hO (v := .ref (α (63))) fl_X7_31 (by decide) (fun _ _ => ce_55) rfl dX7_groupsOf_128 ?_
    refine V_iload hO 4 dX7_groupsOf_131 rfl ?_
    refine V_chk rfl fun c3 => ?_
    refine V_iald hO (by decide) (fun _ _ => ce_63) (inb_in c3) dX7_groupsOf_133 ?_
    refine V_aload_n hO 1 dX7_groupsOf_134 rfl rfl ?_
    refine V_get hO (v := .ref (α (63))) fl_X7_31 (by decide) (fun _ _ => ce_55) rfl dX7_groupsOf_135 ?_
    refine V_iload_n hO 2 dX7_groupsOf_138 rfl rfl ?_
    refine V_iload hO 4 dX7_groupsOf_139 rfl ?_
    refine V_isub hO dX7_groupsOf_141 ?_
    refine V_chk rfl fun c4 => ?_
    refine V_iald hO (by decide) (fun _ _ => ce_63) (inb_in c4) dX7_groupsOf_142 ?_
    refine V_iadd hO dX7_groupsOf_143 ?_
    refine V_goto hO 148 dX7_groupsOf_144 (by decide) ?_
    exact V_sub [1, 2, 3, 4] rfl (T_X7_groupsOf_148 hO hR k88 hk88 w1 w3 w4 ((h.1 63 (Int32.toNatClampNeg w4)) + (h.1 63 (Int32.toNatClampNeg (w1 - w4)))) h )
set_option maxHeartbeats 4000000 in
set_option maxRecDepth 100000 in
theorem T_X7_groupsOf_88 {G : Gm} {α : Nat → Nat} (hO : Ok G α cX7_groupsOf 7 RX7 3 74) (hR : Rt G α (some .int)) (k27 : Int32 → Hp → (Option (Int32 × Hp))) (hk27 : ∀ (w1 : Int32) (h : Hp), V G α 7 (kSI) 27 [(0, .ref (α (55))), (1, .int w1)] [] h (k27 w1 h)) : ∀ (fuel : Nat) (w1 : Int32) (w3 : Int32) (w4 : Int32) (h : Hp), V G α 7 (kSI) 88 [(0, .ref (α (55))), (1, .int w1), (3, .int w3), (4, .int w4)] [] h (F_X7_groupsOf_88 k27 fuel w1 w3 w4 h) := by
  intro fuel
  induction fuel with
  | zero => intro w1 w3 w4 h; exact V_none rfl
  | succ n ih =>
    intro w1 w3 w4 h
    rw [F_X7_groupsOf_88]
    refine V_iload hO 3 dX7_groupsOf_88 rfl ?_
    refine V_if_le hO 174 dX7_groupsOf_90 (by decide) ?_ ?_
    · refine V_aload_n hO 0 dX7_groupsOf_174 rfl rfl ?_
      refine V_get hO (v := .ref (α (63))) fl_X7_31 (by decide) (fun _ _ => ce_55) rfl dX7_groupsOf_175 ?_
      refine V_iload_n hO 1 dX7_groupsOf_178 rfl rfl ?_
      refine V_iload_n hO 2 dX7_groupsOf_179 rfl rfl ?_
      refine V_chk rfl fun c5 => ?_
      refine V_iast hO (by decide) (fun _ _ _ => ce_63) (inb_in c5) dX7_groupsOf_180 (V_name fun h6 => ?_)
      refine V_iinc hO (ls2 := [(1, .int (w1 + 1)), (0, .ref (α (55))), (3, .int w3), (4, .int w4)]) (z := 1) 1 dX7_groupsOf_181 rfl (by decide) (by decide) rfl ?_
      refine V_goto hO 27 dX7_groupsOf_184 (by decide) ?_
      exact V_sub [1, 0] rfl (hk27 (w1 + 1) h6 )
    · refine V_aload_n hO 0 dX7_groupsOf_93 rfl rfl ?_
      refine V_get hO (v := .ref (α (63))) fl_X7_31 (by decide) (fun _ _ => ce_55) rfl dX7_groupsOf_94 ?_
      refine V_iload hO 3 dX7_groupsOf_97 rfl ?_
      refine V_chk rfl fun c7 => ?_
      refine V_iald hO (by decide) (fun _ _ => ce_63) (inb_in c7) dX7_groupsOf_99 ?_
      refine V_if_le hO 119 dX7_groupsOf_100 (by decide) ?_ ?_
      · refine V_iconst hO 0 dX7_groupsOf_119 (by decide) ?_
        exact V_sub [0, 1, 2, 3] rfl (T_X7_groupsOf_120 hO hR (F_X7_groupsOf_88 k27 n) ih w1 w3 w4 false h )
      · refine V_aload_n hO 0 dX7_groupsOf_103 rfl rfl ?_
        refine V_get hO (v := .ref (α (63))) fl_X7_31 (by decide) (fun _ _ => ce_55) rfl dX7_groupsOf_104 ?_
        refine V_iload_n hO 1 dX7_groupsOf_107 rfl rfl ?_
        refine V_iload hO 3 dX7_groupsOf_108 rfl ?_
        refine V_isub hO dX7_groupsOf_110 ?_
        refine V_chk rfl fun c8 => ?_
        refine V_iald hO (by decide) (fun _ _ => ce_63) (inb_in c8) dX7_groupsOf_111 ?_
        refine V_if_le hO 119 dX7_groupsOf_112 (by decide) ?_ ?_
        · refine V_iconst hO 0 dX7_groupsOf_119 (by decide) ?_
          exact V_sub [0, 1, 2, 3] rfl (T_X7_groupsOf_120 hO hR (F_X7_groupsOf_88 k27 n) ih w1 w3 w4 false h )
        · refine V_iconst hO 1 dX7_groupsOf_115 (by decide) ?_
          refine V_goto hO 120 dX7_groupsOf_116 (by decide) ?_
          exact V_sub [0, 1, 2, 3] rfl (T_X7_groupsOf_120 hO hR (F_X7_groupsOf_88 k27 n) ih w1 w3 w4 true h )
set_option maxHeartbeats 4000000 in
set_option maxRecDepth 100000 in
theorem T_X7_groupsOf_80 {G : Gm} {α : Nat → Nat} (hO : Ok G α cX7_groupsOf 7 RX7 3 74) (hR : Rt G α (some .int)) (k27 : Int32 → Hp → (Option (Int32 × Hp))) (hk27 : ∀ (w1 : Int32) (h : Hp), V G α 7 (kSI) 27 [(0, .ref (α (55))), (1, .int w1)] [] h (k27 w1 h)) : ∀ (w1 : Int32) (s0 : Int32) (h : Hp), V G α 7 (kSI) 80 [(0, .ref (α (55))), (1, .int w1)] [.int s0] h (F_X7_groupsOf_80 k27 w1 s0 h) := by
  intro w1 s0 h
  rw [F_X7_groupsOf_80]
  refine V_istore_n hO (ls2 := [(3, .int s0), (0, .ref (α (55))), (1, .int w1)]) dX7_groupsOf_80 rfl (by decide) rfl ?_
  refine V_iload_n hO 2 dX7_groupsOf_81 rfl rfl ?_
  refine V_iconst hO 1 dX7_groupsOf_82 (by decide) ?_
  refine V_isub hO dX7_groupsOf_83 ?_
  refine V_iload_n hO 2 dX7_groupsOf_84 rfl rfl ?_
  refine V_iand hO dX7_groupsOf_85 ?_
  refine V_istoreN hO (ls2 := fun v9 => [(4, .int v9), (3, .int s0), (0, .ref (α (55))), (1, .int w1)]) dX7_groupsOf_86 (by decide) (fun _ => rfl) (fun v9 => ?_)
  exact V_sub [2, 3, 1, 0] rfl (T_X7_groupsOf_88 hO hR k27 hk27 fuel w1 s0 v9 h )
set_option maxHeartbeats 4000000 in
set_option maxRecDepth 100000 in
theorem T_X7_groupsOf_37 {G : Gm} {α : Nat → Nat} (hO : Ok G α cX7_groupsOf 7 RX7 3 74) (hR : Rt G α (some .int)) (k27 : Int32 → Hp → (Option (Int32 × Hp))) (hk27 : ∀ (w1 : Int32) (h : Hp), V G α 7 (kSI) 27 [(0, .ref (α (55))), (1, .int w1)] [] h (k27 w1 h)) : ∀ (fuel : Nat) (w1 : Int32) (w2 : Int32) (w3 : Int32) (h : Hp), V G α 7 (kSI) 37 [(0, .ref (α (55))), (1, .int w1), (2, .int w2), (3, .int w3)] [] h (F_X7_groupsOf_37 k27 fuel w1 w2 w3 h) := by
  intro fuel
  induction fuel with
  | zero => intro w1 w2 w3 h; exact V_none rfl
  | succ n ih =>
    intro w1 w2 w3 h
    rw [F_X7_groupsOf_37]
    refine V_iload_n hO 3 dX7_groupsOf_37 rfl rfl ?_
    refine V_bipush hO 6 dX7_groupsOf_38 (by decide) ?_
    refine V_icmp_ge hO 71 dX7_groupsOf_40 (by decide) ?_ ?_
    · refine V_iload_n hO 2 dX7_groupsOf_71 rfl rfl ?_
      refine V_if_ne hO 79 dX7_groupsOf_72 (by decide) ?_ ?_
      · refine V_iconst hO (-1) dX7_groupsOf_79 (by decide) ?_
        exact V_sub [0, 1] rfl (T_X7_groupsOf_80 hO hR k27 hk27 w1 ((-1) : Int32) h )
      · refine V_iconst hO 1 dX7_groupsOf_75 (by decide) ?_
        refine V_goto hO 80 dX7_groupsOf_76 (by decide) ?_
        exact V_sub [0, 1] rfl (T_X7_groupsOf_80 hO hR k27 hk27 w1 (1 : Int32) h )
    · refine V_iload_n hO 2 dX7_groupsOf_43 rfl rfl ?_
      refine V_iload_n hO 1 dX7_groupsOf_44 rfl rfl ?_
      refine V_iload_n hO 3 dX7_groupsOf_45 rfl rfl ?_
      refine V_ishr hO dX7_groupsOf_46 ?_
      refine V_iconst hO 1 dX7_groupsOf_47 (by decide) ?_
      refine V_iand hO dX7_groupsOf_48 ?_
      refine V_iconst hO 1 dX7_groupsOf_49 (by decide) ?_
      refine V_icmp_ne hO 62 dX7_groupsOf_50 (by decide) ?_ ?_
      · refine V_iconst hO 0 dX7_groupsOf_62 (by decide) ?_
        exact V_sub [0, 1, 3] rfl (T_X7_groupsOf_63 hO hR (F_X7_groupsOf_37 k27 n) ih w1 w3 (0 : Int32) w2 h )
      · refine V_aload_n hO 0 dX7_groupsOf_53 rfl rfl ?_
        refine V_get hO (v := .ref (α (64))) fl_X7_34 (by decide) (fun _ _ => ce_55) rfl dX7_groupsOf_54 ?_
        refine V_iload_n hO 3 dX7_groupsOf_57 rfl rfl ?_
        refine V_chk rfl fun c10 => ?_
        refine V_iald hO (by decide) (fun _ _ => ce_64) (inb_in c10) dX7_groupsOf_58 ?_
        refine V_goto hO 63 dX7_groupsOf_59 (by decide) ?_
        exact V_sub [0, 1, 3] rfl (T_X7_groupsOf_63 hO hR (F_X7_groupsOf_37 k27 n) ih w1 w3 (h.1 64 (Int32.toNatClampNeg w3)) w2 h )
set_option maxHeartbeats 4000000 in
set_option maxRecDepth 100000 in
theorem T_X7_groupsOf_27 {G : Gm} {α : Nat → Nat} (hO : Ok G α cX7_groupsOf 7 RX7 3 74) (hR : Rt G α (some .int)) : ∀ (fuel : Nat) (w1 : Int32) (h : Hp), V G α 7 (kSI) 27 [(0, .ref (α (55))), (1, .int w1)] [] h (F_X7_groupsOf_27 fuel w1 h) := by
  intro fuel
  induction fuel with
  | zero => intro w1 h; exact V_none rfl
  | succ n ih =>
    intro w1 h
    rw [F_X7_groupsOf_27]
    refine V_iload_n hO 1 dX7_groupsOf_27 rfl rfl ?_
    refine V_bipush hO 64 dX7_groupsOf_28 (by decide) ?_
    refine V_icmp_ge hO 187 dX7_groupsOf_30 (by decide) ?_ ?_
    · refine V_aload_n hO 0 dX7_groupsOf_187 rfl rfl ?_
      refine V_get hO (v := .ref (α (63))) fl_X7_31 (by decide) (fun _ _ => ce_55) rfl dX7_groupsOf_188 ?_
      refine V_bipush hO 63 dX7_groupsOf_191 (by decide) ?_
      refine V_iald hO (by decide) (fun _ _ => ce_63) (inb_in (by decide)) dX7_groupsOf_193 ?_
      exact V_iret hO hR rfl dX7_groupsOf_194
    · refine V_iconst hO 0 dX7_groupsOf_33 (by decide) ?_
      refine V_istore_n hO (ls2 := [(2, .int 0), (0, .ref (α (55))), (1, .int w1)]) dX7_groupsOf_34 rfl (by decide) rfl ?_
      refine V_iconst hO 0 dX7_groupsOf_35 (by decide) ?_
      refine V_istore_n hO (ls2 := [(3, .int 0), (2, .int 0), (0, .ref (α (55))), (1, .int w1)]) dX7_groupsOf_36 rfl (by decide) rfl ?_
      exact V_sub [2, 3, 1, 0] rfl (T_X7_groupsOf_37 hO hR (F_X7_groupsOf_27 n) ih fuel w1 (0 : Int32) (0 : Int32) h )
set_option maxHeartbeats 4000000 in
set_option maxRecDepth 100000 in
theorem T_X7_groupsOf_2 {G : Gm} {α : Nat → Nat} (hO : Ok G α cX7_groupsOf 7 RX7 3 74) (hR : Rt G α (some .int)) : ∀ (fuel : Nat) (w1 : Int32) (h : Hp), V G α 7 (kSI) 2 [(0, .ref (α (55))), (1, .int w1)] [] h (F_X7_groupsOf_2 fuel w1 h) := by
  intro fuel
  induction fuel with
  | zero => intro w1 h; exact V_none rfl
  | succ n ih =>
    intro w1 h
    rw [F_X7_groupsOf_2]
    refine V_iload_n hO 1 dX7_groupsOf_2 rfl rfl ?_
    refine V_bipush hO 6 dX7_groupsOf_3 (by decide) ?_
    refine V_icmp_ge hO 25 dX7_groupsOf_5 (by decide) ?_ ?_
    · refine V_iconst hO 1 dX7_groupsOf_25 (by decide) ?_
      refine V_istore_n hO (ls2 := [(1, .int 1), (0, .ref (α (55)))]) dX7_groupsOf_26 rfl (by decide) rfl ?_
      exact V_sub [1, 0] rfl (T_X7_groupsOf_27 hO hR fuel (1 : Int32) h )
    · refine V_aload_n hO 0 dX7_groupsOf_8 rfl rfl ?_
      refine V_get hO (v := .ref (α (64))) fl_X7_34 (by decide) (fun _ _ => ce_55) rfl dX7_groupsOf_9 ?_
      refine V_iload_n hO 1 dX7_groupsOf_12 rfl rfl ?_
      refine V_aload_n hO 0 dX7_groupsOf_13 rfl rfl ?_
      refine V_iload_n hO 1 dX7_groupsOf_14 rfl rfl ?_
      refine V_callV hO ml_X7_188 (C_X7_restOf α w1 h) (by decide) (fun _ _ => ce_55) rfl rfl (rest := [.int w1, .ref (α (64))]) rfl rfl (Nat.le_of_ble_eq_true rfl) ⟨Nat.le_of_ble_eq_true rfl, Nat.le_of_ble_eq_true rfl⟩ dX7_groupsOf_15 (kc_OI rfl fun v12 => ?_)
      refine V_chk rfl fun c13 => ?_
      refine V_iast hO (by decide) (fun _ _ _ => ce_64) (inb_in c13) dX7_groupsOf_18 (V_name fun h14 => ?_)
      refine V_iinc hO (ls2 := [(1, .int (w1 + 1)), (0, .ref (α (55)))]) (z := 1) 1 dX7_groupsOf_19 rfl (by decide) (by decide) rfl ?_
      refine V_goto hO 2 dX7_groupsOf_22 (by decide) ?_
      exact V_sub [1, 0] rfl (ih (w1 + 1) h14 )
set_option maxHeartbeats 4000000 in
set_option maxRecDepth 100000 in
theorem T_X7_groupsOf {G : Gm} {α : Nat → Nat} (hO : Ok G α cX7_groupsOf 7 RX7 3 74) (hR : Rt G α (some .int)) (σ : Hp) : V G α 7 (kSI) 0 [(0, .ref (α (55)))] [] σ (F_X7_groupsOf σ) := by
  rw [F_X7_groupsOf]
  refine V_iconst hO 0 dX7_groupsOf_0 (by decide) ?_
  refine V_istore_n hO (ls2 := [(1, .int 0), (0, .ref (α (55)))]) dX7_groupsOf_1 rfl (by decide) rfl ?_
  exact V_sub [1, 0] rfl (T_X7_groupsOf_2 hO hR fuel (0 : Int32) σ )
set_option maxHeartbeats 4000000 in
set_option maxRecDepth 100000 in
theorem C_X7_groupsOf (α : Nat → Nat) (σ : Hp) : Ct yX7_groupsOf cX7_groupsOf 7 (some .int) 3 74 α [.ref (α (55))] σ (kSI (F_X7_groupsOf σ)) := ct_of_V (own := RX7) rfl (by decide +kernel) (Nat.le_of_ble_eq_true rfl) fun _ hO hR => T_X7_groupsOf hO hR σ
/-! X7_settled -/
noncomputable def F_X7_settled  (p1 : Int32) (σ : Hp) : Option (Int32 × Hp) :=
  if (F_X7_in (Int32.toInt64 p1) (0 : Int64) (1 : Int64) σ) = true then
  (F_X7_groupsOf σ).bind fun q1 =>
  if p1 = 0 then
  some (((6 : Int32) - q1.1), q1.2)
  else
  some (q1.1, q1.2)
  else
  some (((-102) : Int32), σ)
set_option maxHeartbeats 4000000 in
set_option maxRecDepth 100000 in
theorem T_X7_settled {G : Gm} {α : Nat → Nat} (hO : Ok G α cX7_settled 3 RX7 4 100) (hR : Rt G α (some .int)) (p1 : Int32) (σ : Hp) : V G α 3 (kSI) 0 [(0, .ref (α (55))), (1, .int p1)] [] σ (F_X7_settled p1 σ) := by
  rw [F_X7_settled]
  refine V_iload_n hO 1 dX7_settled_0 rfl rfl ?_
  refine V_i2l hO dX7_settled_1 ?_
  refine V_lconst hO 0 dX7_settled_2 (by decide) ?_
  refine V_lconst hO 1 dX7_settled_3 (by decide) ?_
  refine V_callS hO ml_X7_75 (C_X7_in α (Int32.toInt64 p1) (0 : Int64) (1 : Int64) σ) (rest := []) rfl rfl (Nat.le_of_ble_eq_true rfl) ⟨Nat.le_of_ble_eq_true rfl, Nat.le_of_ble_eq_true rfl⟩ dX7_settled_4 (kc_Z ?_)
  refine V_ifneZ hO 13 dX7_settled_7 (by decide) ?_ ?_
  · refine V_aload_n hO 0 dX7_settled_13 rfl rfl ?_
    refine V_callV hO ml_X7_208 (C_X7_groupsOf α σ) (by decide) (fun _ _ => ce_55) rfl rfl (rest := []) rfl rfl (Nat.le_of_ble_eq_true rfl) ⟨Nat.le_of_ble_eq_true rfl, Nat.le_of_ble_eq_true rfl⟩ dX7_settled_14 (kc_SI rfl fun q1 => ?_)
    refine V_istore_n hO (ls2 := [(2, .int q1.1), (0, .ref (α (55))), (1, .int p1)]) dX7_settled_17 rfl (by decide) rfl ?_
    refine V_iload_n hO 2 dX7_settled_18 rfl rfl ?_
    refine V_if_ne hO 29 dX7_settled_19 (by decide) ?_ ?_
    · refine V_iload_n hO 0 dX7_settled_29 rfl rfl ?_
      exact V_iret hO hR rfl dX7_settled_30
    · refine V_bipush hO 6 dX7_settled_22 (by decide) ?_
      refine V_iload_n hO 0 dX7_settled_24 rfl rfl ?_
      refine V_isub hO dX7_settled_25 ?_
      refine V_goto hO 30 dX7_settled_26 (by decide) ?_
      exact V_iret hO hR rfl dX7_settled_30
  · refine V_bipush hO (-102) dX7_settled_10 (by decide) ?_
    exact V_iret hO hR rfl dX7_settled_12
set_option maxHeartbeats 4000000 in
set_option maxRecDepth 100000 in
theorem C_X7_settled (α : Nat → Nat) (p1 : Int32) (σ : Hp) : Ct yX7_settled cX7_settled 3 (some .int) 4 100 α [.ref (α (55)), .int p1] σ (kSI (F_X7_settled p1 σ)) := ct_of_V (own := RX7) rfl (by decide +kernel) (Nat.le_of_ble_eq_true rfl) fun _ hO hR => T_X7_settled hO hR p1 σ
/-! X7_readIn -/
noncomputable def F_X7_readIn_46 (σ : Hp) (k4 : Int32 → Int32 → Int32 → (Option Int32)) (w1 : Int32) (w3 : Int32) (s0 : Int32) (s1 : Int32) : Option Int32 :=
  lt (s1 + s0) fun v1 =>
  k4 w1 v1 (w3 + 1)
noncomputable def F_X7_readIn_4 (σ : Hp) : Nat → Int32 → Int32 → Int32 → Option Int32
  | 0, _, _, _ => none
  | n + 1, w1, w2, w3 =>
    if (σ.1 55 6) ≤ w3 then
    some w2
    else
    if inb (((8 : Int32) * w3) + (1 : Int32)) 80 = true then
    if (σ.1 58 (Int32.toNatClampNeg (((8 : Int32) * w3) + (1 : Int32)))) = w1 then
    (F_X7_lookOf w3 σ).bind fun v3 =>
    if v3 = (2 : Int32) then
    (F_X7_worthOf w3 σ).bind fun v4 =>
    F_X7_readIn_46 σ (F_X7_readIn_4 σ n) w1 w3 v4 w2
    else
    F_X7_readIn_46 σ (F_X7_readIn_4 σ n) w1 w3 (0 : Int32) w2
    else
    F_X7_readIn_46 σ (F_X7_readIn_4 σ n) w1 w3 (0 : Int32) w2
    else none
noncomputable def F_X7_readIn  (p1 : Int32) (σ : Hp) : Option Int32 :=
  F_X7_readIn_4 σ fuel p1 (0 : Int32) (0 : Int32)
set_option maxHeartbeats 4000000 in
set_option maxRecDepth 100000 in
theorem T_X7_readIn_46 {G : Gm} {α : Nat → Nat} (hO : Ok G α cX7_readIn 4 RX7 1 25) (hR : Rt G α (some .int)) (σ : Hp) (k4 : Int32 → Int32 → Int32 → (Option Int32)) (hk4 : ∀ (w1 : Int32) (w2 : Int32) (w3 : Int32), V G α 4 (kOI σ) 4 [(0, .ref (α (55))), (1, .int w1), (2, .int w2), (3, .int w3)] [] σ (k4 w1 w2 w3)) : ∀ (w1 : Int32) (w3 : Int32) (s0 : Int32) (s1 : Int32), V G α 4 (kOI σ) 46 [(0, .ref (α (55))), (1, .int w1), (3, .int w3)] [.int s0, .int s1] σ (F_X7_readIn_46 σ k4 w1 w3 s0 s1) := by
  intro w1 w3 s0 s1
  rw [F_X7_readIn_46]
  refine V_iadd hO dX7_readIn_46 ?_
  refine V_istore_nN hO (ls2 := fun v1 => [(2, .int v1), (0, .ref (α (55))), (1, .int w1), (3, .int w3)]) dX7_readIn_47 rfl (by decide) (fun _ => rfl) (fun v1 => ?_)
  refine V_iinc hO (ls2 := [(3, .int (w3 + 1)), (2, .int v1), (0, .ref (α (55))), (1, .int w1)]) (z := 1) 3 dX7_readIn_48 rfl (by decide) (by decide) rfl ?_
  refine V_goto hO 4 dX7_readIn_51 (by decide) ?_
  exact V_sub [2, 3, 1, 0] rfl (hk4 w1 v1 (w3 + 1) )
set_option maxHeartbeats 4000000 in
set_option maxRecDepth 100000 in
theorem T_X7_readIn_4 {G : Gm} {α : Nat → Nat} (hO : Ok G α cX7_readIn 4 RX7 1 25) (hR : Rt G α (some .int)) (σ : Hp) : ∀ (fuel : Nat) (w1 : Int32) (w2 : Int32) (w3 : Int32), V G α 4 (kOI σ) 4 [(0, .ref (α (55))), (1, .int w1), (2, .int w2), (3, .int w3)] [] σ (F_X7_readIn_4 σ fuel w1 w2 w3) := by
  intro fuel
  induction fuel with
  | zero => intro w1 w2 w3; exact V_none rfl
  | succ n ih =>
    intro w1 w2 w3
    rw [F_X7_readIn_4]
    refine V_iload_n hO 3 dX7_readIn_4 rfl rfl ?_
    refine V_aload_n hO 0 dX7_readIn_5 rfl rfl ?_
    refine V_get hO (v := .int (σ.1 55 6)) fl_X7_79 (by decide) (fun _ _ => ce_55) rfl dX7_readIn_6 ?_
    refine V_icmp_ge hO 54 dX7_readIn_9 (by decide) ?_ ?_
    · refine V_iload_n hO 2 dX7_readIn_54 rfl rfl ?_
      exact V_iret hO hR rfl dX7_readIn_55
    · refine V_iload_n hO 2 dX7_readIn_12 rfl rfl ?_
      refine V_aload_n hO 0 dX7_readIn_13 rfl rfl ?_
      refine V_get hO (v := .ref (α (58))) fl_X7_16 (by decide) (fun _ _ => ce_55) rfl dX7_readIn_14 ?_
      refine V_bipush hO 8 dX7_readIn_17 (by decide) ?_
      refine V_iload_n hO 3 dX7_readIn_19 rfl rfl ?_
      refine V_imul hO dX7_readIn_20 ?_
      refine V_iconst hO 1 dX7_readIn_21 (by decide) ?_
      refine V_iadd hO dX7_readIn_22 ?_
      refine V_chk rfl fun c2 => ?_
      refine V_iald hO (by decide) (fun _ _ => ce_58) (inb_in c2) dX7_readIn_23 ?_
      refine V_iload_n hO 1 dX7_readIn_24 rfl rfl ?_
      refine V_icmp_ne hO 45 dX7_readIn_25 (by decide) ?_ ?_
      · refine V_iconst hO 0 dX7_readIn_45 (by decide) ?_
        exact V_sub [0, 1, 3] rfl (T_X7_readIn_46 hO hR σ (F_X7_readIn_4 σ n) ih w1 w3 (0 : Int32) w2 )
      · refine V_aload_n hO 0 dX7_readIn_28 rfl rfl ?_
        refine V_iload_n hO 3 dX7_readIn_29 rfl rfl ?_
        refine V_callV hO ml_X7_126 (C_X7_lookOf α w3 σ) (by decide) (fun _ _ => ce_55) rfl rfl (rest := [.int w2]) rfl rfl (Nat.le_of_ble_eq_true rfl) ⟨Nat.le_of_ble_eq_true rfl, Nat.le_of_ble_eq_true rfl⟩ dX7_readIn_30 (kc_OI rfl fun v3 => ?_)
        refine V_iconst hO 2 dX7_readIn_33 (by decide) ?_
        refine V_icmp_ne hO 45 dX7_readIn_34 (by decide) ?_ ?_
        · refine V_iconst hO 0 dX7_readIn_45 (by decide) ?_
          exact V_sub [0, 1, 3] rfl (T_X7_readIn_46 hO hR σ (F_X7_readIn_4 σ n) ih w1 w3 (0 : Int32) w2 )
        · refine V_aload_n hO 0 dX7_readIn_37 rfl rfl ?_
          refine V_iload_n hO 3 dX7_readIn_38 rfl rfl ?_
          refine V_callV hO ml_X7_123 (C_X7_worthOf α w3 σ) (by decide) (fun _ _ => ce_55) rfl rfl (rest := [.int w2]) rfl rfl (Nat.le_of_ble_eq_true rfl) ⟨Nat.le_of_ble_eq_true rfl, Nat.le_of_ble_eq_true rfl⟩ dX7_readIn_39 (kc_OI rfl fun v4 => ?_)
          refine V_goto hO 46 dX7_readIn_42 (by decide) ?_
          exact V_sub [0, 1, 3] rfl (T_X7_readIn_46 hO hR σ (F_X7_readIn_4 σ n) ih w1 w3 v4 w2 )
set_option maxHeartbeats 4000000 in
set_option maxRecDepth 100000 in
theorem T_X7_readIn {G : Gm} {α : Nat → Nat} (hO : Ok G α cX7_readIn 4 RX7 1 25) (hR : Rt G α (some .int)) (p1 : Int32) (σ : Hp) : V G α 4 (kOI σ) 0 [(0, .ref (α (55))), (1, .int p1)] [] σ (F_X7_readIn p1 σ) := by
  rw [F_X7_readIn]
  refine V_iconst hO 0 dX7_readIn_0 (by decide) ?_
  refine V_istore_n hO (ls2 := [(2, .int 0), (0, .ref (α (55))), (1, .int p1)]) dX7_readIn_1 rfl (by decide) rfl ?_
  refine V_iconst hO 0 dX7_readIn_2 (by decide) ?_
  refine V_istore_n hO (ls2 := [(3, .int 0), (2, .int 0), (0, .ref (α (55))), (1, .int p1)]) dX7_readIn_3 rfl (by decide) rfl ?_
  exact V_sub [2, 3, 1, 0] rfl (T_X7_readIn_4 hO hR σ fuel p1 (0 : Int32) (0 : Int32) )
set_option maxHeartbeats 4000000 in
set_option maxRecDepth 100000 in
theorem C_X7_readIn (α : Nat → Nat) (p1 : Int32) (σ : Hp) : Ct yX7_readIn cX7_readIn 4 (some .int) 1 25 α [.ref (α (55)), .int p1] σ (kOI σ (F_X7_readIn p1 σ)) := ct_of_V (own := RX7) rfl (by decide +kernel) (Nat.le_of_ble_eq_true rfl) fun _ hO hR => T_X7_readIn hO hR p1 σ
/-! X7_areBeside -/
noncomputable def F_X7_areBeside  (p1 : Int32) (p2 : Int32) (σ : Hp) : Option Bool :=
  if ¬ (σ.1 55 1) = 0 then
  if ¬ (σ.1 55 1) = 0 then
  lt ((p1 / (σ.1 55 1)) - (p2 / (σ.1 55 1))) fun v1 =>
  if ¬ (σ.1 55 1) = 0 then
  if ¬ (σ.1 55 1) = 0 then
  lt ((jrem p1 (σ.1 55 1)) - (jrem p2 (σ.1 55 1))) fun v2 =>
  if ((v1 * v1) + (v2 * v2)) = (1 : Int32) then
  some true
  else
  some false
  else none
  else none
  else none
  else none
set_option maxHeartbeats 4000000 in
set_option maxRecDepth 100000 in
theorem T_X7_areBeside {G : Gm} {α : Nat → Nat} (hO : Ok G α cX7_areBeside 5 RX7 0 0) (hR : Rt G α (some .boolean)) (p1 : Int32) (p2 : Int32) (σ : Hp) : V G α 5 (kOZ σ) 0 [(0, .ref (α (55))), (1, .int p1), (2, .int p2)] [] σ (F_X7_areBeside p1 p2 σ) := by
  rw [F_X7_areBeside]
  refine V_iload_n hO 1 dX7_areBeside_0 rfl rfl ?_
  refine V_aload_n hO 0 dX7_areBeside_1 rfl rfl ?_
  refine V_get hO (v := .int (σ.1 55 1)) fl_X7_68 (by decide) (fun _ _ => ce_55) rfl dX7_areBeside_2 ?_
  refine V_chk rfl fun c6 => ?_
  refine V_idiv hO dX7_areBeside_5 c6 ?_
  refine V_iload_n hO 2 dX7_areBeside_6 rfl rfl ?_
  refine V_aload_n hO 0 dX7_areBeside_7 rfl rfl ?_
  refine V_get hO (v := .int (σ.1 55 1)) fl_X7_68 (by decide) (fun _ _ => ce_55) rfl dX7_areBeside_8 ?_
  refine V_chk rfl fun c5 => ?_
  refine V_idiv hO dX7_areBeside_11 c5 ?_
  refine V_isub hO dX7_areBeside_12 ?_
  refine V_istore_nN hO (ls2 := fun v1 => [(3, .int v1), (0, .ref (α (55))), (1, .int p1), (2, .int p2)]) dX7_areBeside_13 rfl (by decide) (fun _ => rfl) (fun v1 => ?_)
  refine V_iload_n hO 2 dX7_areBeside_14 rfl rfl ?_
  refine V_aload_n hO 1 dX7_areBeside_15 rfl rfl ?_
  refine V_get hO (v := .int (σ.1 55 1)) fl_X7_68 (by decide) (fun _ _ => ce_55) rfl dX7_areBeside_16 ?_
  refine V_chk rfl fun c4 => ?_
  refine V_irem hO dX7_areBeside_19 c4 ?_
  refine V_iload_n hO 3 dX7_areBeside_20 rfl rfl ?_
  refine V_aload_n hO 1 dX7_areBeside_21 rfl rfl ?_
  refine V_get hO (v := .int (σ.1 55 1)) fl_X7_68 (by decide) (fun _ _ => ce_55) rfl dX7_areBeside_22 ?_
  refine V_chk rfl fun c3 => ?_
  refine V_irem hO dX7_areBeside_25 c3 ?_
  refine V_isub hO dX7_areBeside_26 ?_
  refine V_istoreN hO (ls2 := fun v2 => [(4, .int v2), (3, .int v1), (0, .ref (α (55))), (1, .int p1), (2, .int p2)]) dX7_areBeside_27 (by decide) (fun _ => rfl) (fun v2 => ?_)
  refine V_iload_n hO 1 dX7_areBeside_29 rfl rfl ?_
  refine V_iload_n hO 1 dX7_areBeside_30 rfl rfl ?_
  refine V_imul hO dX7_areBeside_31 ?_
  refine V_iload hO 0 dX7_areBeside_32 rfl ?_
  refine V_iload hO 0 dX7_areBeside_34 rfl ?_
  refine V_imul hO dX7_areBeside_36 ?_
  refine V_iadd hO dX7_areBeside_37 ?_
  refine V_iconst hO 1 dX7_areBeside_38 (by decide) ?_
  refine V_icmp_ne hO 46 dX7_areBeside_39 (by decide) ?_ ?_
  · refine V_iconst hO 0 dX7_areBeside_46 (by decide) ?_
    exact V_zret hO hR (by decide) rfl dX7_areBeside_47
  · refine V_iconst hO 1 dX7_areBeside_42 (by decide) ?_
    refine V_goto hO 47 dX7_areBeside_43 (by decide) ?_
    exact V_zret hO hR (by decide) rfl dX7_areBeside_47
set_option maxHeartbeats 4000000 in
set_option maxRecDepth 100000 in
theorem C_X7_areBeside (α : Nat → Nat) (p1 : Int32) (p2 : Int32) (σ : Hp) : Ct yX7_areBeside cX7_areBeside 5 (some .boolean) 0 0 α [.ref (α (55)), .int p1, .int p2] σ (kOZ σ (F_X7_areBeside p1 p2 σ)) := ct_of_V (own := RX7) rfl (by decide +kernel) (Nat.le_of_ble_eq_true rfl) fun _ hO hR => T_X7_areBeside hO hR p1 p2 σ
/-! X7_tellSkate -/
noncomputable def F_X7_tellSkate_37 (k3 : Int32 → Int32 → Int32 → Int32 → Hp → (Option (Int32 × Hp))) (w1 : Int32) (w2 : Int32) (w3 : Int32) (w4 : Int32) (s0 : Int32) (s1 : Int32) (h : Hp) : Option (Int32 × Hp) :=
  if inb s1 16 = true then
  lt (up h 65 (Int32.toNatClampNeg s1) s0) fun h2 =>
  (F_X7_readIn w4 h2).bind fun v3 =>
  if inb w4 16 = true then
  lt (up h2 66 (Int32.toNatClampNeg w4) v3) fun h5 =>
  k3 w1 w2 w3 (w4 + 1) h5
  else none
  else none
noncomputable def F_X7_tellSkate_219 (k87 : Int32 → Int32 → Int32 → Int32 → Int32 → Hp → (Option (Int32 × Hp))) (w2 : Int32) (w3 : Int32) (w4 : Int32) (w5 : Int32) (w6 : Int32) (h : Hp) : Option (Int32 × Hp) :=
  k87 w2 w3 w4 w5 (w6 + 1) h
noncomputable def F_X7_tellSkate_189 (k87 : Int32 → Int32 → Int32 → Int32 → Int32 → Hp → (Option (Int32 × Hp))) (w2 : Int32) (w3 : Int32) (w4 : Int32) (w5 : Int32) (w6 : Int32) (w7 : Int32) (h : Hp) : Option (Int32 × Hp) :=
  if w7 = ((-1) : Int32) then
  F_X7_tellSkate_219 k87 w2 w3 w4 w5 w6 h
  else
  if inb w6 16 = true then
  lt (up h 65 (Int32.toNatClampNeg w6) w5) fun h7 =>
  if inb w6 16 = true then
  if inb w6 16 = true then
  lt (up h7 66 (Int32.toNatClampNeg w6) ((h7.1 66 (Int32.toNatClampNeg w6)) + w7)) fun h10 =>
  F_X7_tellSkate_219 k87 w2 w3 (w4 + 1) w5 w6 h10
  else none
  else none
  else none
noncomputable def F_X7_tellSkate_181 (k102 : Int32 → Int32 → Int32 → Int32 → Int32 → Int32 → Int32 → Hp → (Option (Int32 × Hp))) (w2 : Int32) (w3 : Int32) (w4 : Int32) (w5 : Int32) (w6 : Int32) (w8 : Int32) (s0 : Int32) (h : Hp) : Option (Int32 × Hp) :=
  k102 w2 w3 w4 w5 w6 s0 (w8 + 1) h
noncomputable def F_X7_tellSkate_179 (k102 : Int32 → Int32 → Int32 → Int32 → Int32 → Int32 → Int32 → Hp → (Option (Int32 × Hp))) (w2 : Int32) (w3 : Int32) (w4 : Int32) (w5 : Int32) (w6 : Int32) (w7 : Int32) (w8 : Int32) (h : Hp) : Option (Int32 × Hp) :=
  F_X7_tellSkate_181 k102 w2 w3 w4 w5 w6 w8 w7 h
noncomputable def F_X7_tellSkate_102 (k87 : Int32 → Int32 → Int32 → Int32 → Int32 → Hp → (Option (Int32 × Hp))) : Nat → Int32 → Int32 → Int32 → Int32 → Int32 → Int32 → Int32 → Hp → Option (Int32 × Hp)
  | 0, _, _, _, _, _, _, _, _ => none
  | n + 1, w2, w3, w4, w5, w6, w7, w8, h =>
    if (F_X7_squares h) ≤ w8 then
    F_X7_tellSkate_189 k87 w2 w3 w4 w5 w6 w7 h
    else
    if inb w6 16 = true then
    if (h.1 65 (Int32.toNatClampNeg w6)) = (99 : Int32) then
    (F_X7_bearsOne w6 h).bind fun v12 =>
    if v12 = true then
    if inb w8 16 = true then
    if (h.1 65 (Int32.toNatClampNeg w8)) = (w5 - (1 : Int32)) then
    (F_X7_areBeside w8 w6 h).bind fun v14 =>
    if v14 = true then
    if inb w8 16 = true then
    if (h.1 66 (Int32.toNatClampNeg w8)) ≤ w7 then
    F_X7_tellSkate_179 (F_X7_tellSkate_102 k87 n) w2 w3 w4 w5 w6 w7 w8 h
    else
    if inb w8 16 = true then
    F_X7_tellSkate_181 (F_X7_tellSkate_102 k87 n) w2 w3 w4 w5 w6 w8 (h.1 66 (Int32.toNatClampNeg w8)) h
    else none
    else none
    else
    F_X7_tellSkate_179 (F_X7_tellSkate_102 k87 n) w2 w3 w4 w5 w6 w7 w8 h
    else
    F_X7_tellSkate_179 (F_X7_tellSkate_102 k87 n) w2 w3 w4 w5 w6 w7 w8 h
    else none
    else
    F_X7_tellSkate_189 k87 w2 w3 w4 w5 w6 w7 h
    else
    F_X7_tellSkate_189 k87 w2 w3 w4 w5 w6 w7 h
    else none
noncomputable def F_X7_tellSkate_87 (k76 : Int32 → Int32 → Int32 → Int32 → Hp → (Option (Int32 × Hp))) : Nat → Int32 → Int32 → Int32 → Int32 → Int32 → Hp → Option (Int32 × Hp)
  | 0, _, _, _, _, _, _ => none
  | n + 1, w2, w3, w4, w5, w6, h =>
    if (F_X7_squares h) ≤ w6 then
    k76 w2 w3 w4 (w5 + 1) h
    else
    F_X7_tellSkate_102 (F_X7_tellSkate_87 k76 n) fuel w2 w3 w4 w5 w6 ((-1) : Int32) (0 : Int32) h
noncomputable def F_X7_tellSkate_76  : Nat → Int32 → Int32 → Int32 → Int32 → Hp → Option (Int32 × Hp)
  | 0, _, _, _, _, _ => none
  | n + 1, w2, w3, w4, w5, h =>
    if w4 ≤ 0 then
    if inb w2 16 = true then
    if (h.1 65 (Int32.toNatClampNeg w2)) = (99 : Int32) then
    some (((-1) : Int32), h)
    else
    if w3 = 0 then
    if inb w2 16 = true then
    some ((h.1 65 (Int32.toNatClampNeg w2)), h)
    else none
    else
    if inb w2 16 = true then
    some ((h.1 66 (Int32.toNatClampNeg w2)), h)
    else none
    else none
    else
    F_X7_tellSkate_87 (F_X7_tellSkate_76 n) fuel w2 w3 (0 : Int32) w5 (0 : Int32) h
noncomputable def F_X7_tellSkate_71  (w2 : Int32) (w3 : Int32) (s0 : Bool) (h : Hp) : Option (Int32 × Hp) :=
  F_X7_tellSkate_76 fuel w2 w3 (b2i s0) (1 : Int32) h
noncomputable def F_X7_tellSkate_3  : Nat → Int32 → Int32 → Int32 → Int32 → Hp → Option (Int32 × Hp)
  | 0, _, _, _, _, _ => none
  | n + 1, w1, w2, w3, w4, h =>
    if (16 : Int32) ≤ w4 then
    if inb w1 16 = true then
    if (h.1 65 (Int32.toNatClampNeg w1)) = 0 then
    F_X7_tellSkate_71 w2 w3 true h
    else
    F_X7_tellSkate_71 w2 w3 false h
    else none
    else
    if w4 = w1 then
    (F_X7_bearsOne w4 h).bind fun v21 =>
    if v21 = true then
    F_X7_tellSkate_37 (F_X7_tellSkate_3 n) w1 w2 w3 w4 (0 : Int32) w4 h
    else
    F_X7_tellSkate_37 (F_X7_tellSkate_3 n) w1 w2 w3 w4 (99 : Int32) w4 h
    else
    F_X7_tellSkate_37 (F_X7_tellSkate_3 n) w1 w2 w3 w4 (99 : Int32) w4 h
noncomputable def F_X7_tellSkate  (p1 : Int32) (p2 : Int32) (p3 : Int32) (σ : Hp) : Option (Int32 × Hp) :=
  F_X7_tellSkate_3 fuel p1 p2 p3 (0 : Int32) σ
set_option maxHeartbeats 4000000 in
set_option maxRecDepth 100000 in
theorem T_X7_tellSkate_37 {G : Gm} {α : Nat → Nat} (hO : Ok G α cX7_tellSkate 9 RX7 2 48) (hR : Rt G α (some .int)) (k3 : Int32 → Int32 → Int32 → Int32 → Hp → (Option (Int32 × Hp))) (hk3 : ∀ (w1 : Int32) (w2 : Int32) (w3 : Int32) (w4 : Int32) (h : Hp), V G α 9 (kSI) 3 [(0, .ref (α (55))), (1, .int w1), (2, .int w2), (3, .int w3), (4, .int w4)] [] h (k3 w1 w2 w3 w4 h)) : ∀ (w1 : Int32) (w2 : Int32) (w3 : Int32) (w4 : Int32) (s0 : Int32) (s1 : Int32) (h : Hp), V G α 9 (kSI) 37 [(0, .ref (α (55))), (1, .int w1), (2, .int w2), (3, .int w3), (4, .int w4)] [.int s0, .int s1, .ref (α (65))] h (F_X7_tellSkate_37 k3 w1 w2 w3 w4 s0 s1 h) := by
  intro w1 w2 w3 w4 s0 s1 h
  rw [F_X7_tellSkate_37]
  refine V_chk rfl fun c1 => ?_
  refine V_iast hO (by decide) (fun _ _ _ => ce_65) (inb_in c1) dX7_tellSkate_37 (V_name fun h2 => ?_)
  refine V_aload_n hO 0 dX7_tellSkate_38 rfl rfl ?_
  refine V_get hO (v := .ref (α (66))) fl_X7_40 (by decide) (fun _ _ => ce_55) rfl dX7_tellSkate_39 ?_
  refine V_iload hO 4 dX7_tellSkate_42 rfl ?_
  refine V_aload_n hO 0 dX7_tellSkate_44 rfl rfl ?_
  refine V_iload hO 4 dX7_tellSkate_45 rfl ?_
  refine V_callV hO ml_X7_211 (C_X7_readIn α w4 h2) (by decide) (fun _ _ => ce_55) rfl rfl (rest := [.int w4, .ref (α (66))]) rfl rfl (Nat.le_of_ble_eq_true rfl) ⟨Nat.le_of_ble_eq_true rfl, Nat.le_of_ble_eq_true rfl⟩ dX7_tellSkate_47 (kc_OI rfl fun v3 => ?_)
  refine V_chk rfl fun c4 => ?_
  refine V_iast hO (by decide) (fun _ _ _ => ce_66) (inb_in c4) dX7_tellSkate_50 (V_name fun h5 => ?_)
  refine V_iinc hO (ls2 := [(4, .int (w4 + 1)), (0, .ref (α (55))), (1, .int w1), (2, .int w2), (3, .int w3)]) (z := 1) 4 dX7_tellSkate_51 rfl (by decide) (by decide) rfl ?_
  refine V_goto hO 3 dX7_tellSkate_54 (by decide) ?_
  exact V_sub [1, 2, 3, 4, 0] rfl (hk3 w1 w2 w3 (w4 + 1) h5 )
set_option maxHeartbeats 4000000 in
set_option maxRecDepth 100000 in
theorem T_X7_tellSkate_219 {G : Gm} {α : Nat → Nat} (hO : Ok G α cX7_tellSkate 9 RX7 2 48) (hR : Rt G α (some .int)) (k87 : Int32 → Int32 → Int32 → Int32 → Int32 → Hp → (Option (Int32 × Hp))) (hk87 : ∀ (w2 : Int32) (w3 : Int32) (w4 : Int32) (w5 : Int32) (w6 : Int32) (h : Hp), V G α 9 (kSI) 87 [(0, .ref (α (55))), (2, .int w2), (3, .int w3), (4, .int w4), (5, .int w5), (6, .int w6)] [] h (k87 w2 w3 w4 w5 w6 h)) : ∀ (w2 : Int32) (w3 : Int32) (w4 : Int32) (w5 : Int32) (w6 : Int32) (h : Hp), V G α 9 (kSI) 219 [(0, .ref (α (55))), (2, .int w2), (3, .int w3), (4, .int w4), (5, .int w5), (6, .int w6)] [] h (F_X7_tellSkate_219 k87 w2 w3 w4 w5 w6 h) := by
  intro w2 w3 w4 w5 w6 h
  rw [F_X7_tellSkate_219]
  refine V_iinc hO (ls2 := [(6, .int (w6 + 1)), (0, .ref (α (55))), (2, .int w2), (3, .int w3), (4, .int w4), (5, .int w5)]) (z := 1) 5 dX7_tellSkate_219 rfl (by decide) (by decide) rfl ?_
  refine V_goto hO 87 dX7_tellSkate_222 (by decide) ?_
  exact V_sub [1, 2, 3, 4, 5, 0] rfl (hk87 w2 w3 w4 w5 (w6 + 1) h )
set_option maxHeartbeats 4000000 in
set_option maxRecDepth 100000 in
theorem T_X7_tellSkate_189 {G : Gm} {α : Nat → Nat} (hO : Ok G α cX7_tellSkate 9 RX7 2 48) (hR : Rt G α (some .int)) (k87 : Int32 → Int32 → Int32 → Int32 → Int32 → Hp → (Option (Int32 × Hp))) (hk87 : ∀ (w2 : Int32) (w3 : Int32) (w4 : Int32) (w5 : Int32) (w6 : Int32) (h : Hp), V G α 9 (kSI) 87 [(0, .ref (α (55))), (2, .int w2), (3, .int w3), (4, .int w4), (5, .int w5), (6, .int w6)] [] h (k87 w2 w3 w4 w5 w6 h)) : ∀ (w2 : Int32) (w3 : Int32) (w4 : Int32) (w5 : Int32) (w6 : Int32) (w7 : Int32) (h : Hp), V G α 9 (kSI) 189 [(0, .ref (α (55))), (2, .int w2), (3, .int w3), (4, .int w4), (5, .int w5), (6, .int w6), (7, .int w7)] [] h (F_X7_tellSkate_189 k87 w2 w3 w4 w5 w6 w7 h) := by
  intro w2 w3 w4 w5 w6 w7 h
  rw [F_X7_tellSkate_189]
  refine V_iload hO 6 dX7_tellSkate_189 rfl ?_
  refine V_iconst hO (-1) dX7_tellSkate_191 (by decide) ?_
  refine V_icmp_eq hO 219 dX7_tellSkate_192 (by decide) ?_ ?_
  · exact V_sub [0, 1, 2, 3, 4, 5] rfl (T_X7_tellSkate_219 hO hR k87 hk87 w2 w3 w4 w5 w6 h )
  · refine V_aload_n hO 0 dX7_tellSkate_195 rfl rfl ?_
    refine V_get hO (v := .ref (α (65))) fl_X7_37 (by decide) (fun _ _ => ce_55) rfl dX7_tellSkate_196 ?_
    refine V_iload hO 5 dX7_tellSkate_199 rfl ?_
    refine V_iload hO 4 dX7_tellSkate_201 rfl ?_
    refine V_chk rfl fun c6 => ?_
    refine V_iast hO (by decide) (fun _ _ _ => ce_65) (inb_in c6) dX7_tellSkate_203 (V_name fun h7 => ?_)
    refine V_aload_n hO 0 dX7_tellSkate_204 rfl rfl ?_
    refine V_get hO (v := .ref (α (66))) fl_X7_40 (by decide) (fun _ _ => ce_55) rfl dX7_tellSkate_205 ?_
    refine V_iload hO 5 dX7_tellSkate_208 rfl ?_
    refine V_dup2 hO dX7_tellSkate_210 rfl rfl ?_
    refine V_chk rfl fun c8 => ?_
    refine V_iald hO (by decide) (fun _ _ => ce_66) (inb_in c8) dX7_tellSkate_211 ?_
    refine V_iload hO 6 dX7_tellSkate_212 rfl ?_
    refine V_iadd hO dX7_tellSkate_214 ?_
    refine V_chk rfl fun c9 => ?_
    refine V_iast hO (by decide) (fun _ _ _ => ce_66) (inb_in c9) dX7_tellSkate_215 (V_name fun h10 => ?_)
    refine V_iinc hO (ls2 := [(4, .int (w4 + 1)), (0, .ref (α (55))), (2, .int w2), (3, .int w3), (5, .int w5), (6, .int w6), (7, .int w7)]) (z := 1) 3 dX7_tellSkate_216 rfl (by decide) (by decide) rfl ?_
    exact V_sub [1, 2, 3, 0, 4, 5] rfl (T_X7_tellSkate_219 hO hR k87 hk87 w2 w3 (w4 + 1) w5 w6 h10 )
set_option maxHeartbeats 4000000 in
set_option maxRecDepth 100000 in
theorem T_X7_tellSkate_181 {G : Gm} {α : Nat → Nat} (hO : Ok G α cX7_tellSkate 9 RX7 2 48) (hR : Rt G α (some .int)) (k102 : Int32 → Int32 → Int32 → Int32 → Int32 → Int32 → Int32 → Hp → (Option (Int32 × Hp))) (hk102 : ∀ (w2 : Int32) (w3 : Int32) (w4 : Int32) (w5 : Int32) (w6 : Int32) (w7 : Int32) (w8 : Int32) (h : Hp), V G α 9 (kSI) 102 [(0, .ref (α (55))), (2, .int w2), (3, .int w3), (4, .int w4), (5, .int w5), (6, .int w6), (7, .int w7), (8, .int w8)] [] h (k102 w2 w3 w4 w5 w6 w7 w8 h)) : ∀ (w2 : Int32) (w3 : Int32) (w4 : Int32) (w5 : Int32) (w6 : Int32) (w8 : Int32) (s0 : Int32) (h : Hp), V G α 9 (kSI) 181 [(0, .ref (α (55))), (2, .int w2), (3, .int w3), (4, .int w4), (5, .int w5), (6, .int w6), (8, .int w8)] [.int s0] h (F_X7_tellSkate_181 k102 w2 w3 w4 w5 w6 w8 s0 h) := by
  intro w2 w3 w4 w5 w6 w8 s0 h
  rw [F_X7_tellSkate_181]
  refine V_istore hO (ls2 := [(7, .int s0), (0, .ref (α (55))), (2, .int w2), (3, .int w3), (4, .int w4), (5, .int w5), (6, .int w6), (8, .int w8)]) dX7_tellSkate_181 (by decide) rfl ?_
  refine V_iinc hO (ls2 := [(8, .int (w8 + 1)), (7, .int s0), (0, .ref (α (55))), (2, .int w2), (3, .int w3), (4, .int w4), (5, .int w5), (6, .int w6)]) (z := 1) 7 dX7_tellSkate_183 rfl (by decide) (by decide) rfl ?_
  refine V_goto hO 102 dX7_tellSkate_186 (by decide) ?_
  exact V_sub [2, 3, 4, 5, 6, 7, 1, 0] rfl (hk102 w2 w3 w4 w5 w6 s0 (w8 + 1) h )
set_option maxHeartbeats 4000000 in
set_option maxRecDepth 100000 in
theorem T_X7_tellSkate_179 {G : Gm} {α : Nat → Nat} (hO : Ok G α cX7_tellSkate 9 RX7 2 48) (hR : Rt G α (some .int)) (k102 : Int32 → Int32 → Int32 → Int32 → Int32 → Int32 → Int32 → Hp → (Option (Int32 × Hp))) (hk102 : ∀ (w2 : Int32) (w3 : Int32) (w4 : Int32) (w5 : Int32) (w6 : Int32) (w7 : Int32) (w8 : Int32) (h : Hp), V G α 9 (kSI) 102 [(0, .ref (α (55))), (2, .int w2), (3, .int w3), (4, .int w4), (5, .int w5), (6, .int w6), (7, .int w7), (8, .int w8)] [] h (k102 w2 w3 w4 w5 w6 w7 w8 h)) : ∀ (w2 : Int32) (w3 : Int32) (w4 : Int32) (w5 : Int32) (w6 : Int32) (w7 : Int32) (w8 : Int32) (h : Hp), V G α 9 (kSI) 179 [(0, .ref (α (55))), (2, .int w2), (3, .int w3), (4, .int w4), (5, .int w5), (6, .int w6), (7, .int w7), (8, .int w8)] [] h (F_X7_tellSkate_179 k102 w2 w3 w4 w5 w6 w7 w8 h) := by
  intro w2 w3 w4 w5 w6 w7 w8 h
  rw [F_X7_tellSkate_179]
  refine V_iload hO 6 dX7_tellSkate_179 rfl ?_
  exact V_sub [0, 1, 2, 3, 4, 5, 7] rfl (T_X7_tellSkate_181 hO hR k102 hk102 w2 w3 w4 w5 w6 w8 w7 h )
set_option maxHeartbeats 4000000 in
set_option maxRecDepth 100000 in
theorem T_X7_tellSkate_102 {G : Gm} {α : Nat → Nat} (hO : Ok G α cX7_tellSkate 9 RX7 2 48) (hR : Rt G α (some .int)) (k87 : Int32 → Int32 → Int32 → Int32 → Int32 → Hp → (Option (Int32 × Hp))) (hk87 : ∀ (w2 : Int32) (w3 : Int32) (w4 : Int32) (w5 : Int32) (w6 : Int32) (h : Hp), V G α 9 (kSI) 87 [(0, .ref (α (55))), (2, .int w2), (3, .int w3), (4, .int w4), (5, .int w5), (6, .int w6)] [] h (k87 w2 w3 w4 w5 w6 h)) : ∀ (fuel : Nat) (w2 : Int32) (w3 : Int32) (w4 : Int32) (w5 : Int32) (w6 : Int32) (w7 : Int32) (w8 : Int32) (h : Hp), V G α 9 (kSI) 102 [(0, .ref (α (55))), (2, .int w2), (3, .int w3), (4, .int w4), (5, .int w5), (6, .int w6), (7, .int w7), (8, .int w8)] [] h (F_X7_tellSkate_102 k87 fuel w2 w3 w4 w5 w6 w7 w8 h) := by
  intro fuel
  induction fuel with
  | zero => intro w2 w3 w4 w5 w6 w7 w8 h; exact V_none rfl
  | succ n ih =>
    intro w2 w3 w4 w5 w6 w7 w8 h
    rw [F_X7_tellSkate_102]
    refine V_iload hO 7 dX7_tellSkate_102 rfl ?_
    refine V_aload_n hO 0 dX7_tellSkate_104 rfl rfl ?_
    refine V_callV hO ml_X7_71 (C_X7_squares α h) (by decide) (fun _ _ => ce_55) rfl rfl (rest := [.int w8]) rfl rfl (Nat.le_of_ble_eq_true rfl) ⟨Nat.le_of_ble_eq_true rfl, Nat.le_of_ble_eq_true rfl⟩ dX7_tellSkate_105 (kc_I ?_)
    refine V_icmp_ge hO 189 dX7_tellSkate_108 (by decide) ?_ ?_
    · exact V_sub [0, 1, 2, 3, 4, 5, 6] rfl (T_X7_tellSkate_189 hO hR k87 hk87 w2 w3 w4 w5 w6 w7 h )
    · refine V_aload_n hO 0 dX7_tellSkate_111 rfl rfl ?_
      refine V_get hO (v := .ref (α (65))) fl_X7_37 (by decide) (fun _ _ => ce_55) rfl dX7_tellSkate_112 ?_
      refine V_iload hO 5 dX7_tellSkate_115 rfl ?_
      refine V_chk rfl fun c11 => ?_
      refine V_iald hO (by decide) (fun _ _ => ce_65) (inb_in c11) dX7_tellSkate_117 ?_
      refine V_bipush hO 99 dX7_tellSkate_118 (by decide) ?_
      refine V_icmp_ne hO 189 dX7_tellSkate_120 (by decide) ?_ ?_
      · exact V_sub [0, 1, 2, 3, 4, 5, 6] rfl (T_X7_tellSkate_189 hO hR k87 hk87 w2 w3 w4 w5 w6 w7 h )
      · refine V_aload_n hO 0 dX7_tellSkate_123 rfl rfl ?_
        refine V_iload hO 5 dX7_tellSkate_124 rfl ?_
        refine V_callV hO ml_X7_107 (C_X7_bearsOne α w6 h) (by decide) (fun _ _ => ce_55) rfl rfl (rest := []) rfl rfl (Nat.le_of_ble_eq_true rfl) ⟨Nat.le_of_ble_eq_true rfl, Nat.le_of_ble_eq_true rfl⟩ dX7_tellSkate_126 (kc_OZ rfl fun v12 => ?_)
        refine V_ifeqZ hO 189 dX7_tellSkate_129 (by decide) ?_ ?_
        · exact V_sub [0, 1, 2, 3, 4, 5, 6] rfl (T_X7_tellSkate_189 hO hR k87 hk87 w2 w3 w4 w5 w6 w7 h )
        · refine V_aload_n hO 0 dX7_tellSkate_132 rfl rfl ?_
          refine V_get hO (v := .ref (α (65))) fl_X7_37 (by decide) (fun _ _ => ce_55) rfl dX7_tellSkate_133 ?_
          refine V_iload hO 7 dX7_tellSkate_136 rfl ?_
          refine V_chk rfl fun c13 => ?_
          refine V_iald hO (by decide) (fun _ _ => ce_65) (inb_in c13) dX7_tellSkate_138 ?_
          refine V_iload hO 4 dX7_tellSkate_139 rfl ?_
          refine V_iconst hO 1 dX7_tellSkate_141 (by decide) ?_
          refine V_isub hO dX7_tellSkate_142 ?_
          refine V_icmp_ne hO 179 dX7_tellSkate_143 (by decide) ?_ ?_
          · exact V_sub [0, 1, 2, 3, 4, 5, 6, 7] rfl (T_X7_tellSkate_179 hO hR (F_X7_tellSkate_102 k87 n) ih w2 w3 w4 w5 w6 w7 w8 h )
          · refine V_aload_n hO 0 dX7_tellSkate_146 rfl rfl ?_
            refine V_iload hO 7 dX7_tellSkate_147 rfl ?_
            refine V_iload hO 5 dX7_tellSkate_149 rfl ?_
            refine V_callV hO ml_X7_214 (C_X7_areBeside α w8 w6 h) (by decide) (fun _ _ => ce_55) rfl rfl (rest := []) rfl rfl (Nat.le_of_ble_eq_true rfl) ⟨Nat.le_of_ble_eq_true rfl, Nat.le_of_ble_eq_true rfl⟩ dX7_tellSkate_151 (kc_OZ rfl fun v14 => ?_)
            refine V_ifeqZ hO 179 dX7_tellSkate_154 (by decide) ?_ ?_
            · exact V_sub [0, 1, 2, 3, 4, 5, 6, 7] rfl (T_X7_tellSkate_179 hO hR (F_X7_tellSkate_102 k87 n) ih w2 w3 w4 w5 w6 w7 w8 h )
            · refine V_aload_n hO 0 dX7_tellSkate_157 rfl rfl ?_
              refine V_get hO (v := .ref (α (66))) fl_X7_40 (by decide) (fun _ _ => ce_55) rfl dX7_tellSkate_158 ?_
              refine V_iload hO 7 dX7_tellSkate_161 rfl ?_
              refine V_chk rfl fun c15 => ?_
              refine V_iald hO (by decide) (fun _ _ => ce_66) (inb_in c15) dX7_tellSkate_163 ?_
              refine V_iload hO 6 dX7_tellSkate_164 rfl ?_
              refine V_icmp_le hO 179 dX7_tellSkate_166 (by decide) ?_ ?_
              · exact V_sub [0, 1, 2, 3, 4, 5, 6, 7] rfl (T_X7_tellSkate_179 hO hR (F_X7_tellSkate_102 k87 n) ih w2 w3 w4 w5 w6 w7 w8 h )
              · refine V_aload_n hO 0 dX7_tellSkate_169 rfl rfl ?_
                refine V_get hO (v := .ref (α (66))) fl_X7_40 (by decide) (fun _ _ => ce_55) rfl dX7_tellSkate_170 ?_
                refine V_iload hO 7 dX7_tellSkate_173 rfl ?_
                refine V_chk rfl fun c16 => ?_
                refine V_iald hO (by decide) (fun _ _ => ce_66) (inb_in c16) dX7_tellSkate_175 ?_
                refine V_goto hO 181 dX7_tellSkate_176 (by decide) ?_
                exact V_sub [0, 1, 2, 3, 4, 5, 7] rfl (T_X7_tellSkate_181 hO hR (F_X7_tellSkate_102 k87 n) ih w2 w3 w4 w5 w6 w8 (h.1 66 (Int32.toNatClampNeg w8)) h )
set_option maxHeartbeats 4000000 in
set_option maxRecDepth 100000 in
theorem T_X7_tellSkate_87 {G : Gm} {α : Nat → Nat} (hO : Ok G α cX7_tellSkate 9 RX7 2 48) (hR : Rt G α (some .int)) (k76 : Int32 → Int32 → Int32 → Int32 → Hp → (Option (Int32 × Hp))) (hk76 : ∀ (w2 : Int32) (w3 : Int32) (w4 : Int32) (w5 : Int32) (h : Hp), V G α 9 (kSI) 76 [(0, .ref (α (55))), (2, .int w2), (3, .int w3), (4, .int w4), (5, .int w5)] [] h (k76 w2 w3 w4 w5 h)) : ∀ (fuel : Nat) (w2 : Int32) (w3 : Int32) (w4 : Int32) (w5 : Int32) (w6 : Int32) (h : Hp), V G α 9 (kSI) 87 [(0, .ref (α (55))), (2, .int w2), (3, .int w3), (4, .int w4), (5, .int w5), (6, .int w6)] [] h (F_X7_tellSkate_87 k76 fuel w2 w3 w4 w5 w6 h) := by
  intro fuel
  induction fuel with
  | zero => intro w2 w3 w4 w5 w6 h; exact V_none rfl
  | succ n ih =>
    intro w2 w3 w4 w5 w6 h
    rw [F_X7_tellSkate_87]
    refine V_iload hO 5 dX7_tellSkate_87 rfl ?_
    refine V_aload_n hO 0 dX7_tellSkate_89 rfl rfl ?_
    refine V_callV hO ml_X7_71 (C_X7_squares α h) (by decide) (fun _ _ => ce_55) rfl rfl (rest := [.int w6]) rfl rfl (Nat.le_of_ble_eq_true rfl) ⟨Nat.le_of_ble_eq_true rfl, Nat.le_of_ble_eq_true rfl⟩ dX7_tellSkate_90 (kc_I ?_)
    refine V_icmp_ge hO 225 dX7_tellSkate_93 (by decide) ?_ ?_
    · refine V_iinc hO (ls2 := [(5, .int (w5 + 1)), (0, .ref (α (55))), (2, .int w2), (3, .int w3), (4, .int w4), (6, .int w6)]) (z := 1) 4 dX7_tellSkate_225 rfl (by decide) (by decide) rfl ?_
      refine V_goto hO 76 dX7_tellSkate_228 (by decide) ?_
      exact V_sub [1, 2, 3, 4, 0] rfl (hk76 w2 w3 w4 (w5 + 1) h )
    · refine V_iconst hO (-1) dX7_tellSkate_96 (by decide) ?_
      refine V_istore hO (ls2 := [(7, .int (-1)), (0, .ref (α (55))), (2, .int w2), (3, .int w3), (4, .int w4), (5, .int w5), (6, .int w6)]) dX7_tellSkate_97 (by decide) rfl ?_
      refine V_iconst hO 0 dX7_tellSkate_99 (by decide) ?_
      refine V_istore hO (ls2 := [(8, .int 0), (7, .int (-1)), (0, .ref (α (55))), (2, .int w2), (3, .int w3), (4, .int w4), (5, .int w5), (6, .int w6)]) dX7_tellSkate_100 (by decide) rfl ?_
      exact V_sub [2, 3, 4, 5, 6, 7, 1, 0] rfl (T_X7_tellSkate_102 hO hR (F_X7_tellSkate_87 k76 n) ih fuel w2 w3 w4 w5 w6 ((-1) : Int32) (0 : Int32) h )
set_option maxHeartbeats 4000000 in
set_option maxRecDepth 100000 in
theorem T_X7_tellSkate_76 {G : Gm} {α : Nat → Nat} (hO : Ok G α cX7_tellSkate 9 RX7 2 48) (hR : Rt G α (some .int)) : ∀ (fuel : Nat) (w2 : Int32) (w3 : Int32) (w4 : Int32) (w5 : Int32) (h : Hp), V G α 9 (kSI) 76 [(0, .ref (α (55))), (2, .int w2), (3, .int w3), (4, .int w4), (5, .int w5)] [] h (F_X7_tellSkate_76 fuel w2 w3 w4 w5 h) := by
  intro fuel
  induction fuel with
  | zero => intro w2 w3 w4 w5 h; exact V_none rfl
  | succ n ih =>
    intro w2 w3 w4 w5 h
    rw [F_X7_tellSkate_76]
    refine V_iload hO 3 dX7_tellSkate_76 rfl ?_
    refine V_if_le hO 231 dX7_tellSkate_78 (by decide) ?_ ?_
    · refine V_aload_n hO 0 dX7_tellSkate_231 rfl rfl ?_
      refine V_get hO (v := .ref (α (65))) fl_X7_37 (by decide) (fun _ _ => ce_55) rfl dX7_tellSkate_232 ?_
      refine V_iload_n hO 1 dX7_tellSkate_235 rfl rfl ?_
      refine V_chk rfl fun c17 => ?_
      refine V_iald hO (by decide) (fun _ _ => ce_65) (inb_in c17) dX7_tellSkate_236 ?_
      refine V_bipush hO 99 dX7_tellSkate_237 (by decide) ?_
      refine V_icmp_ne hO 246 dX7_tellSkate_239 (by decide) ?_ ?_
      · refine V_iload_n hO 2 dX7_tellSkate_246 rfl rfl ?_
        refine V_if_ne hO 259 dX7_tellSkate_247 (by decide) ?_ ?_
        · refine V_aload_n hO 0 dX7_tellSkate_259 rfl rfl ?_
          refine V_get hO (v := .ref (α (66))) fl_X7_40 (by decide) (fun _ _ => ce_55) rfl dX7_tellSkate_260 ?_
          refine V_iload_n hO 1 dX7_tellSkate_263 rfl rfl ?_
          refine V_chk rfl fun c18 => ?_
          refine V_iald hO (by decide) (fun _ _ => ce_66) (inb_in c18) dX7_tellSkate_264 ?_
          exact V_iret hO hR rfl dX7_tellSkate_265
        · refine V_aload_n hO 0 dX7_tellSkate_250 rfl rfl ?_
          refine V_get hO (v := .ref (α (65))) fl_X7_37 (by decide) (fun _ _ => ce_55) rfl dX7_tellSkate_251 ?_
          refine V_iload_n hO 1 dX7_tellSkate_254 rfl rfl ?_
          refine V_chk rfl fun c19 => ?_
          refine V_iald hO (by decide) (fun _ _ => ce_65) (inb_in c19) dX7_tellSkate_255 ?_
          refine V_goto hO 265 dX7_tellSkate_256 (by decide) ?_
          exact V_iret hO hR rfl dX7_tellSkate_265
      · refine V_iconst hO (-1) dX7_tellSkate_242 (by decide) ?_
        refine V_goto hO 265 dX7_tellSkate_243 (by decide) ?_
        exact V_iret hO hR rfl dX7_tellSkate_265
    · refine V_iconst hO 0 dX7_tellSkate_81 (by decide) ?_
      refine V_istore hO (ls2 := [(4, .int 0), (0, .ref (α (55))), (2, .int w2), (3, .int w3), (5, .int w5)]) dX7_tellSkate_82 (by decide) rfl ?_
      refine V_iconst hO 0 dX7_tellSkate_84 (by decide) ?_
      refine V_istore hO (ls2 := [(6, .int 0), (4, .int 0), (0, .ref (α (55))), (2, .int w2), (3, .int w3), (5, .int w5)]) dX7_tellSkate_85 (by decide) rfl ?_
      exact V_sub [2, 3, 4, 1, 5, 0] rfl (T_X7_tellSkate_87 hO hR (F_X7_tellSkate_76 n) ih fuel w2 w3 (0 : Int32) w5 (0 : Int32) h )
set_option maxHeartbeats 4000000 in
set_option maxRecDepth 100000 in
theorem T_X7_tellSkate_71 {G : Gm} {α : Nat → Nat} (hO : Ok G α cX7_tellSkate 9 RX7 2 48) (hR : Rt G α (some .int)) : ∀ (w2 : Int32) (w3 : Int32) (s0 : Bool) (h : Hp), V G α 9 (kSI) 71 [(0, .ref (α (55))), (2, .int w2), (3, .int w3)] [.int (b2i s0)] h (F_X7_tellSkate_71 w2 w3 s0 h) := by
  intro w2 w3 s0 h
  rw [F_X7_tellSkate_71]
  refine V_istore hO (ls2 := [(4, .int (b2i s0)), (0, .ref (α (55))), (2, .int w2), (3, .int w3)]) dX7_tellSkate_71 (by decide) rfl ?_
  refine V_iconst hO 1 dX7_tellSkate_73 (by decide) ?_
  refine V_istore hO (ls2 := [(5, .int 1), (4, .int (b2i s0)), (0, .ref (α (55))), (2, .int w2), (3, .int w3)]) dX7_tellSkate_74 (by decide) rfl ?_
  exact V_sub [2, 3, 4, 1, 0] rfl (T_X7_tellSkate_76 hO hR fuel w2 w3 (b2i s0) (1 : Int32) h )
set_option maxHeartbeats 4000000 in
set_option maxRecDepth 100000 in
theorem T_X7_tellSkate_3 {G : Gm} {α : Nat → Nat} (hO : Ok G α cX7_tellSkate 9 RX7 2 48) (hR : Rt G α (some .int)) : ∀ (fuel : Nat) (w1 : Int32) (w2 : Int32) (w3 : Int32) (w4 : Int32) (h : Hp), V G α 9 (kSI) 3 [(0, .ref (α (55))), (1, .int w1), (2, .int w2), (3, .int w3), (4, .int w4)] [] h (F_X7_tellSkate_3 fuel w1 w2 w3 w4 h) := by
  intro fuel
  induction fuel with
  | zero => intro w1 w2 w3 w4 h; exact V_none rfl
  | succ n ih =>
    intro w1 w2 w3 w4 h
    rw [F_X7_tellSkate_3]
    refine V_iload hO 4 dX7_tellSkate_3 rfl ?_
    refine V_bipush hO 16 dX7_tellSkate_5 (by decide) ?_
    refine V_icmp_ge hO 57 dX7_tellSkate_7 (by decide) ?_ ?_
    · refine V_aload_n hO 0 dX7_tellSkate_57 rfl rfl ?_
      refine V_get hO (v := .ref (α (65))) fl_X7_37 (by decide) (fun _ _ => ce_55) rfl dX7_tellSkate_58 ?_
      refine V_iload_n hO 1 dX7_tellSkate_61 rfl rfl ?_
      refine V_chk rfl fun c20 => ?_
      refine V_iald hO (by decide) (fun _ _ => ce_65) (inb_in c20) dX7_tellSkate_62 ?_
      refine V_if_ne hO 70 dX7_tellSkate_63 (by decide) ?_ ?_
      · refine V_iconst hO 0 dX7_tellSkate_70 (by decide) ?_
        exact V_sub [0, 2, 3] rfl (T_X7_tellSkate_71 hO hR w2 w3 false h )
      · refine V_iconst hO 1 dX7_tellSkate_66 (by decide) ?_
        refine V_goto hO 71 dX7_tellSkate_67 (by decide) ?_
        exact V_sub [0, 2, 3] rfl (T_X7_tellSkate_71 hO hR w2 w3 true h )
    · refine V_aload_n hO 0 dX7_tellSkate_10 rfl rfl ?_
      refine V_get hO (v := .ref (α (65))) fl_X7_37 (by decide) (fun _ _ => ce_55) rfl dX7_tellSkate_11 ?_
      refine V_iload hO 4 dX7_tellSkate_14 rfl ?_
      refine V_iload hO 4 dX7_tellSkate_16 rfl ?_
      refine V_iload_n hO 1 dX7_tellSkate_18 rfl rfl ?_
      refine V_icmp_ne hO 35 dX7_tellSkate_19 (by decide) ?_ ?_
      · refine V_bipush hO 99 dX7_tellSkate_35 (by decide) ?_
        exact V_sub [0, 1, 2, 3, 4] rfl (T_X7_tellSkate_37 hO hR (F_X7_tellSkate_3 n) ih w1 w2 w3 w4 (99 : Int32) w4 h )
      · refine V_aload_n hO 0 dX7_tellSkate_22 rfl rfl ?_
        refine V_iload hO 4 dX7_tellSkate_23 rfl ?_
        refine V_callV hO ml_X7_107 (C_X7_bearsOne α w4 h) (by decide) (fun _ _ => ce_55) rfl rfl (rest := [.int w4, .ref (α (65))]) rfl rfl (Nat.le_of_ble_eq_true rfl) ⟨Nat.le_of_ble_eq_true rfl, Nat.le_of_ble_eq_true rfl⟩ dX7_tellSkate_25 (kc_OZ rfl fun v21 => ?_)
        refine V_ifeqZ hO 35 dX7_tellSkate_28 (by decide) ?_ ?_
        · refine V_bipush hO 99 dX7_tellSkate_35 (by decide) ?_
          exact V_sub [0, 1, 2, 3, 4] rfl (T_X7_tellSkate_37 hO hR (F_X7_tellSkate_3 n) ih w1 w2 w3 w4 (99 : Int32) w4 h )
        · refine V_iconst hO 0 dX7_tellSkate_31 (by decide) ?_
          refine V_goto hO 37 dX7_tellSkate_32 (by decide) ?_
          exact V_sub [0, 1, 2, 3, 4] rfl (T_X7_tellSkate_37 hO hR (F_X7_tellSkate_3 n) ih w1 w2 w3 w4 (0 : Int32) w4 h )
set_option maxHeartbeats 4000000 in
set_option maxRecDepth 100000 in
theorem T_X7_tellSkate {G : Gm} {α : Nat → Nat} (hO : Ok G α cX7_tellSkate 9 RX7 2 48) (hR : Rt G α (some .int)) (p1 : Int32) (p2 : Int32) (p3 : Int32) (σ : Hp) : V G α 9 (kSI) 0 [(0, .ref (α (55))), (1, .int p1), (2, .int p2), (3, .int p3)] [] σ (F_X7_tellSkate p1 p2 p3 σ) := by
  rw [F_X7_tellSkate]
  refine V_iconst hO 0 dX7_tellSkate_0 (by decide) ?_
  refine V_istore hO (ls2 := [(4, .int 0), (0, .ref (α (55))), (1, .int p1), (2, .int p2), (3, .int p3)]) dX7_tellSkate_1 (by decide) rfl ?_
  exact V_sub [1, 2, 3, 4, 0] rfl (T_X7_tellSkate_3 hO hR fuel p1 p2 p3 (0 : Int32) σ )
set_option maxHeartbeats 4000000 in
set_option maxRecDepth 100000 in
theorem C_X7_tellSkate (α : Nat → Nat) (p1 : Int32) (p2 : Int32) (p3 : Int32) (σ : Hp) : Ct yX7_tellSkate cX7_tellSkate 9 (some .int) 2 48 α [.ref (α (55)), .int p1, .int p2, .int p3] σ (kSI (F_X7_tellSkate p1 p2 p3 σ)) := ct_of_V (own := RX7) rfl (by decide +kernel) (Nat.le_of_ble_eq_true rfl) fun _ hO hR => T_X7_tellSkate hO hR p1 p2 p3 σ
