theorem fo_X2 : Cond.methodLink RX2 3 objectInit ∈ gw := gd 146 (by decide +kernel) (by decide +kernel)
theorem fx_X2_9ff : Cond.fieldLink RX2 9 (TX2 0).1 (TX2 0).2.1 (TX2 0).2.2.1 ∈ gw := gd 147 (by decide +kernel) (by decide +kernel)
theorem ff_X2_9 : FPF RX2 9 2 0 (.array .int) := ⟨RX2, TX2, 2, tyX2, rfl, by decide, iw_X2, fx_X2_9ff, tyX2_ok, nmX2, rfl, rfl, by decide +kernel⟩
theorem fo_X4 : Cond.methodLink RX4 3 objectInit ∈ gw := gd 161 (by decide +kernel) (by decide +kernel)
theorem fx_X4_9ff : Cond.fieldLink RX4 9 (TX4 0).1 (TX4 0).2.1 (TX4 0).2.2.1 ∈ gw := gd 162 (by decide +kernel) (by decide +kernel)
theorem ff_X4_9 : FPF RX4 9 4 0 (.array .int) := ⟨RX4, TX4, 5, tyX4, rfl, by decide, iw_X4, fx_X4_9ff, tyX4_ok, nmX4, rfl, rfl, by decide +kernel⟩
theorem fx_X4_15ff : Cond.fieldLink RX4 15 (TX4 1).1 (TX4 1).2.1 (TX4 1).2.2.1 ∈ gw := gd 164 (by decide +kernel) (by decide +kernel)
theorem ff_X4_15 : FPF RX4 15 4 1 (.array .int) := ⟨RX4, TX4, 5, tyX4, rfl, by decide, iw_X4, fx_X4_15ff, tyX4_ok, nmX4, rfl, rfl, by decide +kernel⟩
theorem fx_X4_18ff : Cond.fieldLink RX4 18 (TX4 2).1 (TX4 2).2.1 (TX4 2).2.2.1 ∈ gw := gd 166 (by decide +kernel) (by decide +kernel)
theorem ff_X4_18 : FPF RX4 18 4 2 (.array .int) := ⟨RX4, TX4, 5, tyX4, rfl, by decide, iw_X4, fx_X4_18ff, tyX4_ok, nmX4, rfl, rfl, by decide +kernel⟩
theorem fx_X4_21ff : Cond.fieldLink RX4 21 (TX4 3).1 (TX4 3).2.1 (TX4 3).2.2.1 ∈ gw := gd 167 (by decide +kernel) (by decide +kernel)
theorem ff_X4_21 : FPF RX4 21 4 3 (.array .int) := ⟨RX4, TX4, 5, tyX4, rfl, by decide, iw_X4, fx_X4_21ff, tyX4_ok, nmX4, rfl, rfl, by decide +kernel⟩
theorem fo_X1 : Cond.methodLink RX1 3 objectInit ∈ gw := gd 185 (by decide +kernel) (by decide +kernel)
theorem fx_X1_9ff : Cond.fieldLink RX1 9 (TX1 3).1 (TX1 3).2.1 (TX1 3).2.2.1 ∈ gw := gd 191 (by decide +kernel) (by decide +kernel)
theorem ff_X1_9 : FPF RX1 9 1 3 (.array .int) := ⟨RX1, TX1, 6, tyX1, rfl, by decide, iw_X1, fx_X1_9ff, tyX1_ok, nmX1, rfl, rfl, by decide +kernel⟩
theorem fx_X1_15ff : Cond.fieldLink RX1 15 (TX1 4).1 (TX1 4).2.1 (TX1 4).2.2.1 ∈ gw := gd 192 (by decide +kernel) (by decide +kernel)
theorem ff_X1_15 : FPF RX1 15 1 4 (.array .int) := ⟨RX1, TX1, 6, tyX1, rfl, by decide, iw_X1, fx_X1_15ff, tyX1_ok, nmX1, rfl, rfl, by decide +kernel⟩
theorem fx_X1_18ff : Cond.fieldLink RX1 18 (TX1 5).1 (TX1 5).2.1 (TX1 5).2.2.1 ∈ gw := gd 193 (by decide +kernel) (by decide +kernel)
theorem ff_X1_18 : FPF RX1 18 1 5 (.array .int) := ⟨RX1, TX1, 6, tyX1, rfl, by decide, iw_X1, fx_X1_18ff, tyX1_ok, nmX1, rfl, rfl, by decide +kernel⟩
theorem fo_X3 : Cond.methodLink RX3 3 objectInit ∈ gw := gd 212 (by decide +kernel) (by decide +kernel)
theorem fx_X3_9ff : Cond.fieldLink RX3 9 (TX3 0).1 (TX3 0).2.1 (TX3 0).2.2.1 ∈ gw := gd 213 (by decide +kernel) (by decide +kernel)
theorem ff_X3_9 : FPF RX3 9 3 0 (.array .int) := ⟨RX3, TX3, 3, tyX3, rfl, by decide, iw_X3, fx_X3_9ff, tyX3_ok, nmX3, rfl, rfl, by decide +kernel⟩
theorem fx_X3_15ff : Cond.fieldLink RX3 15 (TX3 1).1 (TX3 1).2.1 (TX3 1).2.2.1 ∈ gw := gd 214 (by decide +kernel) (by decide +kernel)
theorem ff_X3_15 : FPF RX3 15 3 1 (.array .int) := ⟨RX3, TX3, 3, tyX3, rfl, by decide, iw_X3, fx_X3_15ff, tyX3_ok, nmX3, rfl, rfl, by decide +kernel⟩
theorem fx_X3_18ff : Cond.fieldLink RX3 18 (TX3 2).1 (TX3 2).2.1 (TX3 2).2.2.1 ∈ gw := gd 215 (by decide +kernel) (by decide +kernel)
theorem ff_X3_18 : FPF RX3 18 3 2 (.array .int) := ⟨RX3, TX3, 3, tyX3, rfl, by decide, iw_X3, fx_X3_18ff, tyX3_ok, nmX3, rfl, rfl, by decide +kernel⟩
theorem fo_X0 : Cond.methodLink RX0 3 objectInit ∈ gw := gd 71 (by decide +kernel) (by decide +kernel)
theorem fo_X5 : Cond.methodLink RX5 3 objectInit ∈ gw := gd 64 (by decide +kernel) (by decide +kernel)
theorem fx_X5_9ff : Cond.fieldLink RX5 9 (TX5 5).1 (TX5 5).2.1 (TX5 5).2.2.1 ∈ gw := gd 121 (by decide +kernel) (by decide +kernel)
theorem ff_X5_9 : FPF RX5 9 5 5 (.array .int) := ⟨RX5, TX5, 7, tyX5, rfl, by decide, iw_X5, fx_X5_9ff, tyX5_ok, nmX5, rfl, rfl, by decide +kernel⟩
theorem cl_X5_15 : Cond.classLink RX5 15 RX0 ∈ gw := gd 65 (by decide +kernel) (by decide +kernel)
theorem it_X0 : Cond.instantiable RX0 8 ∈ gw := gd 67 (by decide +kernel) (by decide +kernel)
theorem dv_X0 : ∀ j, j < 8 → defaultValue (tyX0 j) = vp_V [.int 0, .int 0, .int 0, .int 0, .int 0, .int 0, .int 0, .int 0] j := by decide +kernel
theorem fx_X5_17ff : Cond.fieldLink RX5 17 (TX5 6).1 (TX5 6).2.1 (TX5 6).2.2.1 ∈ gw := gd 123 (by decide +kernel) (by decide +kernel)
theorem ff_X5_17 : FPF RX5 17 5 6 (.array (.object RX0)) := ⟨RX5, TX5, 7, tyX5, rfl, by decide, iw_X5, fx_X5_17ff, tyX5_ok, nmX5, rfl, rfl, by decide +kernel⟩
theorem fg_X5_17 : FL RX5 17 5 6 := ⟨RX5, TX5, 7, rfl, by decide, iw_X5, gd 123 (by decide +kernel) (by decide +kernel)⟩
set_option maxRecDepth 40000 in
theorem mk_X0_init : Cond.code yX0_init cX0_init 1 none ∈ gw := gd 70 rfl rfl
theorem mj_X5_21 : MIn RX5 21 yX0_init cX0_init 1 := ⟨fun _ h => h.2.2.2.2.2, gd 69 (by decide +kernel) (by decide +kernel), ii_X0, mk_X0_init, ⟨by decide +kernel, by decide +kernel, by decide +kernel⟩, rfl⟩
theorem fx_X5_22fq : Cond.fieldLink RX5 22 (TX5 0).1 (TX5 0).2.1 (TX5 0).2.2.1 ∈ gw := gd 110 (by decide +kernel) (by decide +kernel)
theorem fq_X5_22 : FP RX5 22 5 0 .int := ⟨RX5, TX5, 7, tyX5, rfl, by decide, iw_X5, fx_X5_22fq, tyX5_ok, nmX5, rfl, by decide +kernel⟩
theorem fx_X5_26fq : Cond.fieldLink RX5 26 (TX5 1).1 (TX5 1).2.1 (TX5 1).2.2.1 ∈ gw := gd 112 (by decide +kernel) (by decide +kernel)
theorem fq_X5_26 : FP RX5 26 5 1 .int := ⟨RX5, TX5, 7, tyX5, rfl, by decide, iw_X5, fx_X5_26fq, tyX5_ok, nmX5, rfl, by decide +kernel⟩
theorem fx_X5_29fq : Cond.fieldLink RX5 29 (TX5 2).1 (TX5 2).2.1 (TX5 2).2.2.1 ∈ gw := gd 114 (by decide +kernel) (by decide +kernel)
theorem fq_X5_29 : FP RX5 29 5 2 .int := ⟨RX5, TX5, 7, tyX5, rfl, by decide, iw_X5, fx_X5_29fq, tyX5_ok, nmX5, rfl, by decide +kernel⟩
theorem fx_X5_32fq : Cond.fieldLink RX5 32 (TX5 3).1 (TX5 3).2.1 (TX5 3).2.2.1 ∈ gw := gd 116 (by decide +kernel) (by decide +kernel)
theorem fq_X5_32 : FP RX5 32 5 3 .int := ⟨RX5, TX5, 7, tyX5, rfl, by decide, iw_X5, fx_X5_32fq, tyX5_ok, nmX5, rfl, by decide +kernel⟩
theorem fx_X5_35fq : Cond.fieldLink RX5 35 (TX5 4).1 (TX5 4).2.1 (TX5 4).2.2.1 ∈ gw := gd 118 (by decide +kernel) (by decide +kernel)
theorem fq_X5_35 : FP RX5 35 5 4 .int := ⟨RX5, TX5, 7, tyX5, rfl, by decide, iw_X5, fx_X5_35fq, tyX5_ok, nmX5, rfl, by decide +kernel⟩
theorem fg_X5_9 : FL RX5 9 5 5 := ⟨RX5, TX5, 7, rfl, by decide, iw_X5, gd 121 (by decide +kernel) (by decide +kernel)⟩
theorem fo_X7 : Cond.methodLink RX7 1 objectInit ∈ gw := gd 627 (by decide +kernel) (by decide +kernel)
theorem fx_X7_7ff : Cond.fieldLink RX7 7 (TX7 3).1 (TX7 3).2.1 (TX7 3).2.2.1 ∈ gw := gd 631 (by decide +kernel) (by decide +kernel)
theorem ff_X7_7 : FPF RX7 7 7 3 (.array .int) := ⟨RX7, TX7, 31, tyX7, rfl, by decide, iw_X7, fx_X7_7ff, tyX7_ok, nmX7, rfl, rfl, by decide +kernel⟩
theorem fx_X7_13ff : Cond.fieldLink RX7 13 (TX7 4).1 (TX7 4).2.1 (TX7 4).2.2.1 ∈ gw := gd 632 (by decide +kernel) (by decide +kernel)
theorem ff_X7_13 : FPF RX7 13 7 4 (.array .int) := ⟨RX7, TX7, 31, tyX7, rfl, by decide, iw_X7, fx_X7_13ff, tyX7_ok, nmX7, rfl, rfl, by decide +kernel⟩
theorem fx_X7_16ff : Cond.fieldLink RX7 16 (TX7 7).1 (TX7 7).2.1 (TX7 7).2.2.1 ∈ gw := gd 635 (by decide +kernel) (by decide +kernel)
theorem ff_X7_16 : FPF RX7 16 7 7 (.array .int) := ⟨RX7, TX7, 31, tyX7, rfl, by decide, iw_X7, fx_X7_16ff, tyX7_ok, nmX7, rfl, rfl, by decide +kernel⟩
theorem fx_X7_19ff : Cond.fieldLink RX7 19 (TX7 8).1 (TX7 8).2.1 (TX7 8).2.2.1 ∈ gw := gd 636 (by decide +kernel) (by decide +kernel)
theorem ff_X7_19 : FPF RX7 19 7 8 (.array .int) := ⟨RX7, TX7, 31, tyX7, rfl, by decide, iw_X7, fx_X7_19ff, tyX7_ok, nmX7, rfl, rfl, by decide +kernel⟩
theorem fx_X7_22ff : Cond.fieldLink RX7 22 (TX7 12).1 (TX7 12).2.1 (TX7 12).2.2.1 ∈ gw := gd 640 (by decide +kernel) (by decide +kernel)
theorem ff_X7_22 : FPF RX7 22 7 12 (.array .int) := ⟨RX7, TX7, 31, tyX7, rfl, by decide, iw_X7, fx_X7_22ff, tyX7_ok, nmX7, rfl, rfl, by decide +kernel⟩
theorem fx_X7_25ff : Cond.fieldLink RX7 25 (TX7 13).1 (TX7 13).2.1 (TX7 13).2.2.1 ∈ gw := gd 641 (by decide +kernel) (by decide +kernel)
theorem ff_X7_25 : FPF RX7 25 7 13 (.array .int) := ⟨RX7, TX7, 31, tyX7, rfl, by decide, iw_X7, fx_X7_25ff, tyX7_ok, nmX7, rfl, rfl, by decide +kernel⟩
theorem fx_X7_28ff : Cond.fieldLink RX7 28 (TX7 15).1 (TX7 15).2.1 (TX7 15).2.2.1 ∈ gw := gd 643 (by decide +kernel) (by decide +kernel)
theorem ff_X7_28 : FPF RX7 28 7 15 (.array .int) := ⟨RX7, TX7, 31, tyX7, rfl, by decide, iw_X7, fx_X7_28ff, tyX7_ok, nmX7, rfl, rfl, by decide +kernel⟩
theorem fx_X7_31ff : Cond.fieldLink RX7 31 (TX7 16).1 (TX7 16).2.1 (TX7 16).2.2.1 ∈ gw := gd 644 (by decide +kernel) (by decide +kernel)
theorem ff_X7_31 : FPF RX7 31 7 16 (.array .int) := ⟨RX7, TX7, 31, tyX7, rfl, by decide, iw_X7, fx_X7_31ff, tyX7_ok, nmX7, rfl, rfl, by decide +kernel⟩
theorem fx_X7_34ff : Cond.fieldLink RX7 34 (TX7 17).1 (TX7 17).2.1 (TX7 17).2.2.1 ∈ gw := gd 645 (by decide +kernel) (by decide +kernel)
theorem ff_X7_34 : FPF RX7 34 7 17 (.array .int) := ⟨RX7, TX7, 31, tyX7, rfl, by decide, iw_X7, fx_X7_34ff, tyX7_ok, nmX7, rfl, rfl, by decide +kernel⟩
theorem fx_X7_37ff : Cond.fieldLink RX7 37 (TX7 18).1 (TX7 18).2.1 (TX7 18).2.2.1 ∈ gw := gd 646 (by decide +kernel) (by decide +kernel)
theorem ff_X7_37 : FPF RX7 37 7 18 (.array .int) := ⟨RX7, TX7, 31, tyX7, rfl, by decide, iw_X7, fx_X7_37ff, tyX7_ok, nmX7, rfl, rfl, by decide +kernel⟩
theorem fx_X7_40ff : Cond.fieldLink RX7 40 (TX7 19).1 (TX7 19).2.1 (TX7 19).2.2.1 ∈ gw := gd 647 (by decide +kernel) (by decide +kernel)
theorem ff_X7_40 : FPF RX7 40 7 19 (.array .int) := ⟨RX7, TX7, 31, tyX7, rfl, by decide, iw_X7, fx_X7_40ff, tyX7_ok, nmX7, rfl, rfl, by decide +kernel⟩
theorem fx_X7_43ff : Cond.fieldLink RX7 43 (TX7 20).1 (TX7 20).2.1 (TX7 20).2.2.1 ∈ gw := gd 648 (by decide +kernel) (by decide +kernel)
theorem ff_X7_43 : FPF RX7 43 7 20 (.array .int) := ⟨RX7, TX7, 31, tyX7, rfl, by decide, iw_X7, fx_X7_43ff, tyX7_ok, nmX7, rfl, rfl, by decide +kernel⟩
theorem fx_X7_46ff : Cond.fieldLink RX7 46 (TX7 21).1 (TX7 21).2.1 (TX7 21).2.2.1 ∈ gw := gd 649 (by decide +kernel) (by decide +kernel)
theorem ff_X7_46 : FPF RX7 46 7 21 (.array .int) := ⟨RX7, TX7, 31, tyX7, rfl, by decide, iw_X7, fx_X7_46ff, tyX7_ok, nmX7, rfl, rfl, by decide +kernel⟩
theorem fx_X7_49ff : Cond.fieldLink RX7 49 (TX7 22).1 (TX7 22).2.1 (TX7 22).2.2.1 ∈ gw := gd 650 (by decide +kernel) (by decide +kernel)
theorem ff_X7_49 : FPF RX7 49 7 22 (.array .int) := ⟨RX7, TX7, 31, tyX7, rfl, by decide, iw_X7, fx_X7_49ff, tyX7_ok, nmX7, rfl, rfl, by decide +kernel⟩
theorem fx_X7_52ff : Cond.fieldLink RX7 52 (TX7 27).1 (TX7 27).2.1 (TX7 27).2.2.1 ∈ gw := gd 655 (by decide +kernel) (by decide +kernel)
theorem ff_X7_52 : FPF RX7 52 7 27 (.array .int) := ⟨RX7, TX7, 31, tyX7, rfl, by decide, iw_X7, fx_X7_52ff, tyX7_ok, nmX7, rfl, rfl, by decide +kernel⟩
theorem fx_X7_55ff : Cond.fieldLink RX7 55 (TX7 28).1 (TX7 28).2.1 (TX7 28).2.2.1 ∈ gw := gd 656 (by decide +kernel) (by decide +kernel)
theorem ff_X7_55 : FPF RX7 55 7 28 (.array .int) := ⟨RX7, TX7, 31, tyX7, rfl, by decide, iw_X7, fx_X7_55ff, tyX7_ok, nmX7, rfl, rfl, by decide +kernel⟩
theorem fx_X7_58ff : Cond.fieldLink RX7 58 (TX7 29).1 (TX7 29).2.1 (TX7 29).2.2.1 ∈ gw := gd 657 (by decide +kernel) (by decide +kernel)
theorem ff_X7_58 : FPF RX7 58 7 29 (.array .int) := ⟨RX7, TX7, 31, tyX7, rfl, by decide, iw_X7, fx_X7_58ff, tyX7_ok, nmX7, rfl, rfl, by decide +kernel⟩
theorem fx_X7_61fq : Cond.fieldLink RX7 61 (TX7 24).1 (TX7 24).2.1 (TX7 24).2.2.1 ∈ gw := gd 652 (by decide +kernel) (by decide +kernel)
theorem fq_X7_61 : FP RX7 61 7 24 .int := ⟨RX7, TX7, 31, tyX7, rfl, by decide, iw_X7, fx_X7_61fq, tyX7_ok, nmX7, rfl, by decide +kernel⟩
theorem fx_X7_65fq : Cond.fieldLink RX7 65 (TX7 0).1 (TX7 0).2.1 (TX7 0).2.2.1 ∈ gw := gd 628 (by decide +kernel) (by decide +kernel)
theorem fq_X7_65 : FP RX7 65 7 0 .int := ⟨RX7, TX7, 31, tyX7, rfl, by decide, iw_X7, fx_X7_65fq, tyX7_ok, nmX7, rfl, by decide +kernel⟩
theorem fx_X7_68fq : Cond.fieldLink RX7 68 (TX7 1).1 (TX7 1).2.1 (TX7 1).2.2.1 ∈ gw := gd 629 (by decide +kernel) (by decide +kernel)
theorem fq_X7_68 : FP RX7 68 7 1 .int := ⟨RX7, TX7, 31, tyX7, rfl, by decide, iw_X7, fx_X7_68fq, tyX7_ok, nmX7, rfl, by decide +kernel⟩
theorem fg_X7_7 : FL RX7 7 7 3 := ⟨RX7, TX7, 31, rfl, by decide, iw_X7, gd 631 (by decide +kernel) (by decide +kernel)⟩
theorem fo_X6 : Cond.methodLink RX6 1 objectInit ∈ gw := gd 56 (by decide +kernel) (by decide +kernel)
theorem cl_X6_7 : Cond.classLink RX6 7 RX5 ∈ gw := gd 59 (by decide +kernel) (by decide +kernel)
theorem it_X5 : Cond.instantiable RX5 7 ∈ gw := gd 60 (by decide +kernel) (by decide +kernel)
theorem dv_X5 : ∀ j, j < 7 → defaultValue (tyX5 j) = vp_V [.int 0, .int 0, .int 0, .int 0, .int 0, .null, .null] j := by decide +kernel
set_option maxRecDepth 40000 in
theorem mk_X5_init : Cond.code yX5_init cX5_init 2 none ∈ gw := gd 63 rfl rfl
theorem mj_X6_9 : MIp RX6 9 yX5_init cX5_init 2 := ⟨gd 61 (by decide +kernel) (by decide +kernel), gd 62 (by decide +kernel) (by decide +kernel), ii_X5, mk_X5_init, ⟨by decide +kernel, by decide +kernel, by decide +kernel⟩, rfl⟩
theorem fx_X6_10ff : Cond.fieldLink RX6 10 (TX6 0).1 (TX6 0).2.1 (TX6 0).2.2.1 ∈ gw := gd 227 (by decide +kernel) (by decide +kernel)
theorem ff_X6_10 : FPF RX6 10 6 0 (.object RX5) := ⟨RX6, TX6, 9, tyX6, rfl, by decide, iw_X6, fx_X6_10ff, tyX6_ok, nmX6, rfl, rfl, by decide +kernel⟩
theorem fx_X6_16ff : Cond.fieldLink RX6 16 (TX6 1).1 (TX6 1).2.1 (TX6 1).2.2.1 ∈ gw := gd 228 (by decide +kernel) (by decide +kernel)
theorem ff_X6_16 : FPF RX6 16 6 1 (.object RX5) := ⟨RX6, TX6, 9, tyX6, rfl, by decide, iw_X6, fx_X6_16ff, tyX6_ok, nmX6, rfl, rfl, by decide +kernel⟩
theorem fx_X6_19ff : Cond.fieldLink RX6 19 (TX6 2).1 (TX6 2).2.1 (TX6 2).2.2.1 ∈ gw := gd 229 (by decide +kernel) (by decide +kernel)
theorem ff_X6_19 : FPF RX6 19 6 2 (.object RX5) := ⟨RX6, TX6, 9, tyX6, rfl, by decide, iw_X6, fx_X6_19ff, tyX6_ok, nmX6, rfl, rfl, by decide +kernel⟩
theorem cl_X6_22 : Cond.classLink RX6 22 RX2 ∈ gw := gd 141 (by decide +kernel) (by decide +kernel)
theorem it_X2 : Cond.instantiable RX2 2 ∈ gw := gd 142 (by decide +kernel) (by decide +kernel)
theorem dv_X2 : ∀ j, j < 2 → defaultValue (tyX2 j) = vp_V [.null, .int 0] j := by decide +kernel
set_option maxRecDepth 40000 in
theorem mk_X2_init : Cond.code yX2_init cX2_init 1 none ∈ gw := gd 145 rfl rfl
theorem mj_X6_24 : MIn RX6 24 yX2_init cX2_init 1 := ⟨fun _ h => h.2.1, gd 144 (by decide +kernel) (by decide +kernel), ii_X2, mk_X2_init, ⟨by decide +kernel, by decide +kernel, by decide +kernel⟩, rfl⟩
theorem fx_X6_25ff : Cond.fieldLink RX6 25 (TX6 3).1 (TX6 3).2.1 (TX6 3).2.2.1 ∈ gw := gd 230 (by decide +kernel) (by decide +kernel)
theorem ff_X6_25 : FPF RX6 25 6 3 (.object RX2) := ⟨RX6, TX6, 9, tyX6, rfl, by decide, iw_X6, fx_X6_25ff, tyX6_ok, nmX6, rfl, rfl, by decide +kernel⟩
theorem cl_X6_29 : Cond.classLink RX6 29 RX4 ∈ gw := gd 156 (by decide +kernel) (by decide +kernel)
theorem it_X4 : Cond.instantiable RX4 5 ∈ gw := gd 157 (by decide +kernel) (by decide +kernel)
theorem dv_X4 : ∀ j, j < 5 → defaultValue (tyX4 j) = vp_V [.null, .null, .null, .null, .int 0] j := by decide +kernel
set_option maxRecDepth 40000 in
theorem mk_X4_init : Cond.code yX4_init cX4_init 1 none ∈ gw := gd 160 rfl rfl
theorem mj_X6_31 : MIn RX6 31 yX4_init cX4_init 1 := ⟨fun _ h => h.2.2.1, gd 159 (by decide +kernel) (by decide +kernel), ii_X4, mk_X4_init, ⟨by decide +kernel, by decide +kernel, by decide +kernel⟩, rfl⟩
theorem fx_X6_32ff : Cond.fieldLink RX6 32 (TX6 4).1 (TX6 4).2.1 (TX6 4).2.2.1 ∈ gw := gd 231 (by decide +kernel) (by decide +kernel)
theorem ff_X6_32 : FPF RX6 32 6 4 (.object RX4) := ⟨RX6, TX6, 9, tyX6, rfl, by decide, iw_X6, fx_X6_32ff, tyX6_ok, nmX6, rfl, rfl, by decide +kernel⟩
theorem cl_X6_36 : Cond.classLink RX6 36 RX1 ∈ gw := gd 180 (by decide +kernel) (by decide +kernel)
theorem it_X1 : Cond.instantiable RX1 6 ∈ gw := gd 181 (by decide +kernel) (by decide +kernel)
theorem dv_X1 : ∀ j, j < 6 → defaultValue (tyX1 j) = vp_V [.int 0, .int 0, .int 0, .null, .null, .null] j := by decide +kernel
set_option maxRecDepth 40000 in
theorem mk_X1_init : Cond.code yX1_init cX1_init 1 none ∈ gw := gd 184 rfl rfl
theorem mj_X6_38 : MIn RX6 38 yX1_init cX1_init 1 := ⟨fun _ h => h.2.2.2.1, gd 183 (by decide +kernel) (by decide +kernel), ii_X1, mk_X1_init, ⟨by decide +kernel, by decide +kernel, by decide +kernel⟩, rfl⟩
theorem fx_X6_39ff : Cond.fieldLink RX6 39 (TX6 5).1 (TX6 5).2.1 (TX6 5).2.2.1 ∈ gw := gd 232 (by decide +kernel) (by decide +kernel)
theorem ff_X6_39 : FPF RX6 39 6 5 (.object RX1) := ⟨RX6, TX6, 9, tyX6, rfl, by decide, iw_X6, fx_X6_39ff, tyX6_ok, nmX6, rfl, rfl, by decide +kernel⟩
theorem cl_X6_43 : Cond.classLink RX6 43 RX3 ∈ gw := gd 207 (by decide +kernel) (by decide +kernel)
theorem it_X3 : Cond.instantiable RX3 3 ∈ gw := gd 208 (by decide +kernel) (by decide +kernel)
theorem dv_X3 : ∀ j, j < 3 → defaultValue (tyX3 j) = vp_V [.null, .null, .null] j := by decide +kernel
set_option maxRecDepth 40000 in
theorem mk_X3_init : Cond.code yX3_init cX3_init 1 none ∈ gw := gd 211 rfl rfl
theorem mj_X6_45 : MIn RX6 45 yX3_init cX3_init 1 := ⟨fun _ h => h.2.2.2.2.1, gd 210 (by decide +kernel) (by decide +kernel), ii_X3, mk_X3_init, ⟨by decide +kernel, by decide +kernel, by decide +kernel⟩, rfl⟩
theorem fx_X6_46ff : Cond.fieldLink RX6 46 (TX6 6).1 (TX6 6).2.1 (TX6 6).2.2.1 ∈ gw := gd 233 (by decide +kernel) (by decide +kernel)
theorem ff_X6_46 : FPF RX6 46 6 6 (.object RX3) := ⟨RX6, TX6, 9, tyX6, rfl, by decide, iw_X6, fx_X6_46ff, tyX6_ok, nmX6, rfl, rfl, by decide +kernel⟩
theorem fg_X6_10 : FL RX6 10 6 0 := ⟨RX6, TX6, 9, rfl, by decide, iw_X6, gd 227 (by decide +kernel) (by decide +kernel)⟩
theorem ml_X6_50b : MLv RX6 50 yX5_begin cX5_begin 4 none 2 := ml_X6_50
