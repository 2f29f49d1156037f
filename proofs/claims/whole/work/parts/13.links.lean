theorem fw_X0_15 : Cond.fieldLink RX0 15 (TX0 0).1 (TX0 0).2.1 (TX0 0).2.2.1 ∈ gw := gd 72 (by decide +kernel) (by decide +kernel)
theorem fl_X0_15 : FL RX0 15 0 0 := ⟨RX0, TX0, 8, rfl, by decide, iw_X0, fw_X0_15⟩
theorem fp_X0_15 : FP RX0 15 0 0 .int := ⟨RX0, TX0, 8, tyX0, rfl, by decide, iw_X0, fw_X0_15, tyX0_ok, nmX0, rfl, by decide +kernel⟩
theorem fw_X0_21 : Cond.fieldLink RX0 21 (TX0 1).1 (TX0 1).2.1 (TX0 1).2.2.1 ∈ gw := gd 75 (by decide +kernel) (by decide +kernel)
theorem fl_X0_21 : FL RX0 21 0 1 := ⟨RX0, TX0, 8, rfl, by decide, iw_X0, fw_X0_21⟩
theorem fp_X0_21 : FP RX0 21 0 1 .int := ⟨RX0, TX0, 8, tyX0, rfl, by decide, iw_X0, fw_X0_21, tyX0_ok, nmX0, rfl, by decide +kernel⟩
theorem fw_X0_24 : Cond.fieldLink RX0 24 (TX0 2).1 (TX0 2).2.1 (TX0 2).2.2.1 ∈ gw := gd 78 (by decide +kernel) (by decide +kernel)
theorem fl_X0_24 : FL RX0 24 0 2 := ⟨RX0, TX0, 8, rfl, by decide, iw_X0, fw_X0_24⟩
theorem fp_X0_24 : FP RX0 24 0 2 .int := ⟨RX0, TX0, 8, tyX0, rfl, by decide, iw_X0, fw_X0_24, tyX0_ok, nmX0, rfl, by decide +kernel⟩
theorem fw_X0_27 : Cond.fieldLink RX0 27 (TX0 3).1 (TX0 3).2.1 (TX0 3).2.2.1 ∈ gw := gd 81 (by decide +kernel) (by decide +kernel)
theorem fl_X0_27 : FL RX0 27 0 3 := ⟨RX0, TX0, 8, rfl, by decide, iw_X0, fw_X0_27⟩
theorem fp_X0_27 : FP RX0 27 0 3 .int := ⟨RX0, TX0, 8, tyX0, rfl, by decide, iw_X0, fw_X0_27, tyX0_ok, nmX0, rfl, by decide +kernel⟩
theorem fw_X0_30 : Cond.fieldLink RX0 30 (TX0 4).1 (TX0 4).2.1 (TX0 4).2.2.1 ∈ gw := gd 84 (by decide +kernel) (by decide +kernel)
theorem fl_X0_30 : FL RX0 30 0 4 := ⟨RX0, TX0, 8, rfl, by decide, iw_X0, fw_X0_30⟩
theorem fp_X0_30 : FP RX0 30 0 4 .int := ⟨RX0, TX0, 8, tyX0, rfl, by decide, iw_X0, fw_X0_30, tyX0_ok, nmX0, rfl, by decide +kernel⟩
theorem fw_X0_33 : Cond.fieldLink RX0 33 (TX0 5).1 (TX0 5).2.1 (TX0 5).2.2.1 ∈ gw := gd 86 (by decide +kernel) (by decide +kernel)
theorem fl_X0_33 : FL RX0 33 0 5 := ⟨RX0, TX0, 8, rfl, by decide, iw_X0, fw_X0_33⟩
theorem fp_X0_33 : FP RX0 33 0 5 .int := ⟨RX0, TX0, 8, tyX0, rfl, by decide, iw_X0, fw_X0_33, tyX0_ok, nmX0, rfl, by decide +kernel⟩
theorem fw_X0_36 : Cond.fieldLink RX0 36 (TX0 6).1 (TX0 6).2.1 (TX0 6).2.2.1 ∈ gw := gd 89 (by decide +kernel) (by decide +kernel)
theorem fl_X0_36 : FL RX0 36 0 6 := ⟨RX0, TX0, 8, rfl, by decide, iw_X0, fw_X0_36⟩
theorem fp_X0_36 : FP RX0 36 0 6 .boolean := ⟨RX0, TX0, 8, tyX0, rfl, by decide, iw_X0, fw_X0_36, tyX0_ok, nmX0, rfl, by decide +kernel⟩
theorem fw_X0_40 : Cond.fieldLink RX0 40 (TX0 7).1 (TX0 7).2.1 (TX0 7).2.2.1 ∈ gw := gd 91 (by decide +kernel) (by decide +kernel)
theorem fl_X0_40 : FL RX0 40 0 7 := ⟨RX0, TX0, 8, rfl, by decide, iw_X0, fw_X0_40⟩
theorem fp_X0_40 : FP RX0 40 0 7 .int := ⟨RX0, TX0, 8, tyX0, rfl, by decide, iw_X0, fw_X0_40, tyX0_ok, nmX0, rfl, by decide +kernel⟩
theorem fw_X1_9 : Cond.fieldLink RX1 9 (TX1 3).1 (TX1 3).2.1 (TX1 3).2.2.1 ∈ gw := gd 191 (by decide +kernel) (by decide +kernel)
theorem fl_X1_9 : FL RX1 9 1 3 := ⟨RX1, TX1, 6, rfl, by decide, iw_X1, fw_X1_9⟩
theorem fw_X1_15 : Cond.fieldLink RX1 15 (TX1 4).1 (TX1 4).2.1 (TX1 4).2.2.1 ∈ gw := gd 192 (by decide +kernel) (by decide +kernel)
theorem fl_X1_15 : FL RX1 15 1 4 := ⟨RX1, TX1, 6, rfl, by decide, iw_X1, fw_X1_15⟩
theorem fw_X1_18 : Cond.fieldLink RX1 18 (TX1 5).1 (TX1 5).2.1 (TX1 5).2.2.1 ∈ gw := gd 193 (by decide +kernel) (by decide +kernel)
theorem fl_X1_18 : FL RX1 18 1 5 := ⟨RX1, TX1, 6, rfl, by decide, iw_X1, fw_X1_18⟩
theorem fw_X1_25 : Cond.fieldLink RX1 25 (TX1 0).1 (TX1 0).2.1 (TX1 0).2.2.1 ∈ gw := gd 186 (by decide +kernel) (by decide +kernel)
theorem fl_X1_25 : FL RX1 25 1 0 := ⟨RX1, TX1, 6, rfl, by decide, iw_X1, fw_X1_25⟩
theorem fp_X1_25 : FP RX1 25 1 0 .int := ⟨RX1, TX1, 6, tyX1, rfl, by decide, iw_X1, fw_X1_25, tyX1_ok, nmX1, rfl, by decide +kernel⟩
theorem fw_X1_29 : Cond.fieldLink RX1 29 (TX1 1).1 (TX1 1).2.1 (TX1 1).2.2.1 ∈ gw := gd 188 (by decide +kernel) (by decide +kernel)
theorem fl_X1_29 : FL RX1 29 1 1 := ⟨RX1, TX1, 6, rfl, by decide, iw_X1, fw_X1_29⟩
theorem fp_X1_29 : FP RX1 29 1 1 .int := ⟨RX1, TX1, 6, tyX1, rfl, by decide, iw_X1, fw_X1_29, tyX1_ok, nmX1, rfl, by decide +kernel⟩
theorem fw_X1_32 : Cond.fieldLink RX1 32 (TX1 2).1 (TX1 2).2.1 (TX1 2).2.2.1 ∈ gw := gd 190 (by decide +kernel) (by decide +kernel)
theorem fl_X1_32 : FL RX1 32 1 2 := ⟨RX1, TX1, 6, rfl, by decide, iw_X1, fw_X1_32⟩
theorem fp_X1_32 : FP RX1 32 1 2 .int := ⟨RX1, TX1, 6, tyX1, rfl, by decide, iw_X1, fw_X1_32, tyX1_ok, nmX1, rfl, by decide +kernel⟩
theorem fw_X1_43 : Cond.fieldLink RX1 43 (TX5 4).1 (TX5 4).2.1 (TX5 4).2.2.1 ∈ gw := gd 119 (by decide +kernel) (by decide +kernel)
theorem fl_X1_43 : FL RX1 43 5 4 := ⟨RX5, TX5, 7, rfl, by decide, iw_X5, fw_X1_43⟩
theorem fw_X1_51 : Cond.fieldLink RX1 51 (TX5 6).1 (TX5 6).2.1 (TX5 6).2.2.1 ∈ gw := gd 124 (by decide +kernel) (by decide +kernel)
theorem fl_X1_51 : FL RX1 51 5 6 := ⟨RX5, TX5, 7, rfl, by decide, iw_X5, fw_X1_51⟩
theorem fw_X2_9 : Cond.fieldLink RX2 9 (TX2 0).1 (TX2 0).2.1 (TX2 0).2.2.1 ∈ gw := gd 147 (by decide +kernel) (by decide +kernel)
theorem fl_X2_9 : FL RX2 9 2 0 := ⟨RX2, TX2, 2, rfl, by decide, iw_X2, fw_X2_9⟩
theorem fw_X2_21 : Cond.fieldLink RX2 21 (TX2 1).1 (TX2 1).2.1 (TX2 1).2.2.1 ∈ gw := gd 149 (by decide +kernel) (by decide +kernel)
theorem fl_X2_21 : FL RX2 21 2 1 := ⟨RX2, TX2, 2, rfl, by decide, iw_X2, fw_X2_21⟩
theorem fp_X2_21 : FP RX2 21 2 1 .int := ⟨RX2, TX2, 2, tyX2, rfl, by decide, iw_X2, fw_X2_21, tyX2_ok, nmX2, rfl, by decide +kernel⟩
theorem fw_X3_9 : Cond.fieldLink RX3 9 (TX3 0).1 (TX3 0).2.1 (TX3 0).2.2.1 ∈ gw := gd 213 (by decide +kernel) (by decide +kernel)
theorem fl_X3_9 : FL RX3 9 3 0 := ⟨RX3, TX3, 3, rfl, by decide, iw_X3, fw_X3_9⟩
theorem fw_X3_15 : Cond.fieldLink RX3 15 (TX3 1).1 (TX3 1).2.1 (TX3 1).2.2.1 ∈ gw := gd 214 (by decide +kernel) (by decide +kernel)
theorem fl_X3_15 : FL RX3 15 3 1 := ⟨RX3, TX3, 3, rfl, by decide, iw_X3, fw_X3_15⟩
theorem fw_X3_18 : Cond.fieldLink RX3 18 (TX3 2).1 (TX3 2).2.1 (TX3 2).2.2.1 ∈ gw := gd 215 (by decide +kernel) (by decide +kernel)
theorem fl_X3_18 : FL RX3 18 3 2 := ⟨RX3, TX3, 3, rfl, by decide, iw_X3, fw_X3_18⟩
theorem fw_X4_9 : Cond.fieldLink RX4 9 (TX4 0).1 (TX4 0).2.1 (TX4 0).2.2.1 ∈ gw := gd 162 (by decide +kernel) (by decide +kernel)
theorem fl_X4_9 : FL RX4 9 4 0 := ⟨RX4, TX4, 5, rfl, by decide, iw_X4, fw_X4_9⟩
theorem fw_X4_15 : Cond.fieldLink RX4 15 (TX4 1).1 (TX4 1).2.1 (TX4 1).2.2.1 ∈ gw := gd 164 (by decide +kernel) (by decide +kernel)
theorem fl_X4_15 : FL RX4 15 4 1 := ⟨RX4, TX4, 5, rfl, by decide, iw_X4, fw_X4_15⟩
theorem fw_X4_18 : Cond.fieldLink RX4 18 (TX4 2).1 (TX4 2).2.1 (TX4 2).2.2.1 ∈ gw := gd 166 (by decide +kernel) (by decide +kernel)
theorem fl_X4_18 : FL RX4 18 4 2 := ⟨RX4, TX4, 5, rfl, by decide, iw_X4, fw_X4_18⟩
theorem fw_X4_21 : Cond.fieldLink RX4 21 (TX4 3).1 (TX4 3).2.1 (TX4 3).2.2.1 ∈ gw := gd 167 (by decide +kernel) (by decide +kernel)
theorem fl_X4_21 : FL RX4 21 4 3 := ⟨RX4, TX4, 5, rfl, by decide, iw_X4, fw_X4_21⟩
theorem fw_X4_30 : Cond.fieldLink RX4 30 (TX4 4).1 (TX4 4).2.1 (TX4 4).2.2.1 ∈ gw := gd 168 (by decide +kernel) (by decide +kernel)
theorem fl_X4_30 : FL RX4 30 4 4 := ⟨RX4, TX4, 5, rfl, by decide, iw_X4, fw_X4_30⟩
theorem fp_X4_30 : FP RX4 30 4 4 .int := ⟨RX4, TX4, 5, tyX4, rfl, by decide, iw_X4, fw_X4_30, tyX4_ok, nmX4, rfl, by decide +kernel⟩
theorem fw_X4_46 : Cond.fieldLink RX4 46 (TX5 0).1 (TX5 0).2.1 (TX5 0).2.2.1 ∈ gw := gd 111 (by decide +kernel) (by decide +kernel)
theorem fl_X4_46 : FL RX4 46 5 0 := ⟨RX5, TX5, 7, rfl, by decide, iw_X5, fw_X4_46⟩
theorem fw_X5_9 : Cond.fieldLink RX5 9 (TX5 5).1 (TX5 5).2.1 (TX5 5).2.2.1 ∈ gw := gd 121 (by decide +kernel) (by decide +kernel)
theorem fl_X5_9 : FL RX5 9 5 5 := ⟨RX5, TX5, 7, rfl, by decide, iw_X5, fw_X5_9⟩
theorem fw_X5_17 : Cond.fieldLink RX5 17 (TX5 6).1 (TX5 6).2.1 (TX5 6).2.2.1 ∈ gw := gd 123 (by decide +kernel) (by decide +kernel)
theorem fl_X5_17 : FL RX5 17 5 6 := ⟨RX5, TX5, 7, rfl, by decide, iw_X5, fw_X5_17⟩
theorem fw_X5_22 : Cond.fieldLink RX5 22 (TX5 0).1 (TX5 0).2.1 (TX5 0).2.2.1 ∈ gw := gd 110 (by decide +kernel) (by decide +kernel)
theorem fl_X5_22 : FL RX5 22 5 0 := ⟨RX5, TX5, 7, rfl, by decide, iw_X5, fw_X5_22⟩
theorem fp_X5_22 : FP RX5 22 5 0 .int := ⟨RX5, TX5, 7, tyX5, rfl, by decide, iw_X5, fw_X5_22, tyX5_ok, nmX5, rfl, by decide +kernel⟩
theorem fw_X5_26 : Cond.fieldLink RX5 26 (TX5 1).1 (TX5 1).2.1 (TX5 1).2.2.1 ∈ gw := gd 112 (by decide +kernel) (by decide +kernel)
theorem fl_X5_26 : FL RX5 26 5 1 := ⟨RX5, TX5, 7, rfl, by decide, iw_X5, fw_X5_26⟩
theorem fp_X5_26 : FP RX5 26 5 1 .int := ⟨RX5, TX5, 7, tyX5, rfl, by decide, iw_X5, fw_X5_26, tyX5_ok, nmX5, rfl, by decide +kernel⟩
theorem fw_X5_29 : Cond.fieldLink RX5 29 (TX5 2).1 (TX5 2).2.1 (TX5 2).2.2.1 ∈ gw := gd 114 (by decide +kernel) (by decide +kernel)
theorem fl_X5_29 : FL RX5 29 5 2 := ⟨RX5, TX5, 7, rfl, by decide, iw_X5, fw_X5_29⟩
theorem fp_X5_29 : FP RX5 29 5 2 .int := ⟨RX5, TX5, 7, tyX5, rfl, by decide, iw_X5, fw_X5_29, tyX5_ok, nmX5, rfl, by decide +kernel⟩
theorem fw_X5_32 : Cond.fieldLink RX5 32 (TX5 3).1 (TX5 3).2.1 (TX5 3).2.2.1 ∈ gw := gd 116 (by decide +kernel) (by decide +kernel)
theorem fl_X5_32 : FL RX5 32 5 3 := ⟨RX5, TX5, 7, rfl, by decide, iw_X5, fw_X5_32⟩
theorem fp_X5_32 : FP RX5 32 5 3 .int := ⟨RX5, TX5, 7, tyX5, rfl, by decide, iw_X5, fw_X5_32, tyX5_ok, nmX5, rfl, by decide +kernel⟩
theorem fw_X5_35 : Cond.fieldLink RX5 35 (TX5 4).1 (TX5 4).2.1 (TX5 4).2.2.1 ∈ gw := gd 118 (by decide +kernel) (by decide +kernel)
theorem fl_X5_35 : FL RX5 35 5 4 := ⟨RX5, TX5, 7, rfl, by decide, iw_X5, fw_X5_35⟩
theorem fp_X5_35 : FP RX5 35 5 4 .int := ⟨RX5, TX5, 7, tyX5, rfl, by decide, iw_X5, fw_X5_35, tyX5_ok, nmX5, rfl, by decide +kernel⟩
theorem fw_X5_46 : Cond.fieldLink RX5 46 (TX0 1).1 (TX0 1).2.1 (TX0 1).2.2.1 ∈ gw := gd 76 (by decide +kernel) (by decide +kernel)
theorem fl_X5_46 : FL RX5 46 0 1 := ⟨RX0, TX0, 8, rfl, by decide, iw_X0, fw_X5_46⟩
theorem fw_X5_60 : Cond.fieldLink RX5 60 (TX0 5).1 (TX0 5).2.1 (TX0 5).2.2.1 ∈ gw := gd 88 (by decide +kernel) (by decide +kernel)
theorem fl_X5_60 : FL RX5 60 0 5 := ⟨RX0, TX0, 8, rfl, by decide, iw_X0, fw_X5_60⟩
theorem fp_X5_60 : FP RX5 60 0 5 .int := ⟨RX0, TX0, 8, tyX0, rfl, by decide, iw_X0, fw_X5_60, tyX0_ok, nmX0, rfl, by decide +kernel⟩
theorem fw_X5_63 : Cond.fieldLink RX5 63 (TX0 3).1 (TX0 3).2.1 (TX0 3).2.2.1 ∈ gw := gd 83 (by decide +kernel) (by decide +kernel)
theorem fl_X5_63 : FL RX5 63 0 3 := ⟨RX0, TX0, 8, rfl, by decide, iw_X0, fw_X5_63⟩
theorem fw_X5_69 : Cond.fieldLink RX5 69 (TX0 2).1 (TX0 2).2.1 (TX0 2).2.2.1 ∈ gw := gd 80 (by decide +kernel) (by decide +kernel)
theorem fl_X5_69 : FL RX5 69 0 2 := ⟨RX0, TX0, 8, rfl, by decide, iw_X0, fw_X5_69⟩
theorem fw_X5_85 : Cond.fieldLink RX5 85 (TX0 0).1 (TX0 0).2.1 (TX0 0).2.2.1 ∈ gw := gd 74 (by decide +kernel) (by decide +kernel)
theorem fl_X5_85 : FL RX5 85 0 0 := ⟨RX0, TX0, 8, rfl, by decide, iw_X0, fw_X5_85⟩
theorem fw_X6_10 : Cond.fieldLink RX6 10 (TX6 0).1 (TX6 0).2.1 (TX6 0).2.2.1 ∈ gw := gd 227 (by decide +kernel) (by decide +kernel)
theorem fl_X6_10 : FL RX6 10 6 0 := ⟨RX6, TX6, 9, rfl, by decide, iw_X6, fw_X6_10⟩
theorem fw_X6_16 : Cond.fieldLink RX6 16 (TX6 1).1 (TX6 1).2.1 (TX6 1).2.2.1 ∈ gw := gd 228 (by decide +kernel) (by decide +kernel)
theorem fl_X6_16 : FL RX6 16 6 1 := ⟨RX6, TX6, 9, rfl, by decide, iw_X6, fw_X6_16⟩
theorem fw_X6_19 : Cond.fieldLink RX6 19 (TX6 2).1 (TX6 2).2.1 (TX6 2).2.2.1 ∈ gw := gd 229 (by decide +kernel) (by decide +kernel)
theorem fl_X6_19 : FL RX6 19 6 2 := ⟨RX6, TX6, 9, rfl, by decide, iw_X6, fw_X6_19⟩
theorem fw_X6_25 : Cond.fieldLink RX6 25 (TX6 3).1 (TX6 3).2.1 (TX6 3).2.2.1 ∈ gw := gd 230 (by decide +kernel) (by decide +kernel)
theorem fl_X6_25 : FL RX6 25 6 3 := ⟨RX6, TX6, 9, rfl, by decide, iw_X6, fw_X6_25⟩
theorem fw_X6_32 : Cond.fieldLink RX6 32 (TX6 4).1 (TX6 4).2.1 (TX6 4).2.2.1 ∈ gw := gd 231 (by decide +kernel) (by decide +kernel)
theorem fl_X6_32 : FL RX6 32 6 4 := ⟨RX6, TX6, 9, rfl, by decide, iw_X6, fw_X6_32⟩
theorem fw_X6_39 : Cond.fieldLink RX6 39 (TX6 5).1 (TX6 5).2.1 (TX6 5).2.2.1 ∈ gw := gd 232 (by decide +kernel) (by decide +kernel)
theorem fl_X6_39 : FL RX6 39 6 5 := ⟨RX6, TX6, 9, rfl, by decide, iw_X6, fw_X6_39⟩
theorem fw_X6_46 : Cond.fieldLink RX6 46 (TX6 6).1 (TX6 6).2.1 (TX6 6).2.2.1 ∈ gw := gd 233 (by decide +kernel) (by decide +kernel)
theorem fl_X6_46 : FL RX6 46 6 6 := ⟨RX6, TX6, 9, rfl, by decide, iw_X6, fw_X6_46⟩
theorem fw_X6_58 : Cond.fieldLink RX6 58 (TX6 7).1 (TX6 7).2.1 (TX6 7).2.2.1 ∈ gw := gd 234 (by decide +kernel) (by decide +kernel)
theorem fl_X6_58 : FL RX6 58 6 7 := ⟨RX6, TX6, 9, rfl, by decide, iw_X6, fw_X6_58⟩
theorem fp_X6_58 : FP RX6 58 6 7 .boolean := ⟨RX6, TX6, 9, tyX6, rfl, by decide, iw_X6, fw_X6_58, tyX6_ok, nmX6, rfl, by decide +kernel⟩
theorem fw_X6_62 : Cond.fieldLink RX6 62 (TX5 1).1 (TX5 1).2.1 (TX5 1).2.2.1 ∈ gw := gd 113 (by decide +kernel) (by decide +kernel)
theorem fl_X6_62 : FL RX6 62 5 1 := ⟨RX5, TX5, 7, rfl, by decide, iw_X5, fw_X6_62⟩
theorem fw_X6_74 : Cond.fieldLink RX6 74 (TX5 5).1 (TX5 5).2.1 (TX5 5).2.2.1 ∈ gw := gd 122 (by decide +kernel) (by decide +kernel)
theorem fl_X6_74 : FL RX6 74 5 5 := ⟨RX5, TX5, 7, rfl, by decide, iw_X5, fw_X6_74⟩
theorem fw_X6_78 : Cond.fieldLink RX6 78 (TX5 2).1 (TX5 2).2.1 (TX5 2).2.2.1 ∈ gw := gd 115 (by decide +kernel) (by decide +kernel)
theorem fl_X6_78 : FL RX6 78 5 2 := ⟨RX5, TX5, 7, rfl, by decide, iw_X5, fw_X6_78⟩
theorem fw_X6_97 : Cond.fieldLink RX6 97 (TX5 4).1 (TX5 4).2.1 (TX5 4).2.2.1 ∈ gw := gd 120 (by decide +kernel) (by decide +kernel)
theorem fl_X6_97 : FL RX6 97 5 4 := ⟨RX5, TX5, 7, rfl, by decide, iw_X5, fw_X6_97⟩
theorem fp_X6_97 : FP RX6 97 5 4 .int := ⟨RX5, TX5, 7, tyX5, rfl, by decide, iw_X5, fw_X6_97, tyX5_ok, nmX5, rfl, by decide +kernel⟩
theorem fw_X6_100 : Cond.fieldLink RX6 100 (TX5 6).1 (TX5 6).2.1 (TX5 6).2.2.1 ∈ gw := gd 125 (by decide +kernel) (by decide +kernel)
theorem fl_X6_100 : FL RX6 100 5 6 := ⟨RX5, TX5, 7, rfl, by decide, iw_X5, fw_X6_100⟩
theorem fw_X6_114 : Cond.fieldLink RX6 114 (TX0 0).1 (TX0 0).2.1 (TX0 0).2.2.1 ∈ gw := gd 73 (by decide +kernel) (by decide +kernel)
theorem fl_X6_114 : FL RX6 114 0 0 := ⟨RX0, TX0, 8, rfl, by decide, iw_X0, fw_X6_114⟩
theorem fw_X6_117 : Cond.fieldLink RX6 117 (TX0 1).1 (TX0 1).2.1 (TX0 1).2.2.1 ∈ gw := gd 77 (by decide +kernel) (by decide +kernel)
theorem fl_X6_117 : FL RX6 117 0 1 := ⟨RX0, TX0, 8, rfl, by decide, iw_X0, fw_X6_117⟩
theorem fw_X6_120 : Cond.fieldLink RX6 120 (TX0 2).1 (TX0 2).2.1 (TX0 2).2.2.1 ∈ gw := gd 79 (by decide +kernel) (by decide +kernel)
theorem fl_X6_120 : FL RX6 120 0 2 := ⟨RX0, TX0, 8, rfl, by decide, iw_X0, fw_X6_120⟩
theorem fw_X6_123 : Cond.fieldLink RX6 123 (TX0 3).1 (TX0 3).2.1 (TX0 3).2.2.1 ∈ gw := gd 82 (by decide +kernel) (by decide +kernel)
theorem fl_X6_123 : FL RX6 123 0 3 := ⟨RX0, TX0, 8, rfl, by decide, iw_X0, fw_X6_123⟩
theorem fw_X6_126 : Cond.fieldLink RX6 126 (TX0 4).1 (TX0 4).2.1 (TX0 4).2.2.1 ∈ gw := gd 85 (by decide +kernel) (by decide +kernel)
theorem fl_X6_126 : FL RX6 126 0 4 := ⟨RX0, TX0, 8, rfl, by decide, iw_X0, fw_X6_126⟩
theorem fw_X6_129 : Cond.fieldLink RX6 129 (TX0 5).1 (TX0 5).2.1 (TX0 5).2.2.1 ∈ gw := gd 87 (by decide +kernel) (by decide +kernel)
theorem fl_X6_129 : FL RX6 129 0 5 := ⟨RX0, TX0, 8, rfl, by decide, iw_X0, fw_X6_129⟩
theorem fw_X6_139 : Cond.fieldLink RX6 139 (TX0 6).1 (TX0 6).2.1 (TX0 6).2.2.1 ∈ gw := gd 90 (by decide +kernel) (by decide +kernel)
theorem fl_X6_139 : FL RX6 139 0 6 := ⟨RX0, TX0, 8, rfl, by decide, iw_X0, fw_X6_139⟩
theorem fw_X6_160 : Cond.fieldLink RX6 160 (TX2 1).1 (TX2 1).2.1 (TX2 1).2.2.1 ∈ gw := gd 150 (by decide +kernel) (by decide +kernel)
theorem fl_X6_160 : FL RX6 160 2 1 := ⟨RX2, TX2, 2, rfl, by decide, iw_X2, fw_X6_160⟩
theorem fp_X6_160 : FP RX6 160 2 1 .int := ⟨RX2, TX2, 2, tyX2, rfl, by decide, iw_X2, fw_X6_160, tyX2_ok, nmX2, rfl, by decide +kernel⟩
theorem fw_X6_186 : Cond.fieldLink RX6 186 (TX5 3).1 (TX5 3).2.1 (TX5 3).2.2.1 ∈ gw := gd 117 (by decide +kernel) (by decide +kernel)
theorem fl_X6_186 : FL RX6 186 5 3 := ⟨RX5, TX5, 7, rfl, by decide, iw_X5, fw_X6_186⟩
theorem fp_X6_186 : FP RX6 186 5 3 .int := ⟨RX5, TX5, 7, tyX5, rfl, by decide, iw_X5, fw_X6_186, tyX5_ok, nmX5, rfl, by decide +kernel⟩
theorem fw_X6_202 : Cond.fieldLink RX6 202 (TX6 8).1 (TX6 8).2.1 (TX6 8).2.2.1 ∈ gw := gd 235 (by decide +kernel) (by decide +kernel)
theorem fl_X6_202 : FL RX6 202 6 8 := ⟨RX6, TX6, 9, rfl, by decide, iw_X6, fw_X6_202⟩
theorem fp_X6_202 : FP RX6 202 6 8 .int := ⟨RX6, TX6, 9, tyX6, rfl, by decide, iw_X6, fw_X6_202, tyX6_ok, nmX6, rfl, by decide +kernel⟩
theorem fw_X6_209 : Cond.fieldLink RX6 209 (TX1 0).1 (TX1 0).2.1 (TX1 0).2.2.1 ∈ gw := gd 187 (by decide +kernel) (by decide +kernel)
theorem fl_X6_209 : FL RX6 209 1 0 := ⟨RX1, TX1, 6, rfl, by decide, iw_X1, fw_X6_209⟩
theorem fw_X6_212 : Cond.fieldLink RX6 212 (TX1 1).1 (TX1 1).2.1 (TX1 1).2.2.1 ∈ gw := gd 189 (by decide +kernel) (by decide +kernel)
theorem fl_X6_212 : FL RX6 212 1 1 := ⟨RX1, TX1, 6, rfl, by decide, iw_X1, fw_X6_212⟩
theorem fw_X6_223 : Cond.fieldLink RX6 223 (TX4 0).1 (TX4 0).2.1 (TX4 0).2.2.1 ∈ gw := gd 163 (by decide +kernel) (by decide +kernel)
theorem fl_X6_223 : FL RX6 223 4 0 := ⟨RX4, TX4, 5, rfl, by decide, iw_X4, fw_X6_223⟩
theorem fw_X6_226 : Cond.fieldLink RX6 226 (TX4 1).1 (TX4 1).2.1 (TX4 1).2.2.1 ∈ gw := gd 165 (by decide +kernel) (by decide +kernel)
theorem fl_X6_226 : FL RX6 226 4 1 := ⟨RX4, TX4, 5, rfl, by decide, iw_X4, fw_X6_226⟩
theorem fw_X6_297 : Cond.fieldLink RX6 297 (TX2 0).1 (TX2 0).2.1 (TX2 0).2.2.1 ∈ gw := gd 148 (by decide +kernel) (by decide +kernel)
theorem fl_X6_297 : FL RX6 297 2 0 := ⟨RX2, TX2, 2, rfl, by decide, iw_X2, fw_X6_297⟩
theorem fw_X7_7 : Cond.fieldLink RX7 7 (TX7 3).1 (TX7 3).2.1 (TX7 3).2.2.1 ∈ gw := gd 631 (by decide +kernel) (by decide +kernel)
theorem fl_X7_7 : FL RX7 7 7 3 := ⟨RX7, TX7, 31, rfl, by decide, iw_X7, fw_X7_7⟩
theorem fw_X7_13 : Cond.fieldLink RX7 13 (TX7 4).1 (TX7 4).2.1 (TX7 4).2.2.1 ∈ gw := gd 632 (by decide +kernel) (by decide +kernel)
theorem fl_X7_13 : FL RX7 13 7 4 := ⟨RX7, TX7, 31, rfl, by decide, iw_X7, fw_X7_13⟩
theorem fw_X7_16 : Cond.fieldLink RX7 16 (TX7 7).1 (TX7 7).2.1 (TX7 7).2.2.1 ∈ gw := gd 635 (by decide +kernel) (by decide +kernel)
theorem fl_X7_16 : FL RX7 16 7 7 := ⟨RX7, TX7, 31, rfl, by decide, iw_X7, fw_X7_16⟩
theorem fw_X7_19 : Cond.fieldLink RX7 19 (TX7 8).1 (TX7 8).2.1 (TX7 8).2.2.1 ∈ gw := gd 636 (by decide +kernel) (by decide +kernel)
theorem fl_X7_19 : FL RX7 19 7 8 := ⟨RX7, TX7, 31, rfl, by decide, iw_X7, fw_X7_19⟩
theorem fw_X7_22 : Cond.fieldLink RX7 22 (TX7 12).1 (TX7 12).2.1 (TX7 12).2.2.1 ∈ gw := gd 640 (by decide +kernel) (by decide +kernel)
theorem fl_X7_22 : FL RX7 22 7 12 := ⟨RX7, TX7, 31, rfl, by decide, iw_X7, fw_X7_22⟩
theorem fw_X7_25 : Cond.fieldLink RX7 25 (TX7 13).1 (TX7 13).2.1 (TX7 13).2.2.1 ∈ gw := gd 641 (by decide +kernel) (by decide +kernel)
theorem fl_X7_25 : FL RX7 25 7 13 := ⟨RX7, TX7, 31, rfl, by decide, iw_X7, fw_X7_25⟩
theorem fw_X7_28 : Cond.fieldLink RX7 28 (TX7 15).1 (TX7 15).2.1 (TX7 15).2.2.1 ∈ gw := gd 643 (by decide +kernel) (by decide +kernel)
theorem fl_X7_28 : FL RX7 28 7 15 := ⟨RX7, TX7, 31, rfl, by decide, iw_X7, fw_X7_28⟩
theorem fw_X7_31 : Cond.fieldLink RX7 31 (TX7 16).1 (TX7 16).2.1 (TX7 16).2.2.1 ∈ gw := gd 644 (by decide +kernel) (by decide +kernel)
theorem fl_X7_31 : FL RX7 31 7 16 := ⟨RX7, TX7, 31, rfl, by decide, iw_X7, fw_X7_31⟩
theorem fw_X7_34 : Cond.fieldLink RX7 34 (TX7 17).1 (TX7 17).2.1 (TX7 17).2.2.1 ∈ gw := gd 645 (by decide +kernel) (by decide +kernel)
theorem fl_X7_34 : FL RX7 34 7 17 := ⟨RX7, TX7, 31, rfl, by decide, iw_X7, fw_X7_34⟩
theorem fw_X7_37 : Cond.fieldLink RX7 37 (TX7 18).1 (TX7 18).2.1 (TX7 18).2.2.1 ∈ gw := gd 646 (by decide +kernel) (by decide +kernel)
theorem fl_X7_37 : FL RX7 37 7 18 := ⟨RX7, TX7, 31, rfl, by decide, iw_X7, fw_X7_37⟩
theorem fw_X7_40 : Cond.fieldLink RX7 40 (TX7 19).1 (TX7 19).2.1 (TX7 19).2.2.1 ∈ gw := gd 647 (by decide +kernel) (by decide +kernel)
theorem fl_X7_40 : FL RX7 40 7 19 := ⟨RX7, TX7, 31, rfl, by decide, iw_X7, fw_X7_40⟩
theorem fw_X7_43 : Cond.fieldLink RX7 43 (TX7 20).1 (TX7 20).2.1 (TX7 20).2.2.1 ∈ gw := gd 648 (by decide +kernel) (by decide +kernel)
theorem fl_X7_43 : FL RX7 43 7 20 := ⟨RX7, TX7, 31, rfl, by decide, iw_X7, fw_X7_43⟩
theorem fw_X7_46 : Cond.fieldLink RX7 46 (TX7 21).1 (TX7 21).2.1 (TX7 21).2.2.1 ∈ gw := gd 649 (by decide +kernel) (by decide +kernel)
theorem fl_X7_46 : FL RX7 46 7 21 := ⟨RX7, TX7, 31, rfl, by decide, iw_X7, fw_X7_46⟩
theorem fw_X7_49 : Cond.fieldLink RX7 49 (TX7 22).1 (TX7 22).2.1 (TX7 22).2.2.1 ∈ gw := gd 650 (by decide +kernel) (by decide +kernel)
theorem fl_X7_49 : FL RX7 49 7 22 := ⟨RX7, TX7, 31, rfl, by decide, iw_X7, fw_X7_49⟩
theorem fw_X7_52 : Cond.fieldLink RX7 52 (TX7 27).1 (TX7 27).2.1 (TX7 27).2.2.1 ∈ gw := gd 655 (by decide +kernel) (by decide +kernel)
theorem fl_X7_52 : FL RX7 52 7 27 := ⟨RX7, TX7, 31, rfl, by decide, iw_X7, fw_X7_52⟩
theorem fw_X7_55 : Cond.fieldLink RX7 55 (TX7 28).1 (TX7 28).2.1 (TX7 28).2.2.1 ∈ gw := gd 656 (by decide +kernel) (by decide +kernel)
theorem fl_X7_55 : FL RX7 55 7 28 := ⟨RX7, TX7, 31, rfl, by decide, iw_X7, fw_X7_55⟩
theorem fw_X7_58 : Cond.fieldLink RX7 58 (TX7 29).1 (TX7 29).2.1 (TX7 29).2.2.1 ∈ gw := gd 657 (by decide +kernel) (by decide +kernel)
theorem fl_X7_58 : FL RX7 58 7 29 := ⟨RX7, TX7, 31, rfl, by decide, iw_X7, fw_X7_58⟩
theorem fw_X7_61 : Cond.fieldLink RX7 61 (TX7 24).1 (TX7 24).2.1 (TX7 24).2.2.1 ∈ gw := gd 652 (by decide +kernel) (by decide +kernel)
theorem fl_X7_61 : FL RX7 61 7 24 := ⟨RX7, TX7, 31, rfl, by decide, iw_X7, fw_X7_61⟩
theorem fp_X7_61 : FP RX7 61 7 24 .int := ⟨RX7, TX7, 31, tyX7, rfl, by decide, iw_X7, fw_X7_61, tyX7_ok, nmX7, rfl, by decide +kernel⟩
theorem fw_X7_65 : Cond.fieldLink RX7 65 (TX7 0).1 (TX7 0).2.1 (TX7 0).2.2.1 ∈ gw := gd 628 (by decide +kernel) (by decide +kernel)
theorem fl_X7_65 : FL RX7 65 7 0 := ⟨RX7, TX7, 31, rfl, by decide, iw_X7, fw_X7_65⟩
theorem fp_X7_65 : FP RX7 65 7 0 .int := ⟨RX7, TX7, 31, tyX7, rfl, by decide, iw_X7, fw_X7_65, tyX7_ok, nmX7, rfl, by decide +kernel⟩
theorem fw_X7_68 : Cond.fieldLink RX7 68 (TX7 1).1 (TX7 1).2.1 (TX7 1).2.2.1 ∈ gw := gd 629 (by decide +kernel) (by decide +kernel)
theorem fl_X7_68 : FL RX7 68 7 1 := ⟨RX7, TX7, 31, rfl, by decide, iw_X7, fw_X7_68⟩
theorem fp_X7_68 : FP RX7 68 7 1 .int := ⟨RX7, TX7, 31, tyX7, rfl, by decide, iw_X7, fw_X7_68, tyX7_ok, nmX7, rfl, by decide +kernel⟩
theorem fw_X7_79 : Cond.fieldLink RX7 79 (TX7 6).1 (TX7 6).2.1 (TX7 6).2.2.1 ∈ gw := gd 634 (by decide +kernel) (by decide +kernel)
theorem fl_X7_79 : FL RX7 79 7 6 := ⟨RX7, TX7, 31, rfl, by decide, iw_X7, fw_X7_79⟩
theorem fp_X7_79 : FP RX7 79 7 6 .int := ⟨RX7, TX7, 31, tyX7, rfl, by decide, iw_X7, fw_X7_79, tyX7_ok, nmX7, rfl, by decide +kernel⟩
theorem fw_X7_88 : Cond.fieldLink RX7 88 (TX7 5).1 (TX7 5).2.1 (TX7 5).2.2.1 ∈ gw := gd 633 (by decide +kernel) (by decide +kernel)
theorem fl_X7_88 : FL RX7 88 7 5 := ⟨RX7, TX7, 31, rfl, by decide, iw_X7, fw_X7_88⟩
theorem fp_X7_88 : FP RX7 88 7 5 .int := ⟨RX7, TX7, 31, tyX7, rfl, by decide, iw_X7, fw_X7_88, tyX7_ok, nmX7, rfl, by decide +kernel⟩
theorem fw_X7_91 : Cond.fieldLink RX7 91 (TX7 2).1 (TX7 2).2.1 (TX7 2).2.2.1 ∈ gw := gd 630 (by decide +kernel) (by decide +kernel)
theorem fl_X7_91 : FL RX7 91 7 2 := ⟨RX7, TX7, 31, rfl, by decide, iw_X7, fw_X7_91⟩
theorem fp_X7_91 : FP RX7 91 7 2 .int := ⟨RX7, TX7, 31, tyX7, rfl, by decide, iw_X7, fw_X7_91, tyX7_ok, nmX7, rfl, by decide +kernel⟩
theorem fw_X7_137 : Cond.fieldLink RX7 137 (TX7 9).1 (TX7 9).2.1 (TX7 9).2.2.1 ∈ gw := gd 637 (by decide +kernel) (by decide +kernel)
theorem fl_X7_137 : FL RX7 137 7 9 := ⟨RX7, TX7, 31, rfl, by decide, iw_X7, fw_X7_137⟩
theorem fp_X7_137 : FP RX7 137 7 9 .int := ⟨RX7, TX7, 31, tyX7, rfl, by decide, iw_X7, fw_X7_137, tyX7_ok, nmX7, rfl, by decide +kernel⟩
theorem fw_X7_140 : Cond.fieldLink RX7 140 (TX7 11).1 (TX7 11).2.1 (TX7 11).2.2.1 ∈ gw := gd 639 (by decide +kernel) (by decide +kernel)
theorem fl_X7_140 : FL RX7 140 7 11 := ⟨RX7, TX7, 31, rfl, by decide, iw_X7, fw_X7_140⟩
theorem fp_X7_140 : FP RX7 140 7 11 .boolean := ⟨RX7, TX7, 31, tyX7, rfl, by decide, iw_X7, fw_X7_140, tyX7_ok, nmX7, rfl, by decide +kernel⟩
theorem fw_X7_144 : Cond.fieldLink RX7 144 (TX7 10).1 (TX7 10).2.1 (TX7 10).2.2.1 ∈ gw := gd 638 (by decide +kernel) (by decide +kernel)
theorem fl_X7_144 : FL RX7 144 7 10 := ⟨RX7, TX7, 31, rfl, by decide, iw_X7, fw_X7_144⟩
theorem fp_X7_144 : FP RX7 144 7 10 .int := ⟨RX7, TX7, 31, tyX7, rfl, by decide, iw_X7, fw_X7_144, tyX7_ok, nmX7, rfl, by decide +kernel⟩
theorem fw_X7_199 : Cond.fieldLink RX7 199 (TX7 14).1 (TX7 14).2.1 (TX7 14).2.2.1 ∈ gw := gd 642 (by decide +kernel) (by decide +kernel)
theorem fl_X7_199 : FL RX7 199 7 14 := ⟨RX7, TX7, 31, rfl, by decide, iw_X7, fw_X7_199⟩
theorem fp_X7_199 : FP RX7 199 7 14 .int := ⟨RX7, TX7, 31, tyX7, rfl, by decide, iw_X7, fw_X7_199, tyX7_ok, nmX7, rfl, by decide +kernel⟩
theorem fw_X7_237 : Cond.fieldLink RX7 237 (TX7 23).1 (TX7 23).2.1 (TX7 23).2.2.1 ∈ gw := gd 651 (by decide +kernel) (by decide +kernel)
theorem fl_X7_237 : FL RX7 237 7 23 := ⟨RX7, TX7, 31, rfl, by decide, iw_X7, fw_X7_237⟩
theorem fp_X7_237 : FP RX7 237 7 23 .int := ⟨RX7, TX7, 31, tyX7, rfl, by decide, iw_X7, fw_X7_237, tyX7_ok, nmX7, rfl, by decide +kernel⟩
theorem fw_X7_254 : Cond.fieldLink RX7 254 (TX7 25).1 (TX7 25).2.1 (TX7 25).2.2.1 ∈ gw := gd 653 (by decide +kernel) (by decide +kernel)
theorem fl_X7_254 : FL RX7 254 7 25 := ⟨RX7, TX7, 31, rfl, by decide, iw_X7, fw_X7_254⟩
theorem fp_X7_254 : FP RX7 254 7 25 .int := ⟨RX7, TX7, 31, tyX7, rfl, by decide, iw_X7, fw_X7_254, tyX7_ok, nmX7, rfl, by decide +kernel⟩
theorem fw_X7_257 : Cond.fieldLink RX7 257 (TX7 26).1 (TX7 26).2.1 (TX7 26).2.2.1 ∈ gw := gd 654 (by decide +kernel) (by decide +kernel)
theorem fl_X7_257 : FL RX7 257 7 26 := ⟨RX7, TX7, 31, rfl, by decide, iw_X7, fw_X7_257⟩
theorem fp_X7_257 : FP RX7 257 7 26 .int := ⟨RX7, TX7, 31, tyX7, rfl, by decide, iw_X7, fw_X7_257, tyX7_ok, nmX7, rfl, by decide +kernel⟩
theorem fw_X7_265 : Cond.fieldLink RX7 265 (TX7 30).1 (TX7 30).2.1 (TX7 30).2.2.1 ∈ gw := gd 658 (by decide +kernel) (by decide +kernel)
theorem fl_X7_265 : FL RX7 265 7 30 := ⟨RX7, TX7, 31, rfl, by decide, iw_X7, fw_X7_265⟩
theorem fp_X7_265 : FP RX7 265 7 30 .long := ⟨RX7, TX7, 31, tyX7, rfl, by decide, iw_X7, fw_X7_265, tyX7_ok, nmX7, rfl, by decide +kernel⟩
theorem cn_J6_265 : Cond.constant RJ6 265 1431655765 ∈ gw := gd 499 (by decide +kernel) (by decide +kernel)
theorem cn_J6_266 : Cond.constant RJ6 266 858993459 ∈ gw := gd 500 (by decide +kernel) (by decide +kernel)
theorem cn_J6_267 : Cond.constant RJ6 267 252645135 ∈ gw := gd 501 (by decide +kernel) (by decide +kernel)
theorem cn_X1_68 : Cond.constant RX1 68 1048576 ∈ gw := gd 488 (by decide +kernel) (by decide +kernel)
theorem cn_X2_15 : Cond.constantLong RX2 15 255 ∈ gw := gd 367 (by decide +kernel) (by decide +kernel)
theorem cn_X6_201 : Cond.constant RX6 201 (-100001) ∈ gw := gd 467 (by decide +kernel) (by decide +kernel)
theorem cn_X6_229 : Cond.constantLong RX6 229 (-101) ∈ gw := gd 549 (by decide +kernel) (by decide +kernel)
theorem cn_X6_231 : Cond.constantLong RX6 231 (-102) ∈ gw := gd 550 (by decide +kernel) (by decide +kernel)
theorem cn_X6_247 : Cond.constantLong RX6 247 (-1) ∈ gw := gd 566 (by decide +kernel) (by decide +kernel)
theorem cn_X6_272 : Cond.constantLong RX6 272 1103515245 ∈ gw := gd 584 (by decide +kernel) (by decide +kernel)
theorem cn_X6_274 : Cond.constantLong RX6 274 12345 ∈ gw := gd 585 (by decide +kernel) (by decide +kernel)
theorem cn_X6_276 : Cond.constantLong RX6 276 2147483647 ∈ gw := gd 586 (by decide +kernel) (by decide +kernel)
theorem cn_X6_278 : Cond.constantLong RX6 278 617 ∈ gw := gd 614 (by decide +kernel) (by decide +kernel)
theorem cn_X6_280 : Cond.constantLong RX6 280 31 ∈ gw := gd 615 (by decide +kernel) (by decide +kernel)
theorem cn_X7_82 : Cond.constantLong RX7 82 5 ∈ gw := gd 779 (by decide +kernel) (by decide +kernel)
theorem cn_X7_84 : Cond.constantLong RX7 84 2 ∈ gw := gd 726 (by decide +kernel) (by decide +kernel)
theorem cn_X7_86 : Cond.constantLong RX7 86 4 ∈ gw := gd 727 (by decide +kernel) (by decide +kernel)
theorem cn_X7_101 : Cond.constantLong RX7 101 99 ∈ gw := gd 743 (by decide +kernel) (by decide +kernel)
theorem cn_X7_121 : Cond.constantLong RX7 121 9 ∈ gw := gd 780 (by decide +kernel) (by decide +kernel)
theorem cn_X7_135 : Cond.constantLong RX7 135 255 ∈ gw := gd 813 (by decide +kernel) (by decide +kernel)
theorem cn_X7_147 : Cond.constantLong RX7 147 49 ∈ gw := gd 830 (by decide +kernel) (by decide +kernel)
theorem cn_X7_149 : Cond.constantLong RX7 149 57 ∈ gw := gd 831 (by decide +kernel) (by decide +kernel)
theorem cn_X7_191 : Cond.constant RX7 191 (-100001) ∈ gw := gd 889 (by decide +kernel) (by decide +kernel)
theorem cn_X7_195 : Cond.constantLong RX7 195 3 ∈ gw := gd 894 (by decide +kernel) (by decide +kernel)
theorem cn_X7_197 : Cond.constantLong RX7 197 200 ∈ gw := gd 895 (by decide +kernel) (by decide +kernel)
theorem cn_X7_222 : Cond.constantLong RX7 222 (-101) ∈ gw := gd 935 (by decide +kernel) (by decide +kernel)
theorem cn_X7_224 : Cond.constantLong RX7 224 (-102) ∈ gw := gd 936 (by decide +kernel) (by decide +kernel)
theorem cn_X7_229 : Cond.constantLong RX7 229 10 ∈ gw := gd 941 (by decide +kernel) (by decide +kernel)
theorem cn_X7_235 : Cond.constantLong RX7 235 1103515245 ∈ gw := gd 957 (by decide +kernel) (by decide +kernel)
theorem cn_X7_240 : Cond.constantLong RX7 240 12345 ∈ gw := gd 958 (by decide +kernel) (by decide +kernel)
theorem cn_X7_242 : Cond.constantLong RX7 242 2147483647 ∈ gw := gd 959 (by decide +kernel) (by decide +kernel)
theorem cn_X7_244 : Cond.constant RX7 244 65536 ∈ gw := gd 960 (by decide +kernel) (by decide +kernel)
theorem cn_X7_245 : Cond.constantLong RX7 245 60 ∈ gw := gd 949 (by decide +kernel) (by decide +kernel)
theorem cn_X7_263 : Cond.constantLong RX7 263 31 ∈ gw := gd 986 (by decide +kernel) (by decide +kernel)
theorem cn_X7_269 : Cond.constantLong RX7 269 617 ∈ gw := gd 981 (by decide +kernel) (by decide +kernel)
theorem mm_X0_9 : Cond.methodLink RX0 9 Lib.Math.max.name ∈ gw := gd 432 (by decide +kernel) (by decide +kernel)
theorem mm_X1_46 : Cond.methodLink RX1 46 Lib.Math.min.name ∈ gw := gd 480 (by decide +kernel) (by decide +kernel)
theorem mm_X3_31 : Cond.methodLink RX3 31 Lib.Math.max.name ∈ gw := gd 515 (by decide +kernel) (by decide +kernel)
theorem mm_X4_53 : Cond.methodLink RX4 53 Lib.Math.max.name ∈ gw := gd 544 (by decide +kernel) (by decide +kernel)
theorem mm_X5_72 : Cond.methodLink RX5 72 Lib.Math.min.name ∈ gw := gd 415 (by decide +kernel) (by decide +kernel)
theorem mm_X6_303 : Cond.methodLink RX6 303 Lib.Math.min.name ∈ gw := gd 421 (by decide +kernel) (by decide +kernel)
theorem mm_X6_308 : Cond.methodLink RX6 308 Lib.Math.max.name ∈ gw := gd 422 (by decide +kernel) (by decide +kernel)
theorem ii_X0 : Cond.initialized RX0 ∈ gw := gd 43 (by decide +kernel) (by decide +kernel)
theorem ii_X1 : Cond.initialized RX1 ∈ gw := gd 46 (by decide +kernel) (by decide +kernel)
theorem ii_X2 : Cond.initialized RX2 ∈ gw := gd 44 (by decide +kernel) (by decide +kernel)
theorem ii_X3 : Cond.initialized RX3 ∈ gw := gd 47 (by decide +kernel) (by decide +kernel)
theorem ii_X4 : Cond.initialized RX4 ∈ gw := gd 45 (by decide +kernel) (by decide +kernel)
theorem ii_X5 : Cond.initialized RX5 ∈ gw := gd 42 (by decide +kernel) (by decide +kernel)
theorem ii_X6 : Cond.initialized RX6 ∈ gw := gd 41 (by decide +kernel) (by decide +kernel)
theorem ii_X7 : Cond.initialized RX7 ∈ gw := gd 48 (by decide +kernel) (by decide +kernel)
theorem ii_J6 : Cond.initialized RJ6 ∈ gw := gd 50 (by decide +kernel) (by decide +kernel)
set_option maxRecDepth 40000 in
theorem mc_X6_about : Cond.code yX6_about cX6_about 4 (some .int) ∈ gw := gd 317 rfl rfl
theorem md_X6_about : MLd yX6_about 2 := ⟨by decide +kernel, by decide +kernel, by decide +kernel⟩
theorem mi_X6_about : Cond.instanceMethod yX6_about ∈ gw := gd 315 (by decide +kernel) (by decide +kernel)
theorem me_X6_about : Cond.selects yX6_about.cls yX6_about yX6_about ∈ gw := gd 316 (by decide +kernel) (by decide +kernel)
set_option maxRecDepth 40000 in
theorem mc_X6_arePair : Cond.code yX6_arePair cX6_arePair 2 (some .boolean) ∈ gw := gd 296 rfl rfl
theorem md_X6_arePair : MLd yX6_arePair 2 := ⟨by decide +kernel, by decide +kernel, by decide +kernel⟩
theorem ms_X6_arePair : Cond.static yX6_arePair ∈ gw := gd 295 (by decide +kernel) (by decide +kernel)
set_option maxRecDepth 40000 in
theorem mc_X6_choose : Cond.code yX6_choose cX6_choose 5 (some .long) ∈ gw := gd 559 rfl rfl
theorem md_X6_choose : MLd yX6_choose 2 := ⟨by decide +kernel, by decide +kernel, by decide +kernel⟩
theorem ms_X6_choose : Cond.static yX6_choose ∈ gw := gd 558 (by decide +kernel) (by decide +kernel)
set_option maxRecDepth 40000 in
theorem mc_X6_commonDivisor : Cond.code yX6_commonDivisor cX6_commonDivisor 11 (some .long) ∈ gw := gd 565 rfl rfl
theorem md_X6_commonDivisor : MLd yX6_commonDivisor 2 := ⟨by decide +kernel, by decide +kernel, by decide +kernel⟩
theorem ms_X6_commonDivisor : Cond.static yX6_commonDivisor ∈ gw := gd 564 (by decide +kernel) (by decide +kernel)
set_option maxRecDepth 40000 in
theorem mc_X6_conditionOf : Cond.code yX6_conditionOf cX6_conditionOf 2 (some .int) ∈ gw := gd 341 rfl rfl
theorem md_X6_conditionOf : MLd yX6_conditionOf 1 := ⟨by decide +kernel, by decide +kernel, by decide +kernel⟩
theorem mi_X6_conditionOf : Cond.instanceMethod yX6_conditionOf ∈ gw := gd 340 (by decide +kernel) (by decide +kernel)
theorem me_X6_conditionOf : Cond.selects yX6_conditionOf.cls yX6_conditionOf yX6_conditionOf ∈ gw := gd 0 (by decide +kernel) (by decide +kernel)
set_option maxRecDepth 40000 in
theorem mc_X6_count : Cond.code yX6_count cX6_count 2 (some .int) ∈ gw := gd 609 rfl rfl
theorem md_X6_count : MLd yX6_count 1 := ⟨by decide +kernel, by decide +kernel, by decide +kernel⟩
theorem mi_X6_count : Cond.instanceMethod yX6_count ∈ gw := gd 607 (by decide +kernel) (by decide +kernel)
theorem me_X6_count : Cond.selects yX6_count.cls yX6_count yX6_count ∈ gw := gd 608 (by decide +kernel) (by decide +kernel)
set_option maxRecDepth 40000 in
theorem mc_X6_drawFrom : Cond.code yX6_drawFrom cX6_drawFrom 2 (some .int) ∈ gw := gd 589 rfl rfl
theorem md_X6_drawFrom : MLd yX6_drawFrom 2 := ⟨by decide +kernel, by decide +kernel, by decide +kernel⟩
theorem ms_X6_drawFrom : Cond.static yX6_drawFrom ∈ gw := gd 588 (by decide +kernel) (by decide +kernel)
set_option maxRecDepth 40000 in
theorem mc_X6_iceBehind : Cond.code yX6_iceBehind cX6_iceBehind 3 (some .int) ∈ gw := gd 420 rfl rfl
theorem md_X6_iceBehind : MLd yX6_iceBehind 3 := ⟨by decide +kernel, by decide +kernel, by decide +kernel⟩
theorem ms_X6_iceBehind : Cond.static yX6_iceBehind ∈ gw := gd 419 (by decide +kernel) (by decide +kernel)
set_option maxRecDepth 40000 in
theorem mc_X6_isKind : Cond.code yX6_isKind cX6_isKind 1 (some .boolean) ∈ gw := gd 302 rfl rfl
theorem md_X6_isKind : MLd yX6_isKind 1 := ⟨by decide +kernel, by decide +kernel, by decide +kernel⟩
theorem ms_X6_isKind : Cond.static yX6_isKind ∈ gw := gd 301 (by decide +kernel) (by decide +kernel)
set_option maxRecDepth 40000 in
theorem mc_X6_isPerson : Cond.code yX6_isPerson cX6_isPerson 1 (some .boolean) ∈ gw := gd 299 rfl rfl
theorem md_X6_isPerson : MLd yX6_isPerson 1 := ⟨by decide +kernel, by decide +kernel, by decide +kernel⟩
theorem ms_X6_isPerson : Cond.static yX6_isPerson ∈ gw := gd 298 (by decide +kernel) (by decide +kernel)
set_option maxRecDepth 40000 in
theorem mc_X6_nextSeed : Cond.code yX6_nextSeed cX6_nextSeed 1 (some .int) ∈ gw := gd 583 rfl rfl
theorem md_X6_nextSeed : MLd yX6_nextSeed 1 := ⟨by decide +kernel, by decide +kernel, by decide +kernel⟩
theorem ms_X6_nextSeed : Cond.static yX6_nextSeed ∈ gw := gd 582 (by decide +kernel) (by decide +kernel)
set_option maxRecDepth 40000 in
theorem mc_X6_power : Cond.code yX6_power cX6_power 5 (some .long) ∈ gw := gd 562 rfl rfl
theorem md_X6_power : MLd yX6_power 2 := ⟨by decide +kernel, by decide +kernel, by decide +kernel⟩
theorem ms_X6_power : Cond.static yX6_power ∈ gw := gd 561 (by decide +kernel) (by decide +kernel)
set_option maxRecDepth 40000 in
theorem mc_X6_rest : Cond.code yX6_rest cX6_rest 2 (some .int) ∈ gw := gd 461 rfl rfl
theorem md_X6_rest : MLd yX6_rest 1 := ⟨by decide +kernel, by decide +kernel, by decide +kernel⟩
theorem mi_X6_rest : Cond.instanceMethod yX6_rest ∈ gw := gd 459 (by decide +kernel) (by decide +kernel)
theorem me_X6_rest : Cond.selects yX6_rest.cls yX6_rest yX6_rest ∈ gw := gd 460 (by decide +kernel) (by decide +kernel)
set_option maxRecDepth 40000 in
theorem mc_X6_settled : Cond.code yX6_settled cX6_settled 3 (some .int) ∈ gw := gd 505 rfl rfl
theorem md_X6_settled : MLd yX6_settled 1 := ⟨by decide +kernel, by decide +kernel, by decide +kernel⟩
theorem mi_X6_settled : Cond.instanceMethod yX6_settled ∈ gw := gd 503 (by decide +kernel) (by decide +kernel)
theorem me_X6_settled : Cond.selects yX6_settled.cls yX6_settled yX6_settled ∈ gw := gd 504 (by decide +kernel) (by decide +kernel)
set_option maxRecDepth 40000 in
theorem mc_X6_skate : Cond.code yX6_skate cX6_skate 4 (some .int) ∈ gw := gd 519 rfl rfl
theorem md_X6_skate : MLd yX6_skate 3 := ⟨by decide +kernel, by decide +kernel, by decide +kernel⟩
theorem mi_X6_skate : Cond.instanceMethod yX6_skate ∈ gw := gd 517 (by decide +kernel) (by decide +kernel)
theorem me_X6_skate : Cond.selects yX6_skate.cls yX6_skate yX6_skate ∈ gw := gd 518 (by decide +kernel) (by decide +kernel)
set_option maxRecDepth 40000 in
theorem mc_X6_square : Cond.code yX6_square cX6_square 3 (some .int) ∈ gw := gd 281 rfl rfl
theorem md_X6_square : MLd yX6_square 2 := ⟨by decide +kernel, by decide +kernel, by decide +kernel⟩
theorem mi_X6_square : Cond.instanceMethod yX6_square ∈ gw := gd 279 (by decide +kernel) (by decide +kernel)
theorem me_X6_square : Cond.selects yX6_square.cls yX6_square yX6_square ∈ gw := gd 280 (by decide +kernel) (by decide +kernel)
set_option maxRecDepth 40000 in
theorem mc_X6_thawsOutlasted : Cond.code yX6_thawsOutlasted cX6_thawsOutlasted 9 (some .int) ∈ gw := gd 554 rfl rfl
theorem md_X6_thawsOutlasted : MLd yX6_thawsOutlasted 3 := ⟨by decide +kernel, by decide +kernel, by decide +kernel⟩
theorem mi_X6_thawsOutlasted : Cond.instanceMethod yX6_thawsOutlasted ∈ gw := gd 553 (by decide +kernel) (by decide +kernel)
theorem me_X6_thawsOutlasted : Cond.selects yX6_thawsOutlasted.cls yX6_thawsOutlasted yX6_thawsOutlasted ∈ gw := gd 9 (by decide +kernel) (by decide +kernel)
set_option maxRecDepth 40000 in
theorem mc_X6_within : Cond.code yX6_within cX6_within 3 (some .boolean) ∈ gw := gd 261 rfl rfl
theorem md_X6_within : MLd yX6_within 3 := ⟨by decide +kernel, by decide +kernel, by decide +kernel⟩
theorem ms_X6_within : Cond.static yX6_within ∈ gw := gd 260 (by decide +kernel) (by decide +kernel)
set_option maxRecDepth 40000 in
theorem mc_X0_concern : Cond.code yX0_concern cX0_concern 5 none ∈ gw := gd 309 rfl rfl
theorem md_X0_concern : MLd yX0_concern 4 := ⟨by decide +kernel, by decide +kernel, by decide +kernel⟩
theorem mi_X0_concern : Cond.instanceMethod yX0_concern ∈ gw := gd 307 (by decide +kernel) (by decide +kernel)
theorem me_X0_concern : Cond.selects yX0_concern.cls yX0_concern yX0_concern ∈ gw := gd 308 (by decide +kernel) (by decide +kernel)
set_option maxRecDepth 40000 in
theorem mc_X0_copyFrom : Cond.code yX0_copyFrom cX0_copyFrom 2 none ∈ gw := gd 578 rfl rfl
theorem md_X0_copyFrom : MLd yX0_copyFrom 1 := ⟨by decide +kernel, by decide +kernel, by decide +kernel⟩
theorem mi_X0_copyFrom : Cond.instanceMethod yX0_copyFrom ∈ gw := gd 576 (by decide +kernel) (by decide +kernel)
theorem me_X0_copyFrom : Cond.selects yX0_copyFrom.cls yX0_copyFrom yX0_copyFrom ∈ gw := gd 577 (by decide +kernel) (by decide +kernel)
set_option maxRecDepth 40000 in
theorem mc_X0_cutBehindThaw : Cond.code yX0_cutBehindThaw cX0_cutBehindThaw 5 (some .int) ∈ gw := gd 431 rfl rfl
theorem md_X0_cutBehindThaw : MLd yX0_cutBehindThaw 4 := ⟨by decide +kernel, by decide +kernel, by decide +kernel⟩
theorem ms_X0_cutBehindThaw : Cond.static yX0_cutBehindThaw ∈ gw := gd 430 (by decide +kernel) (by decide +kernel)
set_option maxRecDepth 40000 in
theorem mc_X0_cutIn : Cond.code yX0_cutIn cX0_cutIn 3 none ∈ gw := gd 313 rfl rfl
theorem md_X0_cutIn : MLd yX0_cutIn 2 := ⟨by decide +kernel, by decide +kernel, by decide +kernel⟩
theorem mi_X0_cutIn : Cond.instanceMethod yX0_cutIn ∈ gw := gd 311 (by decide +kernel) (by decide +kernel)
theorem me_X0_cutIn : Cond.selects yX0_cutIn.cls yX0_cutIn yX0_cutIn ∈ gw := gd 312 (by decide +kernel) (by decide +kernel)
set_option maxRecDepth 40000 in
theorem mc_X0_depthOf : Cond.code yX0_depthOf cX0_depthOf 2 (some .int) ∈ gw := gd 305 rfl rfl
theorem md_X0_depthOf : MLd yX0_depthOf 2 := ⟨by decide +kernel, by decide +kernel, by decide +kernel⟩
theorem ms_X0_depthOf : Cond.static yX0_depthOf ∈ gw := gd 304 (by decide +kernel) (by decide +kernel)
set_option maxRecDepth 40000 in
theorem mc_X0_isOfKind : Cond.code yX0_isOfKind cX0_isOfKind 2 (some .boolean) ∈ gw := gd 337 rfl rfl
theorem md_X0_isOfKind : MLd yX0_isOfKind 2 := ⟨by decide +kernel, by decide +kernel, by decide +kernel⟩
theorem ms_X0_isOfKind : Cond.static yX0_isOfKind ∈ gw := gd 336 (by decide +kernel) (by decide +kernel)
set_option maxRecDepth 40000 in
theorem mc_X0_isThere : Cond.code yX0_isThere cX0_isThere 1 (some .boolean) ∈ gw := gd 277 rfl rfl
theorem md_X0_isThere : MLd yX0_isThere 0 := ⟨by decide +kernel, by decide +kernel, by decide +kernel⟩
theorem mi_X0_isThere : Cond.instanceMethod yX0_isThere ∈ gw := gd 275 (by decide +kernel) (by decide +kernel)
theorem me_X0_isThere : Cond.selects yX0_isThere.cls yX0_isThere yX0_isThere ∈ gw := gd 276 (by decide +kernel) (by decide +kernel)
set_option maxRecDepth 40000 in
theorem mc_X0_keepBlock : Cond.code yX0_keepBlock cX0_keepBlock 2 none ∈ gw := gd 356 rfl rfl
theorem md_X0_keepBlock : MLd yX0_keepBlock 1 := ⟨by decide +kernel, by decide +kernel, by decide +kernel⟩
theorem mi_X0_keepBlock : Cond.instanceMethod yX0_keepBlock ∈ gw := gd 354 (by decide +kernel) (by decide +kernel)
theorem me_X0_keepBlock : Cond.selects yX0_keepBlock.cls yX0_keepBlock yX0_keepBlock ∈ gw := gd 355 (by decide +kernel) (by decide +kernel)
set_option maxRecDepth 40000 in
theorem mc_X0_worthOn : Cond.code yX0_worthOn cX0_worthOn 3 (some .int) ∈ gw := gd 334 rfl rfl
theorem md_X0_worthOn : MLd yX0_worthOn 1 := ⟨by decide +kernel, by decide +kernel, by decide +kernel⟩
theorem mi_X0_worthOn : Cond.instanceMethod yX0_worthOn ∈ gw := gd 332 (by decide +kernel) (by decide +kernel)
theorem me_X0_worthOn : Cond.selects yX0_worthOn.cls yX0_worthOn yX0_worthOn ∈ gw := gd 333 (by decide +kernel) (by decide +kernel)
set_option maxRecDepth 40000 in
theorem mc_X1_choose : Cond.code yX1_choose cX1_choose 5 none ∈ gw := gd 475 rfl rfl
theorem md_X1_choose : MLd yX1_choose 3 := ⟨by decide +kernel, by decide +kernel, by decide +kernel⟩
theorem mi_X1_choose : Cond.instanceMethod yX1_choose ∈ gw := gd 473 (by decide +kernel) (by decide +kernel)
theorem me_X1_choose : Cond.selects yX1_choose.cls yX1_choose yX1_choose ∈ gw := gd 474 (by decide +kernel) (by decide +kernel)
set_option maxRecDepth 40000 in
theorem mc_X1_keepBetter : Cond.code yX1_keepBetter cX1_keepBetter 4 none ∈ gw := gd 495 rfl rfl
theorem md_X1_keepBetter : MLd yX1_keepBetter 1 := ⟨by decide +kernel, by decide +kernel, by decide +kernel⟩
theorem mi_X1_keepBetter : Cond.instanceMethod yX1_keepBetter ∈ gw := gd 494 (by decide +kernel) (by decide +kernel)
theorem me_X1_keepBetter : Cond.selects yX1_keepBetter.cls yX1_keepBetter yX1_keepBetter ∈ gw := gd 4 (by decide +kernel) (by decide +kernel)
set_option maxRecDepth 40000 in
theorem mc_X1_layOn : Cond.code yX1_layOn cX1_layOn 3 (some .int) ∈ gw := gd 491 rfl rfl
theorem md_X1_layOn : MLd yX1_layOn 3 := ⟨by decide +kernel, by decide +kernel, by decide +kernel⟩
theorem ms_X1_layOn : Cond.static yX1_layOn ∈ gw := gd 490 (by decide +kernel) (by decide +kernel)
set_option maxRecDepth 40000 in
theorem mc_X1_pack : Cond.code yX1_pack cX1_pack 5 (some .int) ∈ gw := gd 487 rfl rfl
theorem md_X1_pack : MLd yX1_pack 2 := ⟨by decide +kernel, by decide +kernel, by decide +kernel⟩
theorem mi_X1_pack : Cond.instanceMethod yX1_pack ∈ gw := gd 486 (by decide +kernel) (by decide +kernel)
theorem me_X1_pack : Cond.selects yX1_pack.cls yX1_pack yX1_pack ∈ gw := gd 3 (by decide +kernel) (by decide +kernel)
set_option maxRecDepth 40000 in
theorem mc_X1_weigh : Cond.code yX1_weigh cX1_weigh 3 none ∈ gw := gd 479 rfl rfl
theorem md_X1_weigh : MLd yX1_weigh 1 := ⟨by decide +kernel, by decide +kernel, by decide +kernel⟩
theorem mi_X1_weigh : Cond.instanceMethod yX1_weigh ∈ gw := gd 478 (by decide +kernel) (by decide +kernel)
theorem me_X1_weigh : Cond.selects yX1_weigh.cls yX1_weigh yX1_weigh ∈ gw := gd 2 (by decide +kernel) (by decide +kernel)
set_option maxRecDepth 40000 in
theorem mc_X2_append : Cond.code yX2_append cX2_append 5 none ∈ gw := gd 371 rfl rfl
theorem md_X2_append : MLd yX2_append 2 := ⟨by decide +kernel, by decide +kernel, by decide +kernel⟩
theorem mi_X2_append : Cond.instanceMethod yX2_append ∈ gw := gd 369 (by decide +kernel) (by decide +kernel)
theorem me_X2_append : Cond.selects yX2_append.cls yX2_append yX2_append ∈ gw := gd 370 (by decide +kernel) (by decide +kernel)
set_option maxRecDepth 40000 in
theorem mc_X2_beginsDay : Cond.code yX2_beginsDay cX2_beginsDay 2 (some .boolean) ∈ gw := gd 402 rfl rfl
theorem md_X2_beginsDay : MLd yX2_beginsDay 1 := ⟨by decide +kernel, by decide +kernel, by decide +kernel⟩
theorem mi_X2_beginsDay : Cond.instanceMethod yX2_beginsDay ∈ gw := gd 400 (by decide +kernel) (by decide +kernel)
theorem me_X2_beginsDay : Cond.selects yX2_beginsDay.cls yX2_beginsDay yX2_beginsDay ∈ gw := gd 401 (by decide +kernel) (by decide +kernel)
set_option maxRecDepth 40000 in
theorem mc_X2_codeAt : Cond.code yX2_codeAt cX2_codeAt 3 (some .int) ∈ gw := gd 366 rfl rfl
theorem md_X2_codeAt : MLd yX2_codeAt 2 := ⟨by decide +kernel, by decide +kernel, by decide +kernel⟩
theorem ms_X2_codeAt : Cond.static yX2_codeAt ∈ gw := gd 365 (by decide +kernel) (by decide +kernel)
set_option maxRecDepth 40000 in
theorem mc_X2_dayAt : Cond.code yX2_dayAt cX2_dayAt 2 (some .int) ∈ gw := gd 406 rfl rfl
theorem md_X2_dayAt : MLd yX2_dayAt 1 := ⟨by decide +kernel, by decide +kernel, by decide +kernel⟩
theorem mi_X2_dayAt : Cond.instanceMethod yX2_dayAt ∈ gw := gd 404 (by decide +kernel) (by decide +kernel)
theorem me_X2_dayAt : Cond.selects yX2_dayAt.cls yX2_dayAt yX2_dayAt ∈ gw := gd 405 (by decide +kernel) (by decide +kernel)
set_option maxRecDepth 40000 in
theorem mc_X2_daysUntilBearing : Cond.code yX2_daysUntilBearing cX2_daysUntilBearing 5 (some .int) ∈ gw := gd 453 rfl rfl
theorem md_X2_daysUntilBearing : MLd yX2_daysUntilBearing 1 := ⟨by decide +kernel, by decide +kernel, by decide +kernel⟩
theorem mi_X2_daysUntilBearing : Cond.instanceMethod yX2_daysUntilBearing ∈ gw := gd 451 (by decide +kernel) (by decide +kernel)
theorem me_X2_daysUntilBearing : Cond.selects yX2_daysUntilBearing.cls yX2_daysUntilBearing yX2_daysUntilBearing ∈ gw := gd 452 (by decide +kernel) (by decide +kernel)
set_option maxRecDepth 40000 in
theorem mc_X2_firstWrong : Cond.code yX2_firstWrong cX2_firstWrong 5 (some .int) ∈ gw := gd 383 rfl rfl
theorem md_X2_firstWrong : MLd yX2_firstWrong 0 := ⟨by decide +kernel, by decide +kernel, by decide +kernel⟩
theorem mi_X2_firstWrong : Cond.instanceMethod yX2_firstWrong ∈ gw := gd 381 (by decide +kernel) (by decide +kernel)
theorem me_X2_firstWrong : Cond.selects yX2_firstWrong.cls yX2_firstWrong yX2_firstWrong ∈ gw := gd 382 (by decide +kernel) (by decide +kernel)
set_option maxRecDepth 40000 in
theorem mc_X2_hasInches : Cond.code yX2_hasInches cX2_hasInches 1 (some .boolean) ∈ gw := gd 386 rfl rfl
theorem md_X2_hasInches : MLd yX2_hasInches 1 := ⟨by decide +kernel, by decide +kernel, by decide +kernel⟩
theorem ms_X2_hasInches : Cond.static yX2_hasInches ∈ gw := gd 385 (by decide +kernel) (by decide +kernel)
set_option maxRecDepth 40000 in
theorem mc_X2_inchesAt : Cond.code yX2_inchesAt cX2_inchesAt 2 (some .int) ∈ gw := gd 410 rfl rfl
theorem md_X2_inchesAt : MLd yX2_inchesAt 1 := ⟨by decide +kernel, by decide +kernel, by decide +kernel⟩
theorem mi_X2_inchesAt : Cond.instanceMethod yX2_inchesAt ∈ gw := gd 408 (by decide +kernel) (by decide +kernel)
theorem me_X2_inchesAt : Cond.selects yX2_inchesAt.cls yX2_inchesAt yX2_inchesAt ∈ gw := gd 409 (by decide +kernel) (by decide +kernel)
set_option maxRecDepth 40000 in
theorem mc_X2_isDays : Cond.code yX2_isDays cX2_isDays 1 (some .boolean) ∈ gw := gd 397 rfl rfl
theorem md_X2_isDays : MLd yX2_isDays 0 := ⟨by decide +kernel, by decide +kernel, by decide +kernel⟩
theorem mi_X2_isDays : Cond.instanceMethod yX2_isDays ∈ gw := gd 395 (by decide +kernel) (by decide +kernel)
theorem me_X2_isDays : Cond.selects yX2_isDays.cls yX2_isDays yX2_isDays ∈ gw := gd 396 (by decide +kernel) (by decide +kernel)
set_option maxRecDepth 40000 in
theorem mc_X2_isWholeDay : Cond.code yX2_isWholeDay cX2_isWholeDay 1 (some .boolean) ∈ gw := gd 389 rfl rfl
theorem md_X2_isWholeDay : MLd yX2_isWholeDay 1 := ⟨by decide +kernel, by decide +kernel, by decide +kernel⟩
theorem ms_X2_isWholeDay : Cond.static yX2_isWholeDay ∈ gw := gd 388 (by decide +kernel) (by decide +kernel)
set_option maxRecDepth 40000 in
theorem mc_X2_lettersIn : Cond.code yX2_lettersIn cX2_lettersIn 5 (some .int) ∈ gw := gd 363 rfl rfl
theorem md_X2_lettersIn : MLd yX2_lettersIn 1 := ⟨by decide +kernel, by decide +kernel, by decide +kernel⟩
theorem ms_X2_lettersIn : Cond.static yX2_lettersIn ∈ gw := gd 362 (by decide +kernel) (by decide +kernel)
set_option maxRecDepth 40000 in
theorem mc_X2_outlasts : Cond.code yX2_outlasts cX2_outlasts 7 (some .boolean) ∈ gw := gd 440 rfl rfl
theorem md_X2_outlasts : MLd yX2_outlasts 3 := ⟨by decide +kernel, by decide +kernel, by decide +kernel⟩
theorem mi_X2_outlasts : Cond.instanceMethod yX2_outlasts ∈ gw := gd 438 (by decide +kernel) (by decide +kernel)
theorem me_X2_outlasts : Cond.selects yX2_outlasts.cls yX2_outlasts yX2_outlasts ∈ gw := gd 439 (by decide +kernel) (by decide +kernel)
set_option maxRecDepth 40000 in
theorem mc_X3_addSet : Cond.code yX3_addSet cX3_addSet 5 none ∈ gw := gd 514 rfl rfl
theorem md_X3_addSet : MLd yX3_addSet 1 := ⟨by decide +kernel, by decide +kernel, by decide +kernel⟩
theorem mi_X3_addSet : Cond.instanceMethod yX3_addSet ∈ gw := gd 513 (by decide +kernel) (by decide +kernel)
theorem me_X3_addSet : Cond.selects yX3_addSet.cls yX3_addSet yX3_addSet ∈ gw := gd 5 (by decide +kernel) (by decide +kernel)
set_option maxRecDepth 40000 in
theorem mc_X3_mostGroups : Cond.code yX3_mostGroups cX3_mostGroups 3 (some .int) ∈ gw := gd 509 rfl rfl
theorem md_X3_mostGroups : MLd yX3_mostGroups 1 := ⟨by decide +kernel, by decide +kernel, by decide +kernel⟩
theorem mi_X3_mostGroups : Cond.instanceMethod yX3_mostGroups ∈ gw := gd 507 (by decide +kernel) (by decide +kernel)
theorem me_X3_mostGroups : Cond.selects yX3_mostGroups.cls yX3_mostGroups yX3_mostGroups ∈ gw := gd 508 (by decide +kernel) (by decide +kernel)
set_option maxRecDepth 40000 in
theorem mc_X4_enter : Cond.code yX4_enter cX4_enter 4 none ∈ gw := gd 535 rfl rfl
theorem md_X4_enter : MLd yX4_enter 3 := ⟨by decide +kernel, by decide +kernel, by decide +kernel⟩
theorem mi_X4_enter : Cond.instanceMethod yX4_enter ∈ gw := gd 534 (by decide +kernel) (by decide +kernel)
theorem me_X4_enter : Cond.selects yX4_enter.cls yX4_enter yX4_enter ∈ gw := gd 6 (by decide +kernel) (by decide +kernel)
set_option maxRecDepth 40000 in
theorem mc_X4_leave : Cond.code yX4_leave cX4_leave 3 none ∈ gw := gd 539 rfl rfl
theorem md_X4_leave : MLd yX4_leave 2 := ⟨by decide +kernel, by decide +kernel, by decide +kernel⟩
theorem mi_X4_leave : Cond.instanceMethod yX4_leave ∈ gw := gd 538 (by decide +kernel) (by decide +kernel)
theorem me_X4_leave : Cond.selects yX4_leave.cls yX4_leave yX4_leave ∈ gw := gd 7 (by decide +kernel) (by decide +kernel)
set_option maxRecDepth 40000 in
theorem mc_X4_reach : Cond.code yX4_reach cX4_reach 5 none ∈ gw := gd 543 rfl rfl
theorem md_X4_reach : MLd yX4_reach 3 := ⟨by decide +kernel, by decide +kernel, by decide +kernel⟩
theorem mi_X4_reach : Cond.instanceMethod yX4_reach ∈ gw := gd 542 (by decide +kernel) (by decide +kernel)
theorem me_X4_reach : Cond.selects yX4_reach.cls yX4_reach yX4_reach ∈ gw := gd 8 (by decide +kernel) (by decide +kernel)
set_option maxRecDepth 40000 in
theorem mc_X4_roam : Cond.code yX4_roam cX4_roam 4 none ∈ gw := gd 523 rfl rfl
theorem md_X4_roam : MLd yX4_roam 2 := ⟨by decide +kernel, by decide +kernel, by decide +kernel⟩
theorem mi_X4_roam : Cond.instanceMethod yX4_roam ∈ gw := gd 521 (by decide +kernel) (by decide +kernel)
theorem me_X4_roam : Cond.selects yX4_roam.cls yX4_roam yX4_roam ∈ gw := gd 522 (by decide +kernel) (by decide +kernel)
set_option maxRecDepth 40000 in
theorem mc_X5_bearsSkater : Cond.code yX5_bearsSkater cX5_bearsSkater 2 (some .boolean) ∈ gw := gd 531 rfl rfl
theorem md_X5_bearsSkater : MLd yX5_bearsSkater 1 := ⟨by decide +kernel, by decide +kernel, by decide +kernel⟩
theorem mi_X5_bearsSkater : Cond.instanceMethod yX5_bearsSkater ∈ gw := gd 529 (by decide +kernel) (by decide +kernel)
theorem me_X5_bearsSkater : Cond.selects yX5_bearsSkater.cls yX5_bearsSkater yX5_bearsSkater ∈ gw := gd 530 (by decide +kernel) (by decide +kernel)
set_option maxRecDepth 40000 in
theorem mc_X5_begin : Cond.code yX5_begin cX5_begin 4 none ∈ gw := gd 226 rfl rfl
theorem md_X5_begin : MLd yX5_begin 2 := ⟨by decide +kernel, by decide +kernel, by decide +kernel⟩
theorem mi_X5_begin : Cond.instanceMethod yX5_begin ∈ gw := gd 224 (by decide +kernel) (by decide +kernel)
theorem me_X5_begin : Cond.selects yX5_begin.cls yX5_begin yX5_begin ∈ gw := gd 225 (by decide +kernel) (by decide +kernel)
set_option maxRecDepth 40000 in
theorem mc_X5_copyFrom : Cond.code yX5_copyFrom cX5_copyFrom 3 none ∈ gw := gd 574 rfl rfl
theorem md_X5_copyFrom : MLd yX5_copyFrom 1 := ⟨by decide +kernel, by decide +kernel, by decide +kernel⟩
theorem mi_X5_copyFrom : Cond.instanceMethod yX5_copyFrom ∈ gw := gd 572 (by decide +kernel) (by decide +kernel)
theorem me_X5_copyFrom : Cond.selects yX5_copyFrom.cls yX5_copyFrom yX5_copyFrom ∈ gw := gd 573 (by decide +kernel) (by decide +kernel)
set_option maxRecDepth 40000 in
theorem mc_X5_debtsStanding : Cond.code yX5_debtsStanding cX5_debtsStanding 3 (some .int) ∈ gw := gd 593 rfl rfl
theorem md_X5_debtsStanding : MLd yX5_debtsStanding 0 := ⟨by decide +kernel, by decide +kernel, by decide +kernel⟩
theorem mi_X5_debtsStanding : Cond.instanceMethod yX5_debtsStanding ∈ gw := gd 591 (by decide +kernel) (by decide +kernel)
theorem me_X5_debtsStanding : Cond.selects yX5_debtsStanding.cls yX5_debtsStanding yX5_debtsStanding ∈ gw := gd 592 (by decide +kernel) (by decide +kernel)
set_option maxRecDepth 40000 in
theorem mc_X5_debtsThereIn : Cond.code yX5_debtsThereIn cX5_debtsThereIn 4 (some .int) ∈ gw := gd 273 rfl rfl
theorem md_X5_debtsThereIn : MLd yX5_debtsThereIn 1 := ⟨by decide +kernel, by decide +kernel, by decide +kernel⟩
theorem mi_X5_debtsThereIn : Cond.instanceMethod yX5_debtsThereIn ∈ gw := gd 271 (by decide +kernel) (by decide +kernel)
theorem me_X5_debtsThereIn : Cond.selects yX5_debtsThereIn.cls yX5_debtsThereIn yX5_debtsThereIn ∈ gw := gd 272 (by decide +kernel) (by decide +kernel)
set_option maxRecDepth 40000 in
theorem mc_X5_hasDebt : Cond.code yX5_hasDebt cX5_hasDebt 2 (some .boolean) ∈ gw := gd 321 rfl rfl
theorem md_X5_hasDebt : MLd yX5_hasDebt 1 := ⟨by decide +kernel, by decide +kernel, by decide +kernel⟩
theorem mi_X5_hasDebt : Cond.instanceMethod yX5_hasDebt ∈ gw := gd 319 (by decide +kernel) (by decide +kernel)
theorem me_X5_hasDebt : Cond.selects yX5_hasDebt.cls yX5_hasDebt yX5_hasDebt ∈ gw := gd 320 (by decide +kernel) (by decide +kernel)
set_option maxRecDepth 40000 in
theorem mc_X5_hasSquare : Cond.code yX5_hasSquare cX5_hasSquare 2 (some .boolean) ∈ gw := gd 269 rfl rfl
theorem md_X5_hasSquare : MLd yX5_hasSquare 1 := ⟨by decide +kernel, by decide +kernel, by decide +kernel⟩
theorem mi_X5_hasSquare : Cond.instanceMethod yX5_hasSquare ∈ gw := gd 267 (by decide +kernel) (by decide +kernel)
theorem me_X5_hasSquare : Cond.selects yX5_hasSquare.cls yX5_hasSquare yX5_hasSquare ∈ gw := gd 268 (by decide +kernel) (by decide +kernel)
set_option maxRecDepth 40000 in
theorem mc_X5_iceTogether : Cond.code yX5_iceTogether cX5_iceTogether 3 (some .int) ∈ gw := gd 597 rfl rfl
theorem md_X5_iceTogether : MLd yX5_iceTogether 0 := ⟨by decide +kernel, by decide +kernel, by decide +kernel⟩
theorem mi_X5_iceTogether : Cond.instanceMethod yX5_iceTogether ∈ gw := gd 595 (by decide +kernel) (by decide +kernel)
theorem me_X5_iceTogether : Cond.selects yX5_iceTogether.cls yX5_iceTogether yX5_iceTogether ∈ gw := gd 596 (by decide +kernel) (by decide +kernel)
set_option maxRecDepth 40000 in
theorem mc_X5_iceUnder : Cond.code yX5_iceUnder cX5_iceUnder 3 (some .int) ∈ gw := gd 329 rfl rfl
theorem md_X5_iceUnder : MLd yX5_iceUnder 1 := ⟨by decide +kernel, by decide +kernel, by decide +kernel⟩
theorem mi_X5_iceUnder : Cond.instanceMethod yX5_iceUnder ∈ gw := gd 327 (by decide +kernel) (by decide +kernel)
theorem me_X5_iceUnder : Cond.selects yX5_iceUnder.cls yX5_iceUnder yX5_iceUnder ∈ gw := gd 328 (by decide +kernel) (by decide +kernel)
set_option maxRecDepth 40000 in
theorem mc_X5_makeHole : Cond.code yX5_makeHole cX5_makeHole 4 (some .int) ∈ gw := gd 289 rfl rfl
theorem md_X5_makeHole : MLd yX5_makeHole 1 := ⟨by decide +kernel, by decide +kernel, by decide +kernel⟩
theorem mi_X5_makeHole : Cond.instanceMethod yX5_makeHole ∈ gw := gd 287 (by decide +kernel) (by decide +kernel)
theorem me_X5_makeHole : Cond.selects yX5_makeHole.cls yX5_makeHole yX5_makeHole ∈ gw := gd 288 (by decide +kernel) (by decide +kernel)
set_option maxRecDepth 40000 in
theorem mc_X5_meltCuts : Cond.code yX5_meltCuts cX5_meltCuts 4 (some .int) ∈ gw := gd 428 rfl rfl
theorem md_X5_meltCuts : MLd yX5_meltCuts 1 := ⟨by decide +kernel, by decide +kernel, by decide +kernel⟩
theorem mi_X5_meltCuts : Cond.instanceMethod yX5_meltCuts ∈ gw := gd 427 (by decide +kernel) (by decide +kernel)
theorem me_X5_meltCuts : Cond.selects yX5_meltCuts.cls yX5_meltCuts yX5_meltCuts ∈ gw := gd 1 (by decide +kernel) (by decide +kernel)
set_option maxRecDepth 40000 in
theorem mc_X5_passDay : Cond.code yX5_passDay cX5_passDay 4 (some .int) ∈ gw := gd 414 rfl rfl
theorem md_X5_passDay : MLd yX5_passDay 2 := ⟨by decide +kernel, by decide +kernel, by decide +kernel⟩
theorem mi_X5_passDay : Cond.instanceMethod yX5_passDay ∈ gw := gd 412 (by decide +kernel) (by decide +kernel)
theorem me_X5_passDay : Cond.selects yX5_passDay.cls yX5_passDay yX5_passDay ∈ gw := gd 413 (by decide +kernel) (by decide +kernel)
set_option maxRecDepth 40000 in
theorem mc_X5_readableIn : Cond.code yX5_readableIn cX5_readableIn 4 (some .int) ∈ gw := gd 527 rfl rfl
theorem md_X5_readableIn : MLd yX5_readableIn 1 := ⟨by decide +kernel, by decide +kernel, by decide +kernel⟩
theorem mi_X5_readableIn : Cond.instanceMethod yX5_readableIn ∈ gw := gd 525 (by decide +kernel) (by decide +kernel)
theorem me_X5_readableIn : Cond.selects yX5_readableIn.cls yX5_readableIn yX5_readableIn ∈ gw := gd 526 (by decide +kernel) (by decide +kernel)
set_option maxRecDepth 40000 in
theorem mc_X5_restOf : Cond.code yX5_restOf cX5_restOf 4 (some .int) ∈ gw := gd 465 rfl rfl
theorem md_X5_restOf : MLd yX5_restOf 1 := ⟨by decide +kernel, by decide +kernel, by decide +kernel⟩
theorem mi_X5_restOf : Cond.instanceMethod yX5_restOf ∈ gw := gd 463 (by decide +kernel) (by decide +kernel)
theorem me_X5_restOf : Cond.selects yX5_restOf.cls yX5_restOf yX5_restOf ∈ gw := gd 464 (by decide +kernel) (by decide +kernel)
set_option maxRecDepth 40000 in
theorem mc_X5_worthOf : Cond.code yX5_worthOf cX5_worthOf 2 (some .int) ∈ gw := gd 325 rfl rfl
theorem md_X5_worthOf : MLd yX5_worthOf 1 := ⟨by decide +kernel, by decide +kernel, by decide +kernel⟩
theorem mi_X5_worthOf : Cond.instanceMethod yX5_worthOf ∈ gw := gd 323 (by decide +kernel) (by decide +kernel)
theorem me_X5_worthOf : Cond.selects yX5_worthOf.cls yX5_worthOf yX5_worthOf ∈ gw := gd 324 (by decide +kernel) (by decide +kernel)
set_option maxRecDepth 40000 in
theorem mc_X7_areBeside : Cond.code yX7_areBeside cX7_areBeside 5 (some .boolean) ∈ gw := gd 930 rfl rfl
theorem md_X7_areBeside : MLd yX7_areBeside 2 := ⟨by decide +kernel, by decide +kernel, by decide +kernel⟩
theorem mi_X7_areBeside : Cond.instanceMethod yX7_areBeside ∈ gw := gd 929 (by decide +kernel) (by decide +kernel)
theorem me_X7_areBeside : Cond.selects yX7_areBeside.cls yX7_areBeside yX7_areBeside ∈ gw := gd 35 (by decide +kernel) (by decide +kernel)
set_option maxRecDepth 40000 in
theorem mc_X7_areDays : Cond.code yX7_areDays cX7_areDays 1 (some .boolean) ∈ gw := gd 842 rfl rfl
theorem md_X7_areDays : MLd yX7_areDays 0 := ⟨by decide +kernel, by decide +kernel, by decide +kernel⟩
theorem mi_X7_areDays : Cond.instanceMethod yX7_areDays ∈ gw := gd 841 (by decide +kernel) (by decide +kernel)
theorem me_X7_areDays : Cond.selects yX7_areDays.cls yX7_areDays yX7_areDays ∈ gw := gd 23 (by decide +kernel) (by decide +kernel)
set_option maxRecDepth 40000 in
theorem mc_X7_bearsOne : Cond.code yX7_bearsOne cX7_bearsOne 2 (some .boolean) ∈ gw := gd 763 rfl rfl
theorem md_X7_bearsOne : MLd yX7_bearsOne 1 := ⟨by decide +kernel, by decide +kernel, by decide +kernel⟩
theorem mi_X7_bearsOne : Cond.instanceMethod yX7_bearsOne ∈ gw := gd 762 (by decide +kernel) (by decide +kernel)
theorem me_X7_bearsOne : Cond.selects yX7_bearsOne.cls yX7_bearsOne yX7_bearsOne ∈ gw := gd 15 (by decide +kernel) (by decide +kernel)
set_option maxRecDepth 40000 in
theorem mc_X7_copy : Cond.code yX7_copy cX7_copy 3 none ∈ gw := gd 952 rfl rfl
theorem md_X7_copy : MLd yX7_copy 2 := ⟨by decide +kernel, by decide +kernel, by decide +kernel⟩
theorem ms_X7_copy : Cond.static yX7_copy ∈ gw := gd 951 (by decide +kernel) (by decide +kernel)
set_option maxRecDepth 40000 in
theorem mc_X7_countOf : Cond.code yX7_countOf cX7_countOf 2 (some .int) ∈ gw := gd 976 rfl rfl
theorem md_X7_countOf : MLd yX7_countOf 1 := ⟨by decide +kernel, by decide +kernel, by decide +kernel⟩
theorem mi_X7_countOf : Cond.instanceMethod yX7_countOf ∈ gw := gd 975 (by decide +kernel) (by decide +kernel)
theorem me_X7_countOf : Cond.selects yX7_countOf.cls yX7_countOf yX7_countOf ∈ gw := gd 38 (by decide +kernel) (by decide +kernel)
set_option maxRecDepth 40000 in
theorem mc_X7_day : Cond.code yX7_day cX7_day 4 none ∈ gw := gd 850 rfl rfl
theorem md_X7_day : MLd yX7_day 2 := ⟨by decide +kernel, by decide +kernel, by decide +kernel⟩
theorem mi_X7_day : Cond.instanceMethod yX7_day ∈ gw := gd 849 (by decide +kernel) (by decide +kernel)
theorem me_X7_day : Cond.selects yX7_day.cls yX7_day yX7_day ∈ gw := gd 25 (by decide +kernel) (by decide +kernel)
set_option maxRecDepth 40000 in
theorem mc_X7_dayOf : Cond.code yX7_dayOf cX7_dayOf 1 (some .int) ∈ gw := gd 834 rfl rfl
theorem md_X7_dayOf : MLd yX7_dayOf 1 := ⟨by decide +kernel, by decide +kernel, by decide +kernel⟩
theorem ms_X7_dayOf : Cond.static yX7_dayOf ∈ gw := gd 833 (by decide +kernel) (by decide +kernel)
set_option maxRecDepth 40000 in
theorem mc_X7_draw : Cond.code yX7_draw cX7_draw 2 (some .int) ∈ gw := gd 956 rfl rfl
theorem md_X7_draw : MLd yX7_draw 1 := ⟨by decide +kernel, by decide +kernel, by decide +kernel⟩
theorem mi_X7_draw : Cond.instanceMethod yX7_draw ∈ gw := gd 955 (by decide +kernel) (by decide +kernel)
theorem me_X7_draw : Cond.selects yX7_draw.cls yX7_draw yX7_draw ∈ gw := gd 37 (by decide +kernel) (by decide +kernel)
set_option maxRecDepth 40000 in
theorem mc_X7_faultOf : Cond.code yX7_faultOf cX7_faultOf 2 (some .int) ∈ gw := gd 825 rfl rfl
theorem md_X7_faultOf : MLd yX7_faultOf 0 := ⟨by decide +kernel, by decide +kernel, by decide +kernel⟩
theorem mi_X7_faultOf : Cond.instanceMethod yX7_faultOf ∈ gw := gd 824 (by decide +kernel) (by decide +kernel)
theorem me_X7_faultOf : Cond.selects yX7_faultOf.cls yX7_faultOf yX7_faultOf ∈ gw := gd 21 (by decide +kernel) (by decide +kernel)
set_option maxRecDepth 40000 in
theorem mc_X7_go : Cond.code yX7_go cX7_go 3 (some .boolean) ∈ gw := gd 829 rfl rfl
theorem md_X7_go : MLd yX7_go 1 := ⟨by decide +kernel, by decide +kernel, by decide +kernel⟩
theorem mi_X7_go : Cond.instanceMethod yX7_go ∈ gw := gd 828 (by decide +kernel) (by decide +kernel)
theorem me_X7_go : Cond.selects yX7_go.cls yX7_go yX7_go ∈ gw := gd 22 (by decide +kernel) (by decide +kernel)
set_option maxRecDepth 40000 in
theorem mc_X7_groupsOf : Cond.code yX7_groupsOf cX7_groupsOf 7 (some .int) ∈ gw := gd 914 rfl rfl
theorem md_X7_groupsOf : MLd yX7_groupsOf 0 := ⟨by decide +kernel, by decide +kernel, by decide +kernel⟩
theorem mi_X7_groupsOf : Cond.instanceMethod yX7_groupsOf ∈ gw := gd 913 (by decide +kernel) (by decide +kernel)
theorem me_X7_groupsOf : Cond.selects yX7_groupsOf.cls yX7_groupsOf yX7_groupsOf ∈ gw := gd 32 (by decide +kernel) (by decide +kernel)
set_option maxRecDepth 40000 in
theorem mc_X7_in : Cond.code yX7_in cX7_in 6 (some .boolean) ∈ gw := gd 730 rfl rfl
theorem md_X7_in : MLd yX7_in 3 := ⟨by decide +kernel, by decide +kernel, by decide +kernel⟩
theorem ms_X7_in : Cond.static yX7_in ∈ gw := gd 729 (by decide +kernel) (by decide +kernel)
set_option maxRecDepth 40000 in
theorem mc_X7_isDebt : Cond.code yX7_isDebt cX7_isDebt 2 (some .boolean) ∈ gw := gd 788 rfl rfl
theorem md_X7_isDebt : MLd yX7_isDebt 1 := ⟨by decide +kernel, by decide +kernel, by decide +kernel⟩
theorem mi_X7_isDebt : Cond.instanceMethod yX7_isDebt ∈ gw := gd 787 (by decide +kernel) (by decide +kernel)
theorem me_X7_isDebt : Cond.selects yX7_isDebt.cls yX7_isDebt yX7_isDebt ∈ gw := gd 17 (by decide +kernel) (by decide +kernel)
set_option maxRecDepth 40000 in
theorem mc_X7_isPerson : Cond.code yX7_isPerson cX7_isPerson 1 (some .boolean) ∈ gw := gd 778 rfl rfl
theorem md_X7_isPerson : MLd yX7_isPerson 1 := ⟨by decide +kernel, by decide +kernel, by decide +kernel⟩
theorem ms_X7_isPerson : Cond.static yX7_isPerson ∈ gw := gd 777 (by decide +kernel) (by decide +kernel)
set_option maxRecDepth 40000 in
theorem mc_X7_isSquare : Cond.code yX7_isSquare cX7_isSquare 2 (some .boolean) ∈ gw := gd 742 rfl rfl
theorem md_X7_isSquare : MLd yX7_isSquare 1 := ⟨by decide +kernel, by decide +kernel, by decide +kernel⟩
theorem mi_X7_isSquare : Cond.instanceMethod yX7_isSquare ∈ gw := gd 741 (by decide +kernel) (by decide +kernel)
theorem me_X7_isSquare : Cond.selects yX7_isSquare.cls yX7_isSquare yX7_isSquare ∈ gw := gd 11 (by decide +kernel) (by decide +kernel)
set_option maxRecDepth 40000 in
theorem mc_X7_isThere : Cond.code yX7_isThere cX7_isThere 2 (some .boolean) ∈ gw := gd 751 rfl rfl
theorem md_X7_isThere : MLd yX7_isThere 1 := ⟨by decide +kernel, by decide +kernel, by decide +kernel⟩
theorem mi_X7_isThere : Cond.instanceMethod yX7_isThere ∈ gw := gd 750 (by decide +kernel) (by decide +kernel)
theorem me_X7_isThere : Cond.selects yX7_isThere.cls yX7_isThere yX7_isThere ∈ gw := gd 13 (by decide +kernel) (by decide +kernel)
set_option maxRecDepth 40000 in
theorem mc_X7_layFits : Cond.code yX7_layFits cX7_layFits 7 none ∈ gw := gd 899 rfl rfl
theorem md_X7_layFits : MLd yX7_layFits 1 := ⟨by decide +kernel, by decide +kernel, by decide +kernel⟩
theorem mi_X7_layFits : Cond.instanceMethod yX7_layFits ∈ gw := gd 898 (by decide +kernel) (by decide +kernel)
theorem me_X7_layFits : Cond.selects yX7_layFits.cls yX7_layFits yX7_layFits ∈ gw := gd 30 (by decide +kernel) (by decide +kernel)
set_option maxRecDepth 40000 in
theorem mc_X7_less : Cond.code yX7_less cX7_less 2 (some .int) ∈ gw := gd 857 rfl rfl
theorem md_X7_less : MLd yX7_less 2 := ⟨by decide +kernel, by decide +kernel, by decide +kernel⟩
theorem ms_X7_less : Cond.static yX7_less ∈ gw := gd 856 (by decide +kernel) (by decide +kernel)
set_option maxRecDepth 40000 in
theorem mc_X7_lookOf : Cond.code yX7_lookOf cX7_lookOf 3 (some .int) ∈ gw := gd 800 rfl rfl
theorem md_X7_lookOf : MLd yX7_lookOf 1 := ⟨by decide +kernel, by decide +kernel, by decide +kernel⟩
theorem mi_X7_lookOf : Cond.instanceMethod yX7_lookOf ∈ gw := gd 799 (by decide +kernel) (by decide +kernel)
theorem me_X7_lookOf : Cond.selects yX7_lookOf.cls yX7_lookOf yX7_lookOf ∈ gw := gd 20 (by decide +kernel) (by decide +kernel)
set_option maxRecDepth 40000 in
theorem mc_X7_lose : Cond.code yX7_lose cX7_lose 2 none ∈ gw := gd 771 rfl rfl
theorem md_X7_lose : MLd yX7_lose 1 := ⟨by decide +kernel, by decide +kernel, by decide +kernel⟩
theorem mi_X7_lose : Cond.instanceMethod yX7_lose ∈ gw := gd 770 (by decide +kernel) (by decide +kernel)
theorem me_X7_lose : Cond.selects yX7_lose.cls yX7_lose yX7_lose ∈ gw := gd 16 (by decide +kernel) (by decide +kernel)
set_option maxRecDepth 40000 in
theorem mc_X7_ones : Cond.code yX7_ones cX7_ones 3 (some .int) ∈ gw := gd 906 rfl rfl
theorem md_X7_ones : MLd yX7_ones 1 := ⟨by decide +kernel, by decide +kernel, by decide +kernel⟩
theorem ms_X7_ones : Cond.static yX7_ones ∈ gw := gd 905 (by decide +kernel) (by decide +kernel)
set_option maxRecDepth 40000 in
theorem mc_X7_owesOf : Cond.code yX7_owesOf cX7_owesOf 7 (some .int) ∈ gw := gd 880 rfl rfl
theorem md_X7_owesOf : MLd yX7_owesOf 3 := ⟨by decide +kernel, by decide +kernel, by decide +kernel⟩
theorem mi_X7_owesOf : Cond.instanceMethod yX7_owesOf ∈ gw := gd 879 (by decide +kernel) (by decide +kernel)
theorem me_X7_owesOf : Cond.selects yX7_owesOf.cls yX7_owesOf yX7_owesOf ∈ gw := gd 28 (by decide +kernel) (by decide +kernel)
set_option maxRecDepth 40000 in
theorem mc_X7_readIn : Cond.code yX7_readIn cX7_readIn 4 (some .int) ∈ gw := gd 926 rfl rfl
theorem md_X7_readIn : MLd yX7_readIn 1 := ⟨by decide +kernel, by decide +kernel, by decide +kernel⟩
theorem mi_X7_readIn : Cond.instanceMethod yX7_readIn ∈ gw := gd 925 (by decide +kernel) (by decide +kernel)
theorem me_X7_readIn : Cond.selects yX7_readIn.cls yX7_readIn yX7_readIn ∈ gw := gd 34 (by decide +kernel) (by decide +kernel)
set_option maxRecDepth 40000 in
theorem mc_X7_restOf : Cond.code yX7_restOf cX7_restOf 4 (some .int) ∈ gw := gd 888 rfl rfl
theorem md_X7_restOf : MLd yX7_restOf 1 := ⟨by decide +kernel, by decide +kernel, by decide +kernel⟩
theorem mi_X7_restOf : Cond.instanceMethod yX7_restOf ∈ gw := gd 887 (by decide +kernel) (by decide +kernel)
theorem me_X7_restOf : Cond.selects yX7_restOf.cls yX7_restOf yX7_restOf ∈ gw := gd 29 (by decide +kernel) (by decide +kernel)
set_option maxRecDepth 40000 in
theorem mc_X7_say : Cond.code yX7_say cX7_say 3 none ∈ gw := gd 985 rfl rfl
theorem md_X7_say : MLd yX7_say 1 := ⟨by decide +kernel, by decide +kernel, by decide +kernel⟩
theorem mi_X7_say : Cond.instanceMethod yX7_say ∈ gw := gd 984 (by decide +kernel) (by decide +kernel)
theorem me_X7_say : Cond.selects yX7_say.cls yX7_say yX7_say ∈ gw := gd 39 (by decide +kernel) (by decide +kernel)
set_option maxRecDepth 40000 in
theorem mc_X7_squares : Cond.code yX7_squares cX7_squares 1 (some .int) ∈ gw := gd 734 rfl rfl
theorem md_X7_squares : MLd yX7_squares 0 := ⟨by decide +kernel, by decide +kernel, by decide +kernel⟩
theorem mi_X7_squares : Cond.instanceMethod yX7_squares ∈ gw := gd 733 (by decide +kernel) (by decide +kernel)
theorem me_X7_squares : Cond.selects yX7_squares.cls yX7_squares yX7_squares ∈ gw := gd 10 (by decide +kernel) (by decide +kernel)
set_option maxRecDepth 40000 in
theorem mc_X7_stays : Cond.code yX7_stays cX7_stays 9 (some .boolean) ∈ gw := gd 868 rfl rfl
theorem md_X7_stays : MLd yX7_stays 3 := ⟨by decide +kernel, by decide +kernel, by decide +kernel⟩
theorem mi_X7_stays : Cond.instanceMethod yX7_stays ∈ gw := gd 867 (by decide +kernel) (by decide +kernel)
theorem me_X7_stays : Cond.selects yX7_stays.cls yX7_stays yX7_stays ∈ gw := gd 27 (by decide +kernel) (by decide +kernel)
set_option maxRecDepth 40000 in
theorem mc_X7_staysBy : Cond.code yX7_staysBy cX7_staysBy 7 (some .boolean) ∈ gw := gd 940 rfl rfl
theorem md_X7_staysBy : MLd yX7_staysBy 3 := ⟨by decide +kernel, by decide +kernel, by decide +kernel⟩
theorem mi_X7_staysBy : Cond.instanceMethod yX7_staysBy ∈ gw := gd 939 (by decide +kernel) (by decide +kernel)
theorem me_X7_staysBy : Cond.selects yX7_staysBy.cls yX7_staysBy yX7_staysBy ∈ gw := gd 36 (by decide +kernel) (by decide +kernel)
set_option maxRecDepth 40000 in
theorem mc_X7_tellDebt : Cond.code yX7_tellDebt cX7_tellDebt 3 (some .int) ∈ gw := gd 792 rfl rfl
theorem md_X7_tellDebt : MLd yX7_tellDebt 2 := ⟨by decide +kernel, by decide +kernel, by decide +kernel⟩
theorem mi_X7_tellDebt : Cond.instanceMethod yX7_tellDebt ∈ gw := gd 791 (by decide +kernel) (by decide +kernel)
theorem me_X7_tellDebt : Cond.selects yX7_tellDebt.cls yX7_tellDebt yX7_tellDebt ∈ gw := gd 18 (by decide +kernel) (by decide +kernel)
set_option maxRecDepth 40000 in
theorem mc_X7_tellSkate : Cond.code yX7_tellSkate cX7_tellSkate 9 (some .int) ∈ gw := gd 922 rfl rfl
theorem md_X7_tellSkate : MLd yX7_tellSkate 3 := ⟨by decide +kernel, by decide +kernel, by decide +kernel⟩
theorem mi_X7_tellSkate : Cond.instanceMethod yX7_tellSkate ∈ gw := gd 921 (by decide +kernel) (by decide +kernel)
theorem me_X7_tellSkate : Cond.selects yX7_tellSkate.cls yX7_tellSkate yX7_tellSkate ∈ gw := gd 33 (by decide +kernel) (by decide +kernel)
set_option maxRecDepth 40000 in
theorem mc_X7_tellSquare : Cond.code yX7_tellSquare cX7_tellSquare 3 (some .int) ∈ gw := gd 759 rfl rfl
theorem md_X7_tellSquare : MLd yX7_tellSquare 2 := ⟨by decide +kernel, by decide +kernel, by decide +kernel⟩
theorem mi_X7_tellSquare : Cond.instanceMethod yX7_tellSquare ∈ gw := gd 758 (by decide +kernel) (by decide +kernel)
theorem me_X7_tellSquare : Cond.selects yX7_tellSquare.cls yX7_tellSquare yX7_tellSquare ∈ gw := gd 14 (by decide +kernel) (by decide +kernel)
set_option maxRecDepth 40000 in
theorem mc_X7_term : Cond.code yX7_term cX7_term 11 (some .long) ∈ gw := gd 944 rfl rfl
theorem md_X7_term : MLd yX7_term 3 := ⟨by decide +kernel, by decide +kernel, by decide +kernel⟩
theorem ms_X7_term : Cond.static yX7_term ∈ gw := gd 943 (by decide +kernel) (by decide +kernel)
set_option maxRecDepth 40000 in
theorem mc_X7_thaw : Cond.code yX7_thaw cX7_thaw 4 none ∈ gw := gd 854 rfl rfl
theorem md_X7_thaw : MLd yX7_thaw 1 := ⟨by decide +kernel, by decide +kernel, by decide +kernel⟩
theorem mi_X7_thaw : Cond.instanceMethod yX7_thaw ∈ gw := gd 853 (by decide +kernel) (by decide +kernel)
theorem me_X7_thaw : Cond.selects yX7_thaw.cls yX7_thaw yX7_thaw ∈ gw := gd 26 (by decide +kernel) (by decide +kernel)
set_option maxRecDepth 40000 in
theorem mc_X7_thawOf : Cond.code yX7_thawOf cX7_thawOf 2 (some .int) ∈ gw := gd 860 rfl rfl
theorem md_X7_thawOf : MLd yX7_thawOf 2 := ⟨by decide +kernel, by decide +kernel, by decide +kernel⟩
theorem ms_X7_thawOf : Cond.static yX7_thawOf ∈ gw := gd 859 (by decide +kernel) (by decide +kernel)
set_option maxRecDepth 40000 in
theorem mc_X7_thereIn : Cond.code yX7_thereIn cX7_thereIn 4 (some .int) ∈ gw := gd 747 rfl rfl
theorem md_X7_thereIn : MLd yX7_thereIn 1 := ⟨by decide +kernel, by decide +kernel, by decide +kernel⟩
theorem mi_X7_thereIn : Cond.instanceMethod yX7_thereIn ∈ gw := gd 746 (by decide +kernel) (by decide +kernel)
theorem me_X7_thereIn : Cond.selects yX7_thereIn.cls yX7_thereIn yX7_thereIn ∈ gw := gd 12 (by decide +kernel) (by decide +kernel)
set_option maxRecDepth 40000 in
theorem mc_X7_thereMany : Cond.code yX7_thereMany cX7_thereMany 3 (some .int) ∈ gw := gd 846 rfl rfl
theorem md_X7_thereMany : MLd yX7_thereMany 0 := ⟨by decide +kernel, by decide +kernel, by decide +kernel⟩
theorem mi_X7_thereMany : Cond.instanceMethod yX7_thereMany ∈ gw := gd 845 (by decide +kernel) (by decide +kernel)
theorem me_X7_thereMany : Cond.selects yX7_thereMany.cls yX7_thereMany yX7_thereMany ∈ gw := gd 24 (by decide +kernel) (by decide +kernel)
set_option maxRecDepth 40000 in
theorem mc_X7_weightOf : Cond.code yX7_weightOf cX7_weightOf 4 (some .int) ∈ gw := gd 903 rfl rfl
theorem md_X7_weightOf : MLd yX7_weightOf 1 := ⟨by decide +kernel, by decide +kernel, by decide +kernel⟩
theorem mi_X7_weightOf : Cond.instanceMethod yX7_weightOf ∈ gw := gd 902 (by decide +kernel) (by decide +kernel)
theorem me_X7_weightOf : Cond.selects yX7_weightOf.cls yX7_weightOf yX7_weightOf ∈ gw := gd 31 (by decide +kernel) (by decide +kernel)
set_option maxRecDepth 40000 in
theorem mc_X7_worthOf : Cond.code yX7_worthOf cX7_worthOf 6 (some .int) ∈ gw := gd 796 rfl rfl
theorem md_X7_worthOf : MLd yX7_worthOf 1 := ⟨by decide +kernel, by decide +kernel, by decide +kernel⟩
theorem mi_X7_worthOf : Cond.instanceMethod yX7_worthOf ∈ gw := gd 795 (by decide +kernel) (by decide +kernel)
theorem me_X7_worthOf : Cond.selects yX7_worthOf.cls yX7_worthOf yX7_worthOf ∈ gw := gd 19 (by decide +kernel) (by decide +kernel)
set_option maxRecDepth 40000 in
theorem mc_J6_bitCount_0f7a4 : Cond.code yJ6_bitCount_0f7a4 cJ6_bitCount_0f7a4 1 (some .int) ∈ gw := gd 498 rfl rfl
theorem md_J6_bitCount_0f7a4 : MLd yJ6_bitCount_0f7a4 1 := ⟨by decide +kernel, by decide +kernel, by decide +kernel⟩
theorem ms_J6_bitCount_0f7a4 : Cond.static yJ6_bitCount_0f7a4 ∈ gw := gd 497 (by decide +kernel) (by decide +kernel)
theorem ml_X0_43 : MLv RX0 43 yX0_concern cX0_concern 5 none 4 := ⟨gd 579 (by decide +kernel) (by decide +kernel), mi_X0_concern, me_X0_concern, ii_X0, mc_X0_concern, md_X0_concern⟩
theorem ml_X0_47 : MLv RX0 47 yX0_cutIn cX0_cutIn 3 none 2 := ⟨gd 580 (by decide +kernel) (by decide +kernel), mi_X0_cutIn, me_X0_cutIn, ii_X0, mc_X0_cutIn, md_X0_cutIn⟩
theorem ml_X0_51 : MLs RX0 51 yX0_isOfKind cX0_isOfKind 2 (some .boolean) 2 := ⟨gd 335 (by decide +kernel) (by decide +kernel), ms_X0_isOfKind, ii_X0, mc_X0_isOfKind, md_X0_isOfKind⟩
theorem ml_X1_21 : MLv RX1 21 yX1_weigh cX1_weigh 3 none 1 := ⟨gd 476 (by decide +kernel) (by decide +kernel), mi_X1_weigh, me_X1_weigh, ii_X1, mc_X1_weigh, md_X1_weigh⟩
theorem ml_X1_35 : MLv RX1 35 yX1_pack cX1_pack 5 (some .int) 2 := ⟨gd 484 (by decide +kernel) (by decide +kernel), mi_X1_pack, me_X1_pack, ii_X1, mc_X1_pack, md_X1_pack⟩
theorem ml_X1_39 : MLv RX1 39 yX1_keepBetter cX1_keepBetter 4 none 1 := ⟨gd 492 (by decide +kernel) (by decide +kernel), mi_X1_keepBetter, me_X1_keepBetter, ii_X1, mc_X1_keepBetter, md_X1_keepBetter⟩
theorem ml_X1_55 : MLv RX1 55 yX0_isThere cX0_isThere 1 (some .boolean) 0 := ⟨gd 481 (by decide +kernel) (by decide +kernel), mi_X0_isThere, me_X0_isThere, ii_X0, mc_X0_isThere, md_X0_isThere⟩
theorem ml_X1_61 : MLv RX1 61 yX5_iceUnder cX5_iceUnder 3 (some .int) 1 := ⟨gd 482 (by decide +kernel) (by decide +kernel), mi_X5_iceUnder, me_X5_iceUnder, ii_X5, mc_X5_iceUnder, md_X5_iceUnder⟩
theorem ml_X1_65 : MLv RX1 65 yX5_worthOf cX5_worthOf 2 (some .int) 1 := ⟨gd 483 (by decide +kernel) (by decide +kernel), mi_X5_worthOf, me_X5_worthOf, ii_X5, mc_X5_worthOf, md_X5_worthOf⟩
theorem ml_X1_69 : MLs RX1 69 yX1_layOn cX1_layOn 3 (some .int) 3 := ⟨gd 489 (by decide +kernel) (by decide +kernel), ms_X1_layOn, ii_X1, mc_X1_layOn, md_X1_layOn⟩
theorem ml_X1_73 : MLs RX1 73 yJ6_bitCount_0f7a4 cJ6_bitCount_0f7a4 1 (some .int) 1 := ⟨gd 496 (by decide +kernel) (by decide +kernel), ms_J6_bitCount_0f7a4, ii_J6, mc_J6_bitCount_0f7a4, md_J6_bitCount_0f7a4⟩
theorem ml_X2_17 : MLs RX2 17 yX2_codeAt cX2_codeAt 3 (some .int) 2 := ⟨gd 364 (by decide +kernel) (by decide +kernel), ms_X2_codeAt, ii_X2, mc_X2_codeAt, md_X2_codeAt⟩
theorem ml_X2_25 : MLs RX2 25 yX2_hasInches cX2_hasInches 1 (some .boolean) 1 := ⟨gd 384 (by decide +kernel) (by decide +kernel), ms_X2_hasInches, ii_X2, mc_X2_hasInches, md_X2_hasInches⟩
theorem ml_X2_29 : MLs RX2 29 yX2_isWholeDay cX2_isWholeDay 1 (some .boolean) 1 := ⟨gd 387 (by decide +kernel) (by decide +kernel), ms_X2_isWholeDay, ii_X2, mc_X2_isWholeDay, md_X2_isWholeDay⟩
theorem ml_X2_32 : MLv RX2 32 yX2_firstWrong cX2_firstWrong 5 (some .int) 0 := ⟨gd 398 (by decide +kernel) (by decide +kernel), mi_X2_firstWrong, me_X2_firstWrong, ii_X2, mc_X2_firstWrong, md_X2_firstWrong⟩
theorem ml_X2_36 : MLv RX2 36 yX2_beginsDay cX2_beginsDay 2 (some .boolean) 1 := ⟨gd 441 (by decide +kernel) (by decide +kernel), mi_X2_beginsDay, me_X2_beginsDay, ii_X2, mc_X2_beginsDay, md_X2_beginsDay⟩
theorem ml_X2_39 : MLv RX2 39 yX2_dayAt cX2_dayAt 2 (some .int) 1 := ⟨gd 442 (by decide +kernel) (by decide +kernel), mi_X2_dayAt, me_X2_dayAt, ii_X2, mc_X2_dayAt, md_X2_dayAt⟩
theorem ml_X2_43 : MLv RX2 43 yX2_inchesAt cX2_inchesAt 2 (some .int) 1 := ⟨gd 443 (by decide +kernel) (by decide +kernel), mi_X2_inchesAt, me_X2_inchesAt, ii_X2, mc_X2_inchesAt, md_X2_inchesAt⟩
theorem ml_X2_46 : MLn RX2 46 yX6_iceBehind RX6 cX6_iceBehind 3 (some .int) 3 := ⟨fun _ h => h.2, ms_X6_iceBehind, ii_X6, mc_X6_iceBehind, md_X6_iceBehind⟩
theorem ml_X2_50 : MLs RX2 50 yX0_cutBehindThaw cX0_cutBehindThaw 5 (some .int) 4 := ⟨gd 445 (by decide +kernel) (by decide +kernel), ms_X0_cutBehindThaw, ii_X0, mc_X0_cutBehindThaw, md_X0_cutBehindThaw⟩
theorem ml_X3_21 : MLv RX3 21 yX5_restOf cX5_restOf 4 (some .int) 1 := ⟨gd 510 (by decide +kernel) (by decide +kernel), mi_X5_restOf, me_X5_restOf, ii_X5, mc_X5_restOf, md_X5_restOf⟩
theorem ml_X3_27 : MLv RX3 27 yX3_addSet cX3_addSet 5 none 1 := ⟨gd 511 (by decide +kernel) (by decide +kernel), mi_X3_addSet, me_X3_addSet, ii_X3, mc_X3_addSet, md_X3_addSet⟩
theorem ml_X4_24 : MLv RX4 24 yX5_readableIn cX5_readableIn 4 (some .int) 1 := ⟨gd 524 (by decide +kernel) (by decide +kernel), mi_X5_readableIn, me_X5_readableIn, ii_X5, mc_X5_readableIn, md_X5_readableIn⟩
theorem ml_X4_34 : MLv RX4 34 yX5_bearsSkater cX5_bearsSkater 2 (some .boolean) 1 := ⟨gd 528 (by decide +kernel) (by decide +kernel), mi_X5_bearsSkater, me_X5_bearsSkater, ii_X5, mc_X5_bearsSkater, md_X5_bearsSkater⟩
theorem ml_X4_38 : MLv RX4 38 yX4_enter cX4_enter 4 none 3 := ⟨gd 532 (by decide +kernel) (by decide +kernel), mi_X4_enter, me_X4_enter, ii_X4, mc_X4_enter, md_X4_enter⟩
theorem ml_X4_42 : MLv RX4 42 yX4_leave cX4_leave 3 none 2 := ⟨gd 536 (by decide +kernel) (by decide +kernel), mi_X4_leave, me_X4_leave, ii_X4, mc_X4_leave, md_X4_leave⟩
theorem ml_X4_49 : MLv RX4 49 yX4_reach cX4_reach 5 none 3 := ⟨gd 540 (by decide +kernel) (by decide +kernel), mi_X4_reach, me_X4_reach, ii_X4, mc_X4_reach, md_X4_reach⟩
theorem ml_X5_38 : MLv RX5 38 yX0_copyFrom cX0_copyFrom 2 none 1 := ⟨gd 575 (by decide +kernel) (by decide +kernel), mi_X0_copyFrom, me_X0_copyFrom, ii_X0, mc_X0_copyFrom, md_X0_copyFrom⟩
theorem ml_X5_42 : MLv RX5 42 yX5_hasSquare cX5_hasSquare 2 (some .boolean) 1 := ⟨gd 330 (by decide +kernel) (by decide +kernel), mi_X5_hasSquare, me_X5_hasSquare, ii_X5, mc_X5_hasSquare, md_X5_hasSquare⟩
theorem ml_X5_49 : MLv RX5 49 yX5_iceUnder cX5_iceUnder 3 (some .int) 1 := ⟨gd 326 (by decide +kernel) (by decide +kernel), mi_X5_iceUnder, me_X5_iceUnder, ii_X5, mc_X5_iceUnder, md_X5_iceUnder⟩
theorem ml_X5_53 : MLv RX5 53 yX0_worthOn cX0_worthOn 3 (some .int) 1 := ⟨gd 331 (by decide +kernel) (by decide +kernel), mi_X0_worthOn, me_X0_worthOn, ii_X0, mc_X0_worthOn, md_X0_worthOn⟩
theorem ml_X5_56 : MLv RX5 56 yX0_isThere cX0_isThere 1 (some .boolean) 0 := ⟨gd 274 (by decide +kernel) (by decide +kernel), mi_X0_isThere, me_X0_isThere, ii_X0, mc_X0_isThere, md_X0_isThere⟩
theorem ml_X5_66 : MLv RX5 66 yX5_worthOf cX5_worthOf 2 (some .int) 1 := ⟨gd 466 (by decide +kernel) (by decide +kernel), mi_X5_worthOf, me_X5_worthOf, ii_X5, mc_X5_worthOf, md_X5_worthOf⟩
theorem ml_X5_78 : MLn RX5 78 yX6_iceBehind RX6 cX6_iceBehind 3 (some .int) 3 := ⟨fun _ h => h.1, ms_X6_iceBehind, ii_X6, mc_X6_iceBehind, md_X6_iceBehind⟩
theorem ml_X5_82 : MLv RX5 82 yX5_meltCuts cX5_meltCuts 4 (some .int) 1 := ⟨gd 425 (by decide +kernel) (by decide +kernel), mi_X5_meltCuts, me_X5_meltCuts, ii_X5, mc_X5_meltCuts, md_X5_meltCuts⟩
theorem ml_X5_88 : MLs RX5 88 yX0_cutBehindThaw cX0_cutBehindThaw 5 (some .int) 4 := ⟨gd 429 (by decide +kernel) (by decide +kernel), ms_X0_cutBehindThaw, ii_X0, mc_X0_cutBehindThaw, md_X0_cutBehindThaw⟩
theorem ml_X6_50 : MLv RX6 50 yX5_begin cX5_begin 4 none 2 := ⟨gd 223 (by decide +kernel) (by decide +kernel), mi_X5_begin, me_X5_begin, ii_X5, mc_X5_begin, md_X5_begin⟩
theorem ml_X6_54 : MLs RX6 54 yX6_within cX6_within 3 (some .boolean) 3 := ⟨gd 259 (by decide +kernel) (by decide +kernel), ms_X6_within, ii_X6, mc_X6_within, md_X6_within⟩
theorem ml_X6_66 : MLv RX6 66 yX5_hasSquare cX5_hasSquare 2 (some .boolean) 1 := ⟨gd 266 (by decide +kernel) (by decide +kernel), mi_X5_hasSquare, me_X5_hasSquare, ii_X5, mc_X5_hasSquare, md_X5_hasSquare⟩
theorem ml_X6_70 : MLv RX6 70 yX5_debtsThereIn cX5_debtsThereIn 4 (some .int) 1 := ⟨gd 270 (by decide +kernel) (by decide +kernel), mi_X5_debtsThereIn, me_X5_debtsThereIn, ii_X5, mc_X5_debtsThereIn, md_X5_debtsThereIn⟩
theorem ml_X6_81 : MLv RX6 81 yX5_makeHole cX5_makeHole 4 (some .int) 1 := ⟨gd 286 (by decide +kernel) (by decide +kernel), mi_X5_makeHole, me_X5_makeHole, ii_X5, mc_X5_makeHole, md_X5_makeHole⟩
theorem ml_X6_84 : MLs RX6 84 yX6_arePair cX6_arePair 2 (some .boolean) 2 := ⟨gd 294 (by decide +kernel) (by decide +kernel), ms_X6_arePair, ii_X6, mc_X6_arePair, md_X6_arePair⟩
theorem ml_X6_88 : MLs RX6 88 yX6_isKind cX6_isKind 1 (some .boolean) 1 := ⟨gd 300 (by decide +kernel) (by decide +kernel), ms_X6_isKind, ii_X6, mc_X6_isKind, md_X6_isKind⟩
theorem ml_X6_91 : MLs RX6 91 yX0_depthOf cX0_depthOf 2 (some .int) 2 := ⟨gd 303 (by decide +kernel) (by decide +kernel), ms_X0_depthOf, ii_X0, mc_X0_depthOf, md_X0_depthOf⟩
theorem ml_X6_104 : MLv RX6 104 yX0_concern cX0_concern 5 none 4 := ⟨gd 306 (by decide +kernel) (by decide +kernel), mi_X0_concern, me_X0_concern, ii_X0, mc_X0_concern, md_X0_concern⟩
theorem ml_X6_108 : MLv RX6 108 yX0_cutIn cX0_cutIn 3 none 2 := ⟨gd 310 (by decide +kernel) (by decide +kernel), mi_X0_cutIn, me_X0_cutIn, ii_X0, mc_X0_cutIn, md_X0_cutIn⟩
theorem ml_X6_111 : MLv RX6 111 yX5_hasDebt cX5_hasDebt 2 (some .boolean) 1 := ⟨gd 318 (by decide +kernel) (by decide +kernel), mi_X5_hasDebt, me_X5_hasDebt, ii_X5, mc_X5_hasDebt, md_X5_hasDebt⟩
theorem ml_X6_132 : MLv RX6 132 yX5_worthOf cX5_worthOf 2 (some .int) 1 := ⟨gd 322 (by decide +kernel) (by decide +kernel), mi_X5_worthOf, me_X5_worthOf, ii_X5, mc_X5_worthOf, md_X5_worthOf⟩
theorem ml_X6_135 : MLv RX6 135 yX6_conditionOf cX6_conditionOf 2 (some .int) 1 := ⟨gd 338 (by decide +kernel) (by decide +kernel), mi_X6_conditionOf, me_X6_conditionOf, ii_X6, mc_X6_conditionOf, md_X6_conditionOf⟩
theorem ml_X6_142 : MLv RX6 142 yX0_isThere cX0_isThere 1 (some .boolean) 0 := ⟨gd 342 (by decide +kernel) (by decide +kernel), mi_X0_isThere, me_X0_isThere, ii_X0, mc_X0_isThere, md_X0_isThere⟩
theorem ml_X6_146 : MLs RX6 146 yX0_isOfKind cX0_isOfKind 2 (some .boolean) 2 := ⟨gd 347 (by decide +kernel) (by decide +kernel), ms_X0_isOfKind, ii_X0, mc_X0_isOfKind, md_X0_isOfKind⟩
theorem ml_X6_149 : MLv RX6 149 yX5_iceUnder cX5_iceUnder 3 (some .int) 1 := ⟨gd 352 (by decide +kernel) (by decide +kernel), mi_X5_iceUnder, me_X5_iceUnder, ii_X5, mc_X5_iceUnder, md_X5_iceUnder⟩
theorem ml_X6_152 : MLv RX6 152 yX0_keepBlock cX0_keepBlock 2 none 1 := ⟨gd 353 (by decide +kernel) (by decide +kernel), mi_X0_keepBlock, me_X0_keepBlock, ii_X0, mc_X0_keepBlock, md_X0_keepBlock⟩
theorem ml_X6_156 : MLs RX6 156 yX2_lettersIn cX2_lettersIn 5 (some .int) 1 := ⟨gd 361 (by decide +kernel) (by decide +kernel), ms_X2_lettersIn, ii_X2, mc_X2_lettersIn, md_X2_lettersIn⟩
theorem ml_X6_163 : MLv RX6 163 yX2_append cX2_append 5 none 2 := ⟨gd 368 (by decide +kernel) (by decide +kernel), mi_X2_append, me_X2_append, ii_X2, mc_X2_append, md_X2_append⟩
theorem ml_X6_167 : MLv RX6 167 yX2_firstWrong cX2_firstWrong 5 (some .int) 0 := ⟨gd 380 (by decide +kernel) (by decide +kernel), mi_X2_firstWrong, me_X2_firstWrong, ii_X2, mc_X2_firstWrong, md_X2_firstWrong⟩
theorem ml_X6_171 : MLv RX6 171 yX2_isDays cX2_isDays 1 (some .boolean) 0 := ⟨gd 394 (by decide +kernel) (by decide +kernel), mi_X2_isDays, me_X2_isDays, ii_X2, mc_X2_isDays, md_X2_isDays⟩
theorem ml_X6_174 : MLv RX6 174 yX2_beginsDay cX2_beginsDay 2 (some .boolean) 1 := ⟨gd 399 (by decide +kernel) (by decide +kernel), mi_X2_beginsDay, me_X2_beginsDay, ii_X2, mc_X2_beginsDay, md_X2_beginsDay⟩
theorem ml_X6_177 : MLv RX6 177 yX2_dayAt cX2_dayAt 2 (some .int) 1 := ⟨gd 403 (by decide +kernel) (by decide +kernel), mi_X2_dayAt, me_X2_dayAt, ii_X2, mc_X2_dayAt, md_X2_dayAt⟩
theorem ml_X6_180 : MLv RX6 180 yX2_inchesAt cX2_inchesAt 2 (some .int) 1 := ⟨gd 407 (by decide +kernel) (by decide +kernel), mi_X2_inchesAt, me_X2_inchesAt, ii_X2, mc_X2_inchesAt, md_X2_inchesAt⟩
theorem ml_X6_183 : MLv RX6 183 yX5_passDay cX5_passDay 4 (some .int) 2 := ⟨gd 411 (by decide +kernel) (by decide +kernel), mi_X5_passDay, me_X5_passDay, ii_X5, mc_X5_passDay, md_X5_passDay⟩
theorem ml_X6_189 : MLv RX6 189 yX2_outlasts cX2_outlasts 7 (some .boolean) 3 := ⟨gd 437 (by decide +kernel) (by decide +kernel), mi_X2_outlasts, me_X2_outlasts, ii_X2, mc_X2_outlasts, md_X2_outlasts⟩
theorem ml_X6_192 : MLv RX6 192 yX2_daysUntilBearing cX2_daysUntilBearing 5 (some .int) 1 := ⟨gd 450 (by decide +kernel) (by decide +kernel), mi_X2_daysUntilBearing, me_X2_daysUntilBearing, ii_X2, mc_X2_daysUntilBearing, md_X2_daysUntilBearing⟩
theorem ml_X6_195 : MLs RX6 195 yX6_isPerson cX6_isPerson 1 (some .boolean) 1 := ⟨gd 297 (by decide +kernel) (by decide +kernel), ms_X6_isPerson, ii_X6, mc_X6_isPerson, md_X6_isPerson⟩
theorem ml_X6_198 : MLv RX6 198 yX5_restOf cX5_restOf 4 (some .int) 1 := ⟨gd 462 (by decide +kernel) (by decide +kernel), mi_X5_restOf, me_X5_restOf, ii_X5, mc_X5_restOf, md_X5_restOf⟩
theorem ml_X6_205 : MLv RX6 205 yX1_choose cX1_choose 5 none 3 := ⟨gd 472 (by decide +kernel) (by decide +kernel), mi_X1_choose, me_X1_choose, ii_X1, mc_X1_choose, md_X1_choose⟩
theorem ml_X6_215 : MLv RX6 215 yX3_mostGroups cX3_mostGroups 3 (some .int) 1 := ⟨gd 506 (by decide +kernel) (by decide +kernel), mi_X3_mostGroups, me_X3_mostGroups, ii_X3, mc_X3_mostGroups, md_X3_mostGroups⟩
theorem ml_X6_219 : MLv RX6 219 yX4_roam cX4_roam 4 none 2 := ⟨gd 520 (by decide +kernel) (by decide +kernel), mi_X4_roam, me_X4_roam, ii_X4, mc_X4_roam, md_X4_roam⟩
theorem ml_X6_233 : MLv RX6 233 yX6_thawsOutlasted cX6_thawsOutlasted 9 (some .int) 3 := ⟨gd 551 (by decide +kernel) (by decide +kernel), mi_X6_thawsOutlasted, me_X6_thawsOutlasted, ii_X6, mc_X6_thawsOutlasted, md_X6_thawsOutlasted⟩
theorem ml_X6_237 : MLs RX6 237 yX6_choose cX6_choose 5 (some .long) 2 := ⟨gd 557 (by decide +kernel) (by decide +kernel), ms_X6_choose, ii_X6, mc_X6_choose, md_X6_choose⟩
theorem ml_X6_240 : MLs RX6 240 yX6_power cX6_power 5 (some .long) 2 := ⟨gd 560 (by decide +kernel) (by decide +kernel), ms_X6_power, ii_X6, mc_X6_power, md_X6_power⟩
theorem ml_X6_243 : MLs RX6 243 yX6_commonDivisor cX6_commonDivisor 11 (some .long) 2 := ⟨gd 563 (by decide +kernel) (by decide +kernel), ms_X6_commonDivisor, ii_X6, mc_X6_commonDivisor, md_X6_commonDivisor⟩
theorem ml_X6_249 : MLs RX6 249 yX6_iceBehind cX6_iceBehind 3 (some .int) 3 := ⟨gd 555 (by decide +kernel) (by decide +kernel), ms_X6_iceBehind, ii_X6, mc_X6_iceBehind, md_X6_iceBehind⟩
theorem ml_X6_252 : MLs RX6 252 yX0_cutBehindThaw cX0_cutBehindThaw 5 (some .int) 4 := ⟨gd 556 (by decide +kernel) (by decide +kernel), ms_X0_cutBehindThaw, ii_X0, mc_X0_cutBehindThaw, md_X0_cutBehindThaw⟩
theorem ml_X6_256 : MLv RX6 256 yX5_copyFrom cX5_copyFrom 3 none 1 := ⟨gd 571 (by decide +kernel) (by decide +kernel), mi_X5_copyFrom, me_X5_copyFrom, ii_X5, mc_X5_copyFrom, md_X5_copyFrom⟩
theorem ml_X6_260 : MLs RX6 260 yX6_nextSeed cX6_nextSeed 1 (some .int) 1 := ⟨gd 581 (by decide +kernel) (by decide +kernel), ms_X6_nextSeed, ii_X6, mc_X6_nextSeed, md_X6_nextSeed⟩
theorem ml_X6_263 : MLs RX6 263 yX6_drawFrom cX6_drawFrom 2 (some .int) 2 := ⟨gd 587 (by decide +kernel) (by decide +kernel), ms_X6_drawFrom, ii_X6, mc_X6_drawFrom, md_X6_drawFrom⟩
theorem ml_X6_266 : MLv RX6 266 yX5_debtsStanding cX5_debtsStanding 3 (some .int) 0 := ⟨gd 590 (by decide +kernel) (by decide +kernel), mi_X5_debtsStanding, me_X5_debtsStanding, ii_X5, mc_X5_debtsStanding, md_X5_debtsStanding⟩
theorem ml_X6_269 : MLv RX6 269 yX5_iceTogether cX5_iceTogether 3 (some .int) 0 := ⟨gd 594 (by decide +kernel) (by decide +kernel), mi_X5_iceTogether, me_X5_iceTogether, ii_X5, mc_X5_iceTogether, md_X5_iceTogether⟩
theorem ml_X6_282 : MLv RX6 282 yX6_square cX6_square 3 (some .int) 2 := ⟨gd 616 (by decide +kernel) (by decide +kernel), mi_X6_square, me_X6_square, ii_X6, mc_X6_square, md_X6_square⟩
theorem ml_X6_285 : MLv RX6 285 yX6_about cX6_about 4 (some .int) 2 := ⟨gd 617 (by decide +kernel) (by decide +kernel), mi_X6_about, me_X6_about, ii_X6, mc_X6_about, md_X6_about⟩
theorem ml_X6_288 : MLv RX6 288 yX6_rest cX6_rest 2 (some .int) 1 := ⟨gd 618 (by decide +kernel) (by decide +kernel), mi_X6_rest, me_X6_rest, ii_X6, mc_X6_rest, md_X6_rest⟩
theorem ml_X6_291 : MLv RX6 291 yX6_settled cX6_settled 3 (some .int) 1 := ⟨gd 619 (by decide +kernel) (by decide +kernel), mi_X6_settled, me_X6_settled, ii_X6, mc_X6_settled, md_X6_settled⟩
theorem ml_X6_294 : MLv RX6 294 yX6_skate cX6_skate 4 (some .int) 3 := ⟨gd 620 (by decide +kernel) (by decide +kernel), mi_X6_skate, me_X6_skate, ii_X6, mc_X6_skate, md_X6_skate⟩
theorem ml_X6_300 : MLv RX6 300 yX6_count cX6_count 2 (some .int) 1 := ⟨gd 621 (by decide +kernel) (by decide +kernel), mi_X6_count, me_X6_count, ii_X6, mc_X6_count, md_X6_count⟩
theorem ml_X7_71 : MLv RX7 71 yX7_squares cX7_squares 1 (some .int) 0 := ⟨gd 731 (by decide +kernel) (by decide +kernel), mi_X7_squares, me_X7_squares, ii_X7, mc_X7_squares, md_X7_squares⟩
theorem ml_X7_75 : MLs RX7 75 yX7_in cX7_in 6 (some .boolean) 3 := ⟨gd 728 (by decide +kernel) (by decide +kernel), ms_X7_in, ii_X7, mc_X7_in, md_X7_in⟩
theorem ml_X7_94 : MLv RX7 94 yX7_isThere cX7_isThere 2 (some .boolean) 1 := ⟨gd 748 (by decide +kernel) (by decide +kernel), mi_X7_isThere, me_X7_isThere, ii_X7, mc_X7_isThere, md_X7_isThere⟩
theorem ml_X7_98 : MLv RX7 98 yX7_isSquare cX7_isSquare 2 (some .boolean) 1 := ⟨gd 739 (by decide +kernel) (by decide +kernel), mi_X7_isSquare, me_X7_isSquare, ii_X7, mc_X7_isSquare, md_X7_isSquare⟩
theorem ml_X7_103 : MLv RX7 103 yX7_thereIn cX7_thereIn 4 (some .int) 1 := ⟨gd 744 (by decide +kernel) (by decide +kernel), mi_X7_thereIn, me_X7_thereIn, ii_X7, mc_X7_thereIn, md_X7_thereIn⟩
theorem ml_X7_107 : MLv RX7 107 yX7_bearsOne cX7_bearsOne 2 (some .boolean) 1 := ⟨gd 760 (by decide +kernel) (by decide +kernel), mi_X7_bearsOne, me_X7_bearsOne, ii_X7, mc_X7_bearsOne, md_X7_bearsOne⟩
theorem ml_X7_110 : MLv RX7 110 yX7_tellSquare cX7_tellSquare 3 (some .int) 2 := ⟨gd 756 (by decide +kernel) (by decide +kernel), mi_X7_tellSquare, me_X7_tellSquare, ii_X7, mc_X7_tellSquare, md_X7_tellSquare⟩
theorem ml_X7_114 : MLv RX7 114 yX7_lose cX7_lose 2 none 1 := ⟨gd 768 (by decide +kernel) (by decide +kernel), mi_X7_lose, me_X7_lose, ii_X7, mc_X7_lose, md_X7_lose⟩
theorem ml_X7_118 : MLs RX7 118 yX7_isPerson cX7_isPerson 1 (some .boolean) 1 := ⟨gd 776 (by decide +kernel) (by decide +kernel), ms_X7_isPerson, ii_X7, mc_X7_isPerson, md_X7_isPerson⟩
theorem ml_X7_123 : MLv RX7 123 yX7_worthOf cX7_worthOf 6 (some .int) 1 := ⟨gd 793 (by decide +kernel) (by decide +kernel), mi_X7_worthOf, me_X7_worthOf, ii_X7, mc_X7_worthOf, md_X7_worthOf⟩
theorem ml_X7_126 : MLv RX7 126 yX7_lookOf cX7_lookOf 3 (some .int) 1 := ⟨gd 797 (by decide +kernel) (by decide +kernel), mi_X7_lookOf, me_X7_lookOf, ii_X7, mc_X7_lookOf, md_X7_lookOf⟩
theorem ml_X7_129 : MLv RX7 129 yX7_isDebt cX7_isDebt 2 (some .boolean) 1 := ⟨gd 785 (by decide +kernel) (by decide +kernel), mi_X7_isDebt, me_X7_isDebt, ii_X7, mc_X7_isDebt, md_X7_isDebt⟩
theorem ml_X7_132 : MLv RX7 132 yX7_tellDebt cX7_tellDebt 3 (some .int) 2 := ⟨gd 789 (by decide +kernel) (by decide +kernel), mi_X7_tellDebt, me_X7_tellDebt, ii_X7, mc_X7_tellDebt, md_X7_tellDebt⟩
theorem ml_X7_151 : MLs RX7 151 yX7_dayOf cX7_dayOf 1 (some .int) 1 := ⟨gd 832 (by decide +kernel) (by decide +kernel), ms_X7_dayOf, ii_X7, mc_X7_dayOf, md_X7_dayOf⟩
theorem ml_X7_154 : MLv RX7 154 yX7_go cX7_go 3 (some .boolean) 1 := ⟨gd 826 (by decide +kernel) (by decide +kernel), mi_X7_go, me_X7_go, ii_X7, mc_X7_go, md_X7_go⟩
theorem ml_X7_157 : MLv RX7 157 yX7_faultOf cX7_faultOf 2 (some .int) 0 := ⟨gd 822 (by decide +kernel) (by decide +kernel), mi_X7_faultOf, me_X7_faultOf, ii_X7, mc_X7_faultOf, md_X7_faultOf⟩
theorem ml_X7_160 : MLs RX7 160 yX7_less cX7_less 2 (some .int) 2 := ⟨gd 855 (by decide +kernel) (by decide +kernel), ms_X7_less, ii_X7, mc_X7_less, md_X7_less⟩
theorem ml_X7_163 : MLs RX7 163 yX7_thawOf cX7_thawOf 2 (some .int) 2 := ⟨gd 858 (by decide +kernel) (by decide +kernel), ms_X7_thawOf, ii_X7, mc_X7_thawOf, md_X7_thawOf⟩
theorem ml_X7_166 : MLv RX7 166 yX7_thaw cX7_thaw 4 none 1 := ⟨gd 851 (by decide +kernel) (by decide +kernel), mi_X7_thaw, me_X7_thaw, ii_X7, mc_X7_thaw, md_X7_thaw⟩
theorem ml_X7_169 : MLv RX7 169 yX7_areDays cX7_areDays 1 (some .boolean) 0 := ⟨gd 839 (by decide +kernel) (by decide +kernel), mi_X7_areDays, me_X7_areDays, ii_X7, mc_X7_areDays, md_X7_areDays⟩
theorem ml_X7_173 : MLv RX7 173 yX7_thereMany cX7_thereMany 3 (some .int) 0 := ⟨gd 843 (by decide +kernel) (by decide +kernel), mi_X7_thereMany, me_X7_thereMany, ii_X7, mc_X7_thereMany, md_X7_thereMany⟩
theorem ml_X7_176 : MLv RX7 176 yX7_day cX7_day 4 none 2 := ⟨gd 847 (by decide +kernel) (by decide +kernel), mi_X7_day, me_X7_day, ii_X7, mc_X7_day, md_X7_day⟩
theorem ml_X7_180 : MLv RX7 180 yX7_stays cX7_stays 9 (some .boolean) 3 := ⟨gd 865 (by decide +kernel) (by decide +kernel), mi_X7_stays, me_X7_stays, ii_X7, mc_X7_stays, md_X7_stays⟩
theorem ml_X7_184 : MLv RX7 184 yX7_owesOf cX7_owesOf 7 (some .int) 3 := ⟨gd 877 (by decide +kernel) (by decide +kernel), mi_X7_owesOf, me_X7_owesOf, ii_X7, mc_X7_owesOf, md_X7_owesOf⟩
theorem ml_X7_188 : MLv RX7 188 yX7_restOf cX7_restOf 4 (some .int) 1 := ⟨gd 885 (by decide +kernel) (by decide +kernel), mi_X7_restOf, me_X7_restOf, ii_X7, mc_X7_restOf, md_X7_restOf⟩
theorem ml_X7_192 : MLv RX7 192 yX7_weightOf cX7_weightOf 4 (some .int) 1 := ⟨gd 900 (by decide +kernel) (by decide +kernel), mi_X7_weightOf, me_X7_weightOf, ii_X7, mc_X7_weightOf, md_X7_weightOf⟩
theorem ml_X7_202 : MLv RX7 202 yX7_layFits cX7_layFits 7 none 1 := ⟨gd 896 (by decide +kernel) (by decide +kernel), mi_X7_layFits, me_X7_layFits, ii_X7, mc_X7_layFits, md_X7_layFits⟩
theorem ml_X7_205 : MLs RX7 205 yX7_ones cX7_ones 3 (some .int) 1 := ⟨gd 904 (by decide +kernel) (by decide +kernel), ms_X7_ones, ii_X7, mc_X7_ones, md_X7_ones⟩
theorem ml_X7_208 : MLv RX7 208 yX7_groupsOf cX7_groupsOf 7 (some .int) 0 := ⟨gd 911 (by decide +kernel) (by decide +kernel), mi_X7_groupsOf, me_X7_groupsOf, ii_X7, mc_X7_groupsOf, md_X7_groupsOf⟩
theorem ml_X7_211 : MLv RX7 211 yX7_readIn cX7_readIn 4 (some .int) 1 := ⟨gd 923 (by decide +kernel) (by decide +kernel), mi_X7_readIn, me_X7_readIn, ii_X7, mc_X7_readIn, md_X7_readIn⟩
theorem ml_X7_214 : MLv RX7 214 yX7_areBeside cX7_areBeside 5 (some .boolean) 2 := ⟨gd 927 (by decide +kernel) (by decide +kernel), mi_X7_areBeside, me_X7_areBeside, ii_X7, mc_X7_areBeside, md_X7_areBeside⟩
theorem ml_X7_218 : MLv RX7 218 yX7_tellSkate cX7_tellSkate 9 (some .int) 3 := ⟨gd 919 (by decide +kernel) (by decide +kernel), mi_X7_tellSkate, me_X7_tellSkate, ii_X7, mc_X7_tellSkate, md_X7_tellSkate⟩
theorem ml_X7_226 : MLv RX7 226 yX7_staysBy cX7_staysBy 7 (some .boolean) 3 := ⟨gd 937 (by decide +kernel) (by decide +kernel), mi_X7_staysBy, me_X7_staysBy, ii_X7, mc_X7_staysBy, md_X7_staysBy⟩
theorem ml_X7_231 : MLs RX7 231 yX7_term cX7_term 11 (some .long) 3 := ⟨gd 942 (by decide +kernel) (by decide +kernel), ms_X7_term, ii_X7, mc_X7_term, md_X7_term⟩
theorem ml_X7_247 : MLs RX7 247 yX7_copy cX7_copy 3 none 2 := ⟨gd 950 (by decide +kernel) (by decide +kernel), ms_X7_copy, ii_X7, mc_X7_copy, md_X7_copy⟩
theorem ml_X7_251 : MLv RX7 251 yX7_draw cX7_draw 2 (some .int) 1 := ⟨gd 953 (by decide +kernel) (by decide +kernel), mi_X7_draw, me_X7_draw, ii_X7, mc_X7_draw, md_X7_draw⟩
theorem ml_X7_260 : MLv RX7 260 yX7_countOf cX7_countOf 2 (some .int) 1 := ⟨gd 973 (by decide +kernel) (by decide +kernel), mi_X7_countOf, me_X7_countOf, ii_X7, mc_X7_countOf, md_X7_countOf⟩
theorem ml_X7_271 : MLv RX7 271 yX7_say cX7_say 3 none 1 := ⟨gd 982 (by decide +kernel) (by decide +kernel), mi_X7_say, me_X7_say, ii_X7, mc_X7_say, md_X7_say⟩
