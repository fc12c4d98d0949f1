theorem gf_X0_11 : gfl RX0 11 0 0 := ⟨RX0, TX0, 12, rfl, by decide, inX0, inT1 (i := 31) rfl rfl⟩
theorem pf_X0_11 : pfl RX0 11 0 0 .int false := ⟨RX0, TX0, 12, tyX0, rfl, by decide, inX0, inT1 (i := 31) rfl rfl, tyX0_ok, nmX0, rfl, rfl, rfl⟩
theorem gf_X0_15 : gfl RX0 15 0 1 := ⟨RX0, TX0, 12, rfl, by decide, inX0, inT1 (i := 32) rfl rfl⟩
theorem pf_X0_15 : pfl RX0 15 0 1 .int false := ⟨RX0, TX0, 12, tyX0, rfl, by decide, inX0, inT1 (i := 32) rfl rfl, tyX0_ok, nmX0, rfl, rfl, rfl⟩
theorem gf_X0_18 : gfl RX0 18 0 2 := ⟨RX0, TX0, 12, rfl, by decide, inX0, inT1 (i := 33) rfl rfl⟩
theorem pf_X0_18 : pfl RX0 18 0 2 (.array .int) true := ⟨RX0, TX0, 12, tyX0, rfl, by decide, inX0, inT1 (i := 33) rfl rfl, tyX0_ok, nmX0, rfl, rfl, rfl⟩
theorem gf_X0_22 : gfl RX0 22 0 3 := ⟨RX0, TX0, 12, rfl, by decide, inX0, inT1 (i := 34) rfl rfl⟩
theorem pf_X0_22 : pfl RX0 22 0 3 (.array .int) true := ⟨RX0, TX0, 12, tyX0, rfl, by decide, inX0, inT1 (i := 34) rfl rfl, tyX0_ok, nmX0, rfl, rfl, rfl⟩
theorem gf_X0_27 : gfl RX0 27 0 4 := ⟨RX0, TX0, 12, rfl, by decide, inX0, inT1 (i := 35) rfl rfl⟩
theorem pf_X0_27 : pfl RX0 27 0 4 (.array (.array .int)) true := ⟨RX0, TX0, 12, tyX0, rfl, by decide, inX0, inT1 (i := 35) rfl rfl, tyX0_ok, nmX0, rfl, rfl, rfl⟩
theorem gf_X0_30 : gfl RX0 30 0 5 := ⟨RX0, TX0, 12, rfl, by decide, inX0, inT1 (i := 36) rfl rfl⟩
theorem pf_X0_30 : pfl RX0 30 0 5 (.array .int) true := ⟨RX0, TX0, 12, tyX0, rfl, by decide, inX0, inT1 (i := 36) rfl rfl, tyX0_ok, nmX0, rfl, rfl, rfl⟩
theorem gf_X0_33 : gfl RX0 33 0 6 := ⟨RX0, TX0, 12, rfl, by decide, inX0, inT1 (i := 37) rfl rfl⟩
theorem pf_X0_33 : pfl RX0 33 0 6 (.array .int) true := ⟨RX0, TX0, 12, tyX0, rfl, by decide, inX0, inT1 (i := 37) rfl rfl, tyX0_ok, nmX0, rfl, rfl, rfl⟩
theorem gf_X0_36 : gfl RX0 36 0 7 := ⟨RX0, TX0, 12, rfl, by decide, inX0, inT1 (i := 38) rfl rfl⟩
theorem pf_X0_36 : pfl RX0 36 0 7 (.array .int) true := ⟨RX0, TX0, 12, tyX0, rfl, by decide, inX0, inT1 (i := 38) rfl rfl, tyX0_ok, nmX0, rfl, rfl, rfl⟩
theorem gf_X0_39 : gfl RX0 39 0 8 := ⟨RX0, TX0, 12, rfl, by decide, inX0, inT1 (i := 39) rfl rfl⟩
theorem pf_X0_39 : pfl RX0 39 0 8 (.array .int) true := ⟨RX0, TX0, 12, tyX0, rfl, by decide, inX0, inT1 (i := 39) rfl rfl, tyX0_ok, nmX0, rfl, rfl, rfl⟩
theorem gf_X0_42 : gfl RX0 42 0 9 := ⟨RX0, TX0, 12, rfl, by decide, inX0, inT1 (i := 40) rfl rfl⟩
theorem pf_X0_42 : pfl RX0 42 0 9 (.array .int) true := ⟨RX0, TX0, 12, tyX0, rfl, by decide, inX0, inT1 (i := 40) rfl rfl, tyX0_ok, nmX0, rfl, rfl, rfl⟩
theorem gf_X0_45 : gfl RX0 45 0 10 := ⟨RX0, TX0, 12, rfl, by decide, inX0, inT1 (i := 41) rfl rfl⟩
theorem pf_X0_45 : pfl RX0 45 0 10 (.array .int) true := ⟨RX0, TX0, 12, tyX0, rfl, by decide, inX0, inT1 (i := 41) rfl rfl, tyX0_ok, nmX0, rfl, rfl, rfl⟩
theorem gf_X0_48 : gfl RX0 48 0 11 := ⟨RX0, TX0, 12, rfl, by decide, inX0, inT1 (i := 42) rfl rfl⟩
theorem pf_X0_48 : pfl RX0 48 0 11 (.array .int) true := ⟨RX0, TX0, 12, tyX0, rfl, by decide, inX0, inT1 (i := 42) rfl rfl, tyX0_ok, nmX0, rfl, rfl, rfl⟩
theorem gf_X0_57 : gfl RX0 57 2 4 := ⟨RX2, TX2, 11, rfl, by decide, inX2, inT1 (i := 170) rfl rfl⟩
theorem gf_X0_61 : gfl RX0 61 2 5 := ⟨RX2, TX2, 11, rfl, by decide, inX2, inT1 (i := 173) rfl rfl⟩
theorem gf_X1_11 : gfl RX1 11 1 0 := ⟨RX1, TX1, 6, rfl, by decide, inX1, inT1 (i := 90) rfl rfl⟩
theorem pf_X1_11 : pfl RX1 11 1 0 .int false := ⟨RX1, TX1, 6, tyX1, rfl, by decide, inX1, inT1 (i := 90) rfl rfl, tyX1_ok, nmX1, rfl, rfl, rfl⟩
theorem gf_X1_15 : gfl RX1 15 1 1 := ⟨RX1, TX1, 6, rfl, by decide, inX1, inT1 (i := 92) rfl rfl⟩
theorem pf_X1_15 : pfl RX1 15 1 1 .int false := ⟨RX1, TX1, 6, tyX1, rfl, by decide, inX1, inT1 (i := 92) rfl rfl, tyX1_ok, nmX1, rfl, rfl, rfl⟩
theorem gf_X1_18 : gfl RX1 18 1 2 := ⟨RX1, TX1, 6, rfl, by decide, inX1, inT1 (i := 94) rfl rfl⟩
theorem pf_X1_18 : pfl RX1 18 1 2 (.array .int) true := ⟨RX1, TX1, 6, tyX1, rfl, by decide, inX1, inT1 (i := 94) rfl rfl, tyX1_ok, nmX1, rfl, rfl, rfl⟩
theorem gf_X1_22 : gfl RX1 22 1 3 := ⟨RX1, TX1, 6, rfl, by decide, inX1, inT1 (i := 95) rfl rfl⟩
theorem pf_X1_22 : pfl RX1 22 1 3 (.array .int) true := ⟨RX1, TX1, 6, tyX1, rfl, by decide, inX1, inT1 (i := 95) rfl rfl, tyX1_ok, nmX1, rfl, rfl, rfl⟩
theorem gf_X1_25 : gfl RX1 25 1 4 := ⟨RX1, TX1, 6, rfl, by decide, inX1, inT1 (i := 96) rfl rfl⟩
theorem pf_X1_25 : pfl RX1 25 1 4 (.array .int) true := ⟨RX1, TX1, 6, tyX1, rfl, by decide, inX1, inT1 (i := 96) rfl rfl, tyX1_ok, nmX1, rfl, rfl, rfl⟩
theorem gf_X1_28 : gfl RX1 28 1 5 := ⟨RX1, TX1, 6, rfl, by decide, inX1, inT1 (i := 97) rfl rfl⟩
theorem pf_X1_28 : pfl RX1 28 1 5 (.array .int) true := ⟨RX1, TX1, 6, tyX1, rfl, by decide, inX1, inT1 (i := 97) rfl rfl, tyX1_ok, nmX1, rfl, rfl, rfl⟩
theorem gf_X2_9 : gfl RX2 9 2 0 := ⟨RX2, TX2, 11, rfl, by decide, inX2, inT1 (i := 161) rfl rfl⟩
theorem pf_X2_9 : pfl RX2 9 2 0 .int true := ⟨RX2, TX2, 11, tyX2, rfl, by decide, inX2, inT1 (i := 161) rfl rfl, tyX2_ok, nmX2, rfl, rfl, rfl⟩
theorem gf_X2_15 : gfl RX2 15 2 3 := ⟨RX2, TX2, 11, rfl, by decide, inX2, inT1 (i := 167) rfl rfl⟩
theorem pf_X2_15 : pfl RX2 15 2 3 .int false := ⟨RX2, TX2, 11, tyX2, rfl, by decide, inX2, inT1 (i := 167) rfl rfl, tyX2_ok, nmX2, rfl, rfl, rfl⟩
theorem gf_X2_18 : gfl RX2 18 2 1 := ⟨RX2, TX2, 11, rfl, by decide, inX2, inT1 (i := 163) rfl rfl⟩
theorem pf_X2_18 : pfl RX2 18 2 1 .int true := ⟨RX2, TX2, 11, tyX2, rfl, by decide, inX2, inT1 (i := 163) rfl rfl, tyX2_ok, nmX2, rfl, rfl, rfl⟩
theorem gf_X2_21 : gfl RX2 21 2 2 := ⟨RX2, TX2, 11, rfl, by decide, inX2, inT1 (i := 165) rfl rfl⟩
theorem pf_X2_21 : pfl RX2 21 2 2 .int true := ⟨RX2, TX2, 11, tyX2, rfl, by decide, inX2, inT1 (i := 165) rfl rfl, tyX2_ok, nmX2, rfl, rfl, rfl⟩
theorem gf_X2_24 : gfl RX2 24 2 4 := ⟨RX2, TX2, 11, rfl, by decide, inX2, inT1 (i := 169) rfl rfl⟩
theorem pf_X2_24 : pfl RX2 24 2 4 .int false := ⟨RX2, TX2, 11, tyX2, rfl, by decide, inX2, inT1 (i := 169) rfl rfl, tyX2_ok, nmX2, rfl, rfl, rfl⟩
theorem gf_X2_27 : gfl RX2 27 2 5 := ⟨RX2, TX2, 11, rfl, by decide, inX2, inT1 (i := 172) rfl rfl⟩
theorem pf_X2_27 : pfl RX2 27 2 5 .int false := ⟨RX2, TX2, 11, tyX2, rfl, by decide, inX2, inT1 (i := 172) rfl rfl, tyX2_ok, nmX2, rfl, rfl, rfl⟩
theorem gf_X2_30 : gfl RX2 30 2 6 := ⟨RX2, TX2, 11, rfl, by decide, inX2, inT1 (i := 175) rfl rfl⟩
theorem pf_X2_30 : pfl RX2 30 2 6 .int false := ⟨RX2, TX2, 11, tyX2, rfl, by decide, inX2, inT1 (i := 175) rfl rfl, tyX2_ok, nmX2, rfl, rfl, rfl⟩
theorem gf_X2_33 : gfl RX2 33 2 7 := ⟨RX2, TX2, 11, rfl, by decide, inX2, inT1 (i := 177) rfl rfl⟩
theorem pf_X2_33 : pfl RX2 33 2 7 .int false := ⟨RX2, TX2, 11, tyX2, rfl, by decide, inX2, inT1 (i := 177) rfl rfl, tyX2_ok, nmX2, rfl, rfl, rfl⟩
theorem gf_X2_36 : gfl RX2 36 2 8 := ⟨RX2, TX2, 11, rfl, by decide, inX2, inT1 (i := 179) rfl rfl⟩
theorem pf_X2_36 : pfl RX2 36 2 8 .int false := ⟨RX2, TX2, 11, tyX2, rfl, by decide, inX2, inT1 (i := 179) rfl rfl, tyX2_ok, nmX2, rfl, rfl, rfl⟩
theorem gf_X2_39 : gfl RX2 39 2 9 := ⟨RX2, TX2, 11, rfl, by decide, inX2, inT1 (i := 181) rfl rfl⟩
theorem pf_X2_39 : pfl RX2 39 2 9 .int false := ⟨RX2, TX2, 11, tyX2, rfl, by decide, inX2, inT1 (i := 181) rfl rfl, tyX2_ok, nmX2, rfl, rfl, rfl⟩
theorem gf_X2_42 : gfl RX2 42 2 10 := ⟨RX2, TX2, 11, rfl, by decide, inX2, inT1 (i := 183) rfl rfl⟩
theorem pf_X2_42 : pfl RX2 42 2 10 .int false := ⟨RX2, TX2, 11, tyX2, rfl, by decide, inX2, inT1 (i := 183) rfl rfl, tyX2_ok, nmX2, rfl, rfl, rfl⟩
theorem gf_X3_7 : gfl RX3 7 3 0 := ⟨RX3, TX3, 5, rfl, by decide, inX3, inT2 (i := 99) rfl rfl⟩
theorem pf_X3_7 : pfl RX3 7 3 0 .int true := ⟨RX3, TX3, 5, tyX3, rfl, by decide, inX3, inT2 (i := 99) rfl rfl, tyX3_ok, nmX3, rfl, rfl, rfl⟩
theorem gf_X3_13 : gfl RX3 13 3 1 := ⟨RX3, TX3, 5, rfl, by decide, inX3, inT2 (i := 100) rfl rfl⟩
theorem pf_X3_13 : pfl RX3 13 3 1 .int true := ⟨RX3, TX3, 5, tyX3, rfl, by decide, inX3, inT2 (i := 100) rfl rfl, tyX3_ok, nmX3, rfl, rfl, rfl⟩
theorem gf_X3_16 : gfl RX3 16 3 2 := ⟨RX3, TX3, 5, rfl, by decide, inX3, inT2 (i := 102) rfl rfl⟩
theorem pf_X3_16 : pfl RX3 16 3 2 .int true := ⟨RX3, TX3, 5, tyX3, rfl, by decide, inX3, inT2 (i := 102) rfl rfl, tyX3_ok, nmX3, rfl, rfl, rfl⟩
theorem gf_X3_19 : gfl RX3 19 3 3 := ⟨RX3, TX3, 5, rfl, by decide, inX3, inT2 (i := 104) rfl rfl⟩
theorem pf_X3_19 : pfl RX3 19 3 3 .int true := ⟨RX3, TX3, 5, tyX3, rfl, by decide, inX3, inT2 (i := 104) rfl rfl, tyX3_ok, nmX3, rfl, rfl, rfl⟩
theorem gf_X3_22 : gfl RX3 22 3 4 := ⟨RX3, TX3, 5, rfl, by decide, inX3, inT2 (i := 106) rfl rfl⟩
theorem pf_X3_22 : pfl RX3 22 3 4 .boolean false := ⟨RX3, TX3, 5, tyX3, rfl, by decide, inX3, inT2 (i := 106) rfl rfl, tyX3_ok, nmX3, rfl, rfl, rfl⟩
theorem gf_X4_13 : gfl RX4 13 4 0 := ⟨RX4, TX4, 2, rfl, by decide, inX4, inT1 (i := 77) rfl rfl⟩
theorem pf_X4_13 : pfl RX4 13 4 0 (.array (.object RX3)) true := ⟨RX4, TX4, 2, tyX4, rfl, by decide, inX4, inT1 (i := 77) rfl rfl, tyX4_ok, nmX4, rfl, rfl, rfl⟩
theorem gf_X4_17 : gfl RX4 17 4 1 := ⟨RX4, TX4, 2, rfl, by decide, inX4, inT1 (i := 78) rfl rfl⟩
theorem pf_X4_17 : pfl RX4 17 4 1 .int false := ⟨RX4, TX4, 2, tyX4, rfl, by decide, inX4, inT1 (i := 78) rfl rfl, tyX4_ok, nmX4, rfl, rfl, rfl⟩
theorem gf_X4_21 : gfl RX4 21 3 4 := ⟨RX3, TX3, 5, rfl, by decide, inX3, inT2 (i := 107) rfl rfl⟩
theorem pf_X4_21 : pfl RX4 21 3 4 .boolean false := ⟨RX3, TX3, 5, tyX3, rfl, by decide, inX3, inT2 (i := 107) rfl rfl, tyX3_ok, nmX3, rfl, rfl, rfl⟩
theorem gf_X4_29 : gfl RX4 29 3 1 := ⟨RX3, TX3, 5, rfl, by decide, inX3, inT2 (i := 101) rfl rfl⟩
theorem gf_X4_32 : gfl RX4 32 3 2 := ⟨RX3, TX3, 5, rfl, by decide, inX3, inT2 (i := 103) rfl rfl⟩
theorem gf_X4_35 : gfl RX4 35 3 3 := ⟨RX3, TX3, 5, rfl, by decide, inX3, inT2 (i := 105) rfl rfl⟩
theorem gf_X5_9 : gfl RX5 9 5 0 := ⟨RX5, TX5, 5, rfl, by decide, inX5, inT3 (i := 52) rfl rfl⟩
theorem pf_X5_9 : pfl RX5 9 5 0 .int true := ⟨RX5, TX5, 5, tyX5, rfl, by decide, inX5, inT3 (i := 52) rfl rfl, tyX5_ok, nmX5, rfl, rfl, rfl⟩
theorem gf_X5_15 : gfl RX5 15 5 1 := ⟨RX5, TX5, 5, rfl, by decide, inX5, inT3 (i := 54) rfl rfl⟩
theorem pf_X5_15 : pfl RX5 15 5 1 .int true := ⟨RX5, TX5, 5, tyX5, rfl, by decide, inX5, inT3 (i := 54) rfl rfl, tyX5_ok, nmX5, rfl, rfl, rfl⟩
theorem gf_X5_18 : gfl RX5 18 5 2 := ⟨RX5, TX5, 5, rfl, by decide, inX5, inT3 (i := 56) rfl rfl⟩
theorem pf_X5_18 : pfl RX5 18 5 2 .int true := ⟨RX5, TX5, 5, tyX5, rfl, by decide, inX5, inT3 (i := 56) rfl rfl, tyX5_ok, nmX5, rfl, rfl, rfl⟩
theorem gf_X5_21 : gfl RX5 21 5 3 := ⟨RX5, TX5, 5, rfl, by decide, inX5, inT3 (i := 57) rfl rfl⟩
theorem pf_X5_21 : pfl RX5 21 5 3 .int true := ⟨RX5, TX5, 5, tyX5, rfl, by decide, inX5, inT3 (i := 57) rfl rfl, tyX5_ok, nmX5, rfl, rfl, rfl⟩
theorem gf_X5_24 : gfl RX5 24 5 4 := ⟨RX5, TX5, 5, rfl, by decide, inX5, inT3 (i := 59) rfl rfl⟩
theorem pf_X5_24 : pfl RX5 24 5 4 .boolean true := ⟨RX5, TX5, 5, tyX5, rfl, by decide, inX5, inT3 (i := 59) rfl rfl, tyX5_ok, nmX5, rfl, rfl, rfl⟩
theorem gf_X6_13 : gfl RX6 13 6 0 := ⟨RX6, TX6, 2, rfl, by decide, inX6, inT1 (i := 119) rfl rfl⟩
theorem pf_X6_13 : pfl RX6 13 6 0 (.array (.object RX5)) true := ⟨RX6, TX6, 2, tyX6, rfl, by decide, inX6, inT1 (i := 119) rfl rfl, tyX6_ok, nmX6, rfl, rfl, rfl⟩
theorem gf_X6_17 : gfl RX6 17 6 1 := ⟨RX6, TX6, 2, rfl, by decide, inX6, inT1 (i := 120) rfl rfl⟩
theorem pf_X6_17 : pfl RX6 17 6 1 .int false := ⟨RX6, TX6, 2, tyX6, rfl, by decide, inX6, inT1 (i := 120) rfl rfl, tyX6_ok, nmX6, rfl, rfl, rfl⟩
theorem gf_X6_21 : gfl RX6 21 5 3 := ⟨RX5, TX5, 5, rfl, by decide, inX5, inT3 (i := 58) rfl rfl⟩
theorem gf_X6_27 : gfl RX6 27 5 1 := ⟨RX5, TX5, 5, rfl, by decide, inX5, inT3 (i := 55) rfl rfl⟩
theorem gf_X6_34 : gfl RX6 34 5 0 := ⟨RX5, TX5, 5, rfl, by decide, inX5, inT3 (i := 53) rfl rfl⟩
theorem gf_X7_11 : gfl RX7 11 7 0 := ⟨RX7, TX7, 7, rfl, by decide, inX7, inT1 (i := 127) rfl rfl⟩
theorem pf_X7_11 : pfl RX7 11 7 0 (.array (.object RX2)) true := ⟨RX7, TX7, 7, tyX7, rfl, by decide, inX7, inT1 (i := 127) rfl rfl, tyX7_ok, nmX7, rfl, rfl, rfl⟩
theorem gf_X7_15 : gfl RX7 15 7 1 := ⟨RX7, TX7, 7, rfl, by decide, inX7, inT1 (i := 128) rfl rfl⟩
theorem pf_X7_15 : pfl RX7 15 7 1 .int false := ⟨RX7, TX7, 7, tyX7, rfl, by decide, inX7, inT1 (i := 128) rfl rfl, tyX7_ok, nmX7, rfl, rfl, rfl⟩
theorem gf_X7_19 : gfl RX7 19 7 2 := ⟨RX7, TX7, 7, rfl, by decide, inX7, inT1 (i := 129) rfl rfl⟩
theorem pf_X7_19 : pfl RX7 19 7 2 .int false := ⟨RX7, TX7, 7, tyX7, rfl, by decide, inX7, inT1 (i := 129) rfl rfl, tyX7_ok, nmX7, rfl, rfl, rfl⟩
theorem gf_X7_25 : gfl RX7 25 7 3 := ⟨RX7, TX7, 7, rfl, by decide, inX7, inT1 (i := 130) rfl rfl⟩
theorem pf_X7_25 : pfl RX7 25 7 3 (.object RX0) true := ⟨RX7, TX7, 7, tyX7, rfl, by decide, inX7, inT1 (i := 130) rfl rfl, tyX7_ok, nmX7, rfl, rfl, rfl⟩
theorem gf_X7_32 : gfl RX7 32 7 4 := ⟨RX7, TX7, 7, rfl, by decide, inX7, inT1 (i := 131) rfl rfl⟩
theorem pf_X7_32 : pfl RX7 32 7 4 (.object RX4) true := ⟨RX7, TX7, 7, tyX7, rfl, by decide, inX7, inT1 (i := 131) rfl rfl, tyX7_ok, nmX7, rfl, rfl, rfl⟩
theorem gf_X7_39 : gfl RX7 39 7 5 := ⟨RX7, TX7, 7, rfl, by decide, inX7, inT1 (i := 132) rfl rfl⟩
theorem pf_X7_39 : pfl RX7 39 7 5 (.object RX1) true := ⟨RX7, TX7, 7, tyX7, rfl, by decide, inX7, inT1 (i := 132) rfl rfl, tyX7_ok, nmX7, rfl, rfl, rfl⟩
theorem gf_X7_46 : gfl RX7 46 7 6 := ⟨RX7, TX7, 7, rfl, by decide, inX7, inT1 (i := 133) rfl rfl⟩
theorem pf_X7_46 : pfl RX7 46 7 6 (.object RX6) true := ⟨RX7, TX7, 7, tyX7, rfl, by decide, inX7, inT1 (i := 133) rfl rfl, tyX7_ok, nmX7, rfl, rfl, rfl⟩
theorem gf_X7_61 : gfl RX7 61 2 4 := ⟨RX2, TX2, 11, rfl, by decide, inX2, inT1 (i := 171) rfl rfl⟩
theorem pf_X7_61 : pfl RX7 61 2 4 .int false := ⟨RX2, TX2, 11, tyX2, rfl, by decide, inX2, inT1 (i := 171) rfl rfl, tyX2_ok, nmX2, rfl, rfl, rfl⟩
theorem gf_X7_64 : gfl RX7 64 2 5 := ⟨RX2, TX2, 11, rfl, by decide, inX2, inT1 (i := 174) rfl rfl⟩
theorem pf_X7_64 : pfl RX7 64 2 5 .int false := ⟨RX2, TX2, 11, tyX2, rfl, by decide, inX2, inT1 (i := 174) rfl rfl, tyX2_ok, nmX2, rfl, rfl, rfl⟩
theorem gf_X7_67 : gfl RX7 67 2 0 := ⟨RX2, TX2, 11, rfl, by decide, inX2, inT1 (i := 162) rfl rfl⟩
theorem gf_X7_70 : gfl RX7 70 2 3 := ⟨RX2, TX2, 11, rfl, by decide, inX2, inT1 (i := 168) rfl rfl⟩
theorem gf_X7_73 : gfl RX7 73 2 1 := ⟨RX2, TX2, 11, rfl, by decide, inX2, inT1 (i := 164) rfl rfl⟩
theorem gf_X7_76 : gfl RX7 76 2 2 := ⟨RX2, TX2, 11, rfl, by decide, inX2, inT1 (i := 166) rfl rfl⟩
theorem gf_X7_79 : gfl RX7 79 2 6 := ⟨RX2, TX2, 11, rfl, by decide, inX2, inT1 (i := 176) rfl rfl⟩
theorem pf_X7_79 : pfl RX7 79 2 6 .int false := ⟨RX2, TX2, 11, tyX2, rfl, by decide, inX2, inT1 (i := 176) rfl rfl, tyX2_ok, nmX2, rfl, rfl, rfl⟩
theorem gf_X7_82 : gfl RX7 82 2 7 := ⟨RX2, TX2, 11, rfl, by decide, inX2, inT1 (i := 178) rfl rfl⟩
theorem pf_X7_82 : pfl RX7 82 2 7 .int false := ⟨RX2, TX2, 11, tyX2, rfl, by decide, inX2, inT1 (i := 178) rfl rfl, tyX2_ok, nmX2, rfl, rfl, rfl⟩
theorem gf_X7_85 : gfl RX7 85 2 8 := ⟨RX2, TX2, 11, rfl, by decide, inX2, inT1 (i := 180) rfl rfl⟩
theorem pf_X7_85 : pfl RX7 85 2 8 .int false := ⟨RX2, TX2, 11, tyX2, rfl, by decide, inX2, inT1 (i := 180) rfl rfl, tyX2_ok, nmX2, rfl, rfl, rfl⟩
theorem gf_X7_167 : gfl RX7 167 1 0 := ⟨RX1, TX1, 6, rfl, by decide, inX1, inT1 (i := 91) rfl rfl⟩
theorem pf_X7_167 : pfl RX7 167 1 0 .int false := ⟨RX1, TX1, 6, tyX1, rfl, by decide, inX1, inT1 (i := 91) rfl rfl, tyX1_ok, nmX1, rfl, rfl, rfl⟩
theorem gf_X7_182 : gfl RX7 182 2 9 := ⟨RX2, TX2, 11, rfl, by decide, inX2, inT1 (i := 182) rfl rfl⟩
theorem pf_X7_182 : pfl RX7 182 2 9 .int false := ⟨RX2, TX2, 11, tyX2, rfl, by decide, inX2, inT1 (i := 182) rfl rfl, tyX2_ok, nmX2, rfl, rfl, rfl⟩
theorem gf_X7_185 : gfl RX7 185 2 10 := ⟨RX2, TX2, 11, rfl, by decide, inX2, inT1 (i := 184) rfl rfl⟩
theorem pf_X7_185 : pfl RX7 185 2 10 .int false := ⟨RX2, TX2, 11, tyX2, rfl, by decide, inX2, inT1 (i := 184) rfl rfl, tyX2_ok, nmX2, rfl, rfl, rfl⟩
theorem gf_X7_226 : gfl RX7 226 1 1 := ⟨RX1, TX1, 6, rfl, by decide, inX1, inT1 (i := 93) rfl rfl⟩
theorem gf_X7_229 : gfl RX7 229 6 1 := ⟨RX6, TX6, 2, rfl, by decide, inX6, inT1 (i := 121) rfl rfl⟩
theorem gf_X8_7 : gfl RX8 7 8 3 := ⟨RX8, TX8, 37, rfl, by decide, inX8, inT3 (i := 153) rfl rfl⟩
theorem pf_X8_7 : pfl RX8 7 8 3 (.array .int) true := ⟨RX8, TX8, 37, tyX8, rfl, by decide, inX8, inT3 (i := 153) rfl rfl, tyX8_ok, nmX8, rfl, rfl, rfl⟩
theorem gf_X8_13 : gfl RX8 13 8 4 := ⟨RX8, TX8, 37, rfl, by decide, inX8, inT3 (i := 154) rfl rfl⟩
theorem pf_X8_13 : pfl RX8 13 8 4 (.array .int) true := ⟨RX8, TX8, 37, tyX8, rfl, by decide, inX8, inT3 (i := 154) rfl rfl, tyX8_ok, nmX8, rfl, rfl, rfl⟩
theorem gf_X8_16 : gfl RX8 16 8 5 := ⟨RX8, TX8, 37, rfl, by decide, inX8, inT3 (i := 155) rfl rfl⟩
theorem pf_X8_16 : pfl RX8 16 8 5 (.array .int) true := ⟨RX8, TX8, 37, tyX8, rfl, by decide, inX8, inT3 (i := 155) rfl rfl, tyX8_ok, nmX8, rfl, rfl, rfl⟩
theorem gf_X8_19 : gfl RX8 19 8 6 := ⟨RX8, TX8, 37, rfl, by decide, inX8, inT3 (i := 156) rfl rfl⟩
theorem pf_X8_19 : pfl RX8 19 8 6 (.array .int) true := ⟨RX8, TX8, 37, tyX8, rfl, by decide, inX8, inT3 (i := 156) rfl rfl, tyX8_ok, nmX8, rfl, rfl, rfl⟩
theorem gf_X8_22 : gfl RX8 22 8 7 := ⟨RX8, TX8, 37, rfl, by decide, inX8, inT3 (i := 157) rfl rfl⟩
theorem pf_X8_22 : pfl RX8 22 8 7 (.array .int) true := ⟨RX8, TX8, 37, tyX8, rfl, by decide, inX8, inT3 (i := 157) rfl rfl, tyX8_ok, nmX8, rfl, rfl, rfl⟩
theorem gf_X8_25 : gfl RX8 25 8 8 := ⟨RX8, TX8, 37, rfl, by decide, inX8, inT3 (i := 158) rfl rfl⟩
theorem pf_X8_25 : pfl RX8 25 8 8 (.array .int) true := ⟨RX8, TX8, 37, tyX8, rfl, by decide, inX8, inT3 (i := 158) rfl rfl, tyX8_ok, nmX8, rfl, rfl, rfl⟩
theorem gf_X8_28 : gfl RX8 28 8 9 := ⟨RX8, TX8, 37, rfl, by decide, inX8, inT3 (i := 159) rfl rfl⟩
theorem pf_X8_28 : pfl RX8 28 8 9 (.array .int) true := ⟨RX8, TX8, 37, tyX8, rfl, by decide, inX8, inT3 (i := 159) rfl rfl, tyX8_ok, nmX8, rfl, rfl, rfl⟩
theorem gf_X8_31 : gfl RX8 31 8 10 := ⟨RX8, TX8, 37, rfl, by decide, inX8, inT3 (i := 160) rfl rfl⟩
theorem pf_X8_31 : pfl RX8 31 8 10 (.array .int) true := ⟨RX8, TX8, 37, tyX8, rfl, by decide, inX8, inT3 (i := 160) rfl rfl, tyX8_ok, nmX8, rfl, rfl, rfl⟩
theorem gf_X8_34 : gfl RX8 34 8 11 := ⟨RX8, TX8, 37, rfl, by decide, inX8, inT3 (i := 161) rfl rfl⟩
theorem pf_X8_34 : pfl RX8 34 8 11 (.array .int) true := ⟨RX8, TX8, 37, tyX8, rfl, by decide, inX8, inT3 (i := 161) rfl rfl, tyX8_ok, nmX8, rfl, rfl, rfl⟩
theorem gf_X8_37 : gfl RX8 37 8 12 := ⟨RX8, TX8, 37, rfl, by decide, inX8, inT3 (i := 162) rfl rfl⟩
theorem pf_X8_37 : pfl RX8 37 8 12 (.array .int) true := ⟨RX8, TX8, 37, tyX8, rfl, by decide, inX8, inT3 (i := 162) rfl rfl, tyX8_ok, nmX8, rfl, rfl, rfl⟩
theorem gf_X8_40 : gfl RX8 40 8 13 := ⟨RX8, TX8, 37, rfl, by decide, inX8, inT3 (i := 163) rfl rfl⟩
theorem pf_X8_40 : pfl RX8 40 8 13 (.array .int) true := ⟨RX8, TX8, 37, tyX8, rfl, by decide, inX8, inT3 (i := 163) rfl rfl, tyX8_ok, nmX8, rfl, rfl, rfl⟩
theorem gf_X8_43 : gfl RX8 43 8 15 := ⟨RX8, TX8, 37, rfl, by decide, inX8, inT3 (i := 165) rfl rfl⟩
theorem pf_X8_43 : pfl RX8 43 8 15 (.array .int) true := ⟨RX8, TX8, 37, tyX8, rfl, by decide, inX8, inT3 (i := 165) rfl rfl, tyX8_ok, nmX8, rfl, rfl, rfl⟩
theorem gf_X8_46 : gfl RX8 46 8 16 := ⟨RX8, TX8, 37, rfl, by decide, inX8, inT3 (i := 166) rfl rfl⟩
theorem pf_X8_46 : pfl RX8 46 8 16 (.array .int) true := ⟨RX8, TX8, 37, tyX8, rfl, by decide, inX8, inT3 (i := 166) rfl rfl, tyX8_ok, nmX8, rfl, rfl, rfl⟩
theorem gf_X8_49 : gfl RX8 49 8 17 := ⟨RX8, TX8, 37, rfl, by decide, inX8, inT3 (i := 167) rfl rfl⟩
theorem pf_X8_49 : pfl RX8 49 8 17 (.array .int) true := ⟨RX8, TX8, 37, tyX8, rfl, by decide, inX8, inT3 (i := 167) rfl rfl, tyX8_ok, nmX8, rfl, rfl, rfl⟩
theorem gf_X8_52 : gfl RX8 52 8 18 := ⟨RX8, TX8, 37, rfl, by decide, inX8, inT3 (i := 168) rfl rfl⟩
theorem pf_X8_52 : pfl RX8 52 8 18 (.array .int) true := ⟨RX8, TX8, 37, tyX8, rfl, by decide, inX8, inT3 (i := 168) rfl rfl, tyX8_ok, nmX8, rfl, rfl, rfl⟩
theorem gf_X8_55 : gfl RX8 55 8 19 := ⟨RX8, TX8, 37, rfl, by decide, inX8, inT3 (i := 169) rfl rfl⟩
theorem pf_X8_55 : pfl RX8 55 8 19 (.array .boolean) true := ⟨RX8, TX8, 37, tyX8, rfl, by decide, inX8, inT3 (i := 169) rfl rfl, tyX8_ok, nmX8, rfl, rfl, rfl⟩
theorem gf_X8_59 : gfl RX8 59 8 22 := ⟨RX8, TX8, 37, rfl, by decide, inX8, inT3 (i := 172) rfl rfl⟩
theorem pf_X8_59 : pfl RX8 59 8 22 (.array .int) true := ⟨RX8, TX8, 37, tyX8, rfl, by decide, inX8, inT3 (i := 172) rfl rfl, tyX8_ok, nmX8, rfl, rfl, rfl⟩
theorem gf_X8_62 : gfl RX8 62 8 23 := ⟨RX8, TX8, 37, rfl, by decide, inX8, inT3 (i := 173) rfl rfl⟩
theorem pf_X8_62 : pfl RX8 62 8 23 (.array .int) true := ⟨RX8, TX8, 37, tyX8, rfl, by decide, inX8, inT3 (i := 173) rfl rfl, tyX8_ok, nmX8, rfl, rfl, rfl⟩
theorem gf_X8_65 : gfl RX8 65 8 25 := ⟨RX8, TX8, 37, rfl, by decide, inX8, inT3 (i := 175) rfl rfl⟩
theorem pf_X8_65 : pfl RX8 65 8 25 (.array .int) true := ⟨RX8, TX8, 37, tyX8, rfl, by decide, inX8, inT3 (i := 175) rfl rfl, tyX8_ok, nmX8, rfl, rfl, rfl⟩
theorem gf_X8_68 : gfl RX8 68 8 26 := ⟨RX8, TX8, 37, rfl, by decide, inX8, inT3 (i := 176) rfl rfl⟩
theorem pf_X8_68 : pfl RX8 68 8 26 (.array .int) true := ⟨RX8, TX8, 37, tyX8, rfl, by decide, inX8, inT3 (i := 176) rfl rfl, tyX8_ok, nmX8, rfl, rfl, rfl⟩
theorem gf_X8_71 : gfl RX8 71 8 27 := ⟨RX8, TX8, 37, rfl, by decide, inX8, inT3 (i := 177) rfl rfl⟩
theorem pf_X8_71 : pfl RX8 71 8 27 (.array .int) true := ⟨RX8, TX8, 37, tyX8, rfl, by decide, inX8, inT3 (i := 177) rfl rfl, tyX8_ok, nmX8, rfl, rfl, rfl⟩
theorem gf_X8_74 : gfl RX8 74 8 28 := ⟨RX8, TX8, 37, rfl, by decide, inX8, inT3 (i := 178) rfl rfl⟩
theorem pf_X8_74 : pfl RX8 74 8 28 (.array .int) true := ⟨RX8, TX8, 37, tyX8, rfl, by decide, inX8, inT3 (i := 178) rfl rfl, tyX8_ok, nmX8, rfl, rfl, rfl⟩
theorem gf_X8_77 : gfl RX8 77 8 29 := ⟨RX8, TX8, 37, rfl, by decide, inX8, inT3 (i := 179) rfl rfl⟩
theorem pf_X8_77 : pfl RX8 77 8 29 (.array .boolean) true := ⟨RX8, TX8, 37, tyX8, rfl, by decide, inX8, inT3 (i := 179) rfl rfl, tyX8_ok, nmX8, rfl, rfl, rfl⟩
theorem gf_X8_80 : gfl RX8 80 8 31 := ⟨RX8, TX8, 37, rfl, by decide, inX8, inT3 (i := 181) rfl rfl⟩
theorem pf_X8_80 : pfl RX8 80 8 31 (.array .int) true := ⟨RX8, TX8, 37, tyX8, rfl, by decide, inX8, inT3 (i := 181) rfl rfl, tyX8_ok, nmX8, rfl, rfl, rfl⟩
theorem gf_X8_83 : gfl RX8 83 8 32 := ⟨RX8, TX8, 37, rfl, by decide, inX8, inT3 (i := 182) rfl rfl⟩
theorem pf_X8_83 : pfl RX8 83 8 32 (.array .int) true := ⟨RX8, TX8, 37, tyX8, rfl, by decide, inX8, inT3 (i := 182) rfl rfl, tyX8_ok, nmX8, rfl, rfl, rfl⟩
theorem gf_X8_86 : gfl RX8 86 8 34 := ⟨RX8, TX8, 37, rfl, by decide, inX8, inT3 (i := 184) rfl rfl⟩
theorem pf_X8_86 : pfl RX8 86 8 34 (.array .int) true := ⟨RX8, TX8, 37, tyX8, rfl, by decide, inX8, inT3 (i := 184) rfl rfl, tyX8_ok, nmX8, rfl, rfl, rfl⟩
theorem gf_X8_89 : gfl RX8 89 8 35 := ⟨RX8, TX8, 37, rfl, by decide, inX8, inT3 (i := 185) rfl rfl⟩
theorem pf_X8_89 : pfl RX8 89 8 35 (.array .int) true := ⟨RX8, TX8, 37, tyX8, rfl, by decide, inX8, inT3 (i := 185) rfl rfl, tyX8_ok, nmX8, rfl, rfl, rfl⟩
theorem gf_X8_92 : gfl RX8 92 8 36 := ⟨RX8, TX8, 37, rfl, by decide, inX8, inT3 (i := 186) rfl rfl⟩
theorem pf_X8_92 : pfl RX8 92 8 36 (.array .int) true := ⟨RX8, TX8, 37, tyX8, rfl, by decide, inX8, inT3 (i := 186) rfl rfl, tyX8_ok, nmX8, rfl, rfl, rfl⟩
theorem gf_X8_95 : gfl RX8 95 8 0 := ⟨RX8, TX8, 37, rfl, by decide, inX8, inT3 (i := 150) rfl rfl⟩
theorem pf_X8_95 : pfl RX8 95 8 0 .int false := ⟨RX8, TX8, 37, tyX8, rfl, by decide, inX8, inT3 (i := 150) rfl rfl, tyX8_ok, nmX8, rfl, rfl, rfl⟩
theorem gf_X8_99 : gfl RX8 99 8 1 := ⟨RX8, TX8, 37, rfl, by decide, inX8, inT3 (i := 151) rfl rfl⟩
theorem pf_X8_99 : pfl RX8 99 8 1 .int false := ⟨RX8, TX8, 37, tyX8, rfl, by decide, inX8, inT3 (i := 151) rfl rfl, tyX8_ok, nmX8, rfl, rfl, rfl⟩
theorem gf_X8_118 : gfl RX8 118 8 2 := ⟨RX8, TX8, 37, rfl, by decide, inX8, inT3 (i := 152) rfl rfl⟩
theorem pf_X8_118 : pfl RX8 118 8 2 .int false := ⟨RX8, TX8, 37, tyX8, rfl, by decide, inX8, inT3 (i := 152) rfl rfl, tyX8_ok, nmX8, rfl, rfl, rfl⟩
theorem gf_X8_121 : gfl RX8 121 8 30 := ⟨RX8, TX8, 37, rfl, by decide, inX8, inT3 (i := 180) rfl rfl⟩
theorem pf_X8_121 : pfl RX8 121 8 30 .int false := ⟨RX8, TX8, 37, tyX8, rfl, by decide, inX8, inT3 (i := 180) rfl rfl, tyX8_ok, nmX8, rfl, rfl, rfl⟩
theorem gf_X8_124 : gfl RX8 124 8 33 := ⟨RX8, TX8, 37, rfl, by decide, inX8, inT3 (i := 183) rfl rfl⟩
theorem pf_X8_124 : pfl RX8 124 8 33 .int false := ⟨RX8, TX8, 37, tyX8, rfl, by decide, inX8, inT3 (i := 183) rfl rfl, tyX8_ok, nmX8, rfl, rfl, rfl⟩
theorem gf_X8_164 : gfl RX8 164 8 14 := ⟨RX8, TX8, 37, rfl, by decide, inX8, inT3 (i := 164) rfl rfl⟩
theorem pf_X8_164 : pfl RX8 164 8 14 .int false := ⟨RX8, TX8, 37, tyX8, rfl, by decide, inX8, inT3 (i := 164) rfl rfl, tyX8_ok, nmX8, rfl, rfl, rfl⟩
theorem gf_X8_182 : gfl RX8 182 8 20 := ⟨RX8, TX8, 37, rfl, by decide, inX8, inT3 (i := 170) rfl rfl⟩
theorem pf_X8_182 : pfl RX8 182 8 20 .int false := ⟨RX8, TX8, 37, tyX8, rfl, by decide, inX8, inT3 (i := 170) rfl rfl, tyX8_ok, nmX8, rfl, rfl, rfl⟩
theorem gf_X8_185 : gfl RX8 185 8 21 := ⟨RX8, TX8, 37, rfl, by decide, inX8, inT3 (i := 171) rfl rfl⟩
theorem pf_X8_185 : pfl RX8 185 8 21 .int false := ⟨RX8, TX8, 37, tyX8, rfl, by decide, inX8, inT3 (i := 171) rfl rfl, tyX8_ok, nmX8, rfl, rfl, rfl⟩
theorem gf_X8_212 : gfl RX8 212 8 24 := ⟨RX8, TX8, 37, rfl, by decide, inX8, inT3 (i := 174) rfl rfl⟩
theorem pf_X8_212 : pfl RX8 212 8 24 .int false := ⟨RX8, TX8, 37, tyX8, rfl, by decide, inX8, inT3 (i := 174) rfl rfl, tyX8_ok, nmX8, rfl, rfl, rfl⟩
