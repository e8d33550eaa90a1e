theorem ci_X0 : ev_CI 0 RX0 TX0 2 tyX0 := ⟨rfl, fun w h => ev_in ((by decide +kernel : ∀ w ∈ u_ws RX0 TX0 2, w ∈ tables_1) w h) ((by decide +kernel : ∀ w ∈ u_ws RX0 TX0 2, goodWord w = true) w h), tyX0_ok, nmX0⟩
theorem ci_X1 : ev_CI 1 RX1 TX1 12 tyX1 := ⟨rfl, fun w h => ev_in ((by decide +kernel : ∀ w ∈ u_ws RX1 TX1 12, w ∈ tables_1) w h) ((by decide +kernel : ∀ w ∈ u_ws RX1 TX1 12, goodWord w = true) w h), tyX1_ok, nmX1⟩
theorem ci_X2 : ev_CI 2 RX2 TX2 4 tyX2 := ⟨rfl, fun w h => ev_in ((by decide +kernel : ∀ w ∈ u_ws RX2 TX2 4, w ∈ tables_1) w h) ((by decide +kernel : ∀ w ∈ u_ws RX2 TX2 4, goodWord w = true) w h), tyX2_ok, nmX2⟩
theorem ci_X3 : ev_CI 3 RX3 TX3 3 tyX3 := ⟨rfl, fun w h => ev_in ((by decide +kernel : ∀ w ∈ u_ws RX3 TX3 3, w ∈ tables_1) w h) ((by decide +kernel : ∀ w ∈ u_ws RX3 TX3 3, goodWord w = true) w h), tyX3_ok, nmX3⟩
theorem ci_X4 : ev_CI 4 RX4 TX4 2 tyX4 := ⟨rfl, fun w h => ev_in ((by decide +kernel : ∀ w ∈ u_ws RX4 TX4 2, w ∈ tables_1) w h) ((by decide +kernel : ∀ w ∈ u_ws RX4 TX4 2, goodWord w = true) w h), tyX4_ok, nmX4⟩
theorem ci_X5 : ev_CI 5 RX5 TX5 18 tyX5 := ⟨rfl, fun w h => ev_in ((by decide +kernel : ∀ w ∈ u_ws RX5 TX5 18, w ∈ tables_1) w h) ((by decide +kernel : ∀ w ∈ u_ws RX5 TX5 18, goodWord w = true) w h), tyX5_ok, nmX5⟩
theorem ci_X6 : ev_CI 6 RX6 TX6 10 tyX6 := ⟨rfl, fun w h => ev_in ((by decide +kernel : ∀ w ∈ u_ws RX6 TX6 10, w ∈ tables_1) w h) ((by decide +kernel : ∀ w ∈ u_ws RX6 TX6 10, goodWord w = true) w h), tyX6_ok, nmX6⟩
theorem ci_X7 : ev_CI 7 RX7 TX7 29 tyX7 := ⟨rfl, fun w h => ev_in ((by decide +kernel : ∀ w ∈ u_ws RX7 TX7 29, w ∈ tables_1) w h) ((by decide +kernel : ∀ w ∈ u_ws RX7 TX7 29, goodWord w = true) w h), tyX7_ok, nmX7⟩
theorem fl_X5_49 : ev_FP RX5 49 5 0 (.int) := ⟨_, _, _, _, ci_X5, by decide, ev_in (List.mem_of_getElem? (i := 34) (by decide +kernel)) rfl, rfl, rfl⟩
theorem fl_X1_90 : ev_FP RX1 90 5 0 (.int) := ⟨_, _, _, _, ci_X5, by decide, ev_in (List.mem_of_getElem? (i := 35) (by decide +kernel)) rfl, rfl, rfl⟩
theorem fl_X6_95 : ev_FP RX6 95 5 0 (.int) := ⟨_, _, _, _, ci_X5, by decide, ev_in (List.mem_of_getElem? (i := 36) (by decide +kernel)) rfl, rfl, rfl⟩
theorem fl_X5_9 : ev_FF RX5 9 5 1 (.array .int) := ⟨_, _, _, _, ci_X5, by decide, ev_in (List.mem_of_getElem? (i := 37) (by decide +kernel)) rfl, rfl, rfl, rfl⟩
theorem fl_X6_231 : ev_FL RX6 231 5 1 := ⟨_, _, _, _, ci_X5, by decide, ev_in (List.mem_of_getElem? (i := 38) (by decide +kernel)) rfl⟩
theorem fl_X5_15 : ev_FF RX5 15 5 2 (.array .int) := ⟨_, _, _, _, ci_X5, by decide, ev_in (List.mem_of_getElem? (i := 39) (by decide +kernel)) rfl, rfl, rfl, rfl⟩
theorem fl_X6_209 : ev_FL RX6 209 5 2 := ⟨_, _, _, _, ci_X5, by decide, ev_in (List.mem_of_getElem? (i := 40) (by decide +kernel)) rfl⟩
theorem fl_X5_18 : ev_FF RX5 18 5 3 (.array .int) := ⟨_, _, _, _, ci_X5, by decide, ev_in (List.mem_of_getElem? (i := 41) (by decide +kernel)) rfl, rfl, rfl, rfl⟩
theorem fl_X6_238 : ev_FL RX6 238 5 3 := ⟨_, _, _, _, ci_X5, by decide, ev_in (List.mem_of_getElem? (i := 42) (by decide +kernel)) rfl⟩
theorem fl_X5_21 : ev_FF RX5 21 5 4 (.array .int) := ⟨_, _, _, _, ci_X5, by decide, ev_in (List.mem_of_getElem? (i := 43) (by decide +kernel)) rfl, rfl, rfl, rfl⟩
theorem fl_X6_206 : ev_FL RX6 206 5 4 := ⟨_, _, _, _, ci_X5, by decide, ev_in (List.mem_of_getElem? (i := 44) (by decide +kernel)) rfl⟩
theorem fl_X5_55 : ev_FP RX5 55 5 5 (.int) := ⟨_, _, _, _, ci_X5, by decide, ev_in (List.mem_of_getElem? (i := 45) (by decide +kernel)) rfl, rfl, rfl⟩
theorem fl_X6_113 : ev_FP RX6 113 5 5 (.int) := ⟨_, _, _, _, ci_X5, by decide, ev_in (List.mem_of_getElem? (i := 46) (by decide +kernel)) rfl, rfl, rfl⟩
theorem fl_X5_52 : ev_FP RX5 52 5 6 (.int) := ⟨_, _, _, _, ci_X5, by decide, ev_in (List.mem_of_getElem? (i := 47) (by decide +kernel)) rfl, rfl, rfl⟩
theorem fl_X1_93 : ev_FP RX1 93 5 6 (.int) := ⟨_, _, _, _, ci_X5, by decide, ev_in (List.mem_of_getElem? (i := 48) (by decide +kernel)) rfl, rfl, rfl⟩
theorem fl_X6_98 : ev_FP RX6 98 5 6 (.int) := ⟨_, _, _, _, ci_X5, by decide, ev_in (List.mem_of_getElem? (i := 49) (by decide +kernel)) rfl, rfl, rfl⟩
theorem fl_X5_24 : ev_FF RX5 24 5 7 (.array .int) := ⟨_, _, _, _, ci_X5, by decide, ev_in (List.mem_of_getElem? (i := 50) (by decide +kernel)) rfl, rfl, rfl, rfl⟩
theorem fl_X6_139 : ev_FL RX6 139 5 7 := ⟨_, _, _, _, ci_X5, by decide, ev_in (List.mem_of_getElem? (i := 51) (by decide +kernel)) rfl⟩
theorem fl_X5_27 : ev_FF RX5 27 5 8 (.array .int) := ⟨_, _, _, _, ci_X5, by decide, ev_in (List.mem_of_getElem? (i := 52) (by decide +kernel)) rfl, rfl, rfl, rfl⟩
theorem fl_X6_143 : ev_FL RX6 143 5 8 := ⟨_, _, _, _, ci_X5, by decide, ev_in (List.mem_of_getElem? (i := 53) (by decide +kernel)) rfl⟩
theorem fl_X5_30 : ev_FF RX5 30 5 9 (.array .int) := ⟨_, _, _, _, ci_X5, by decide, ev_in (List.mem_of_getElem? (i := 54) (by decide +kernel)) rfl, rfl, rfl, rfl⟩
theorem fl_X6_146 : ev_FL RX6 146 5 9 := ⟨_, _, _, _, ci_X5, by decide, ev_in (List.mem_of_getElem? (i := 55) (by decide +kernel)) rfl⟩
theorem fl_X5_33 : ev_FF RX5 33 5 10 (.array .int) := ⟨_, _, _, _, ci_X5, by decide, ev_in (List.mem_of_getElem? (i := 56) (by decide +kernel)) rfl, rfl, rfl, rfl⟩
theorem fl_X6_149 : ev_FL RX6 149 5 10 := ⟨_, _, _, _, ci_X5, by decide, ev_in (List.mem_of_getElem? (i := 57) (by decide +kernel)) rfl⟩
theorem fl_X5_58 : ev_FP RX5 58 5 11 (.int) := ⟨_, _, _, _, ci_X5, by decide, ev_in (List.mem_of_getElem? (i := 58) (by decide +kernel)) rfl, rfl, rfl⟩
theorem fl_X6_116 : ev_FP RX6 116 5 11 (.int) := ⟨_, _, _, _, ci_X5, by decide, ev_in (List.mem_of_getElem? (i := 59) (by decide +kernel)) rfl, rfl, rfl⟩
theorem fl_X5_61 : ev_FP RX5 61 5 12 (.int) := ⟨_, _, _, _, ci_X5, by decide, ev_in (List.mem_of_getElem? (i := 60) (by decide +kernel)) rfl, rfl, rfl⟩
theorem fl_X6_119 : ev_FP RX6 119 5 12 (.int) := ⟨_, _, _, _, ci_X5, by decide, ev_in (List.mem_of_getElem? (i := 61) (by decide +kernel)) rfl, rfl, rfl⟩
theorem fl_X5_36 : ev_FF RX5 36 5 13 (.array .int) := ⟨_, _, _, _, ci_X5, by decide, ev_in (List.mem_of_getElem? (i := 62) (by decide +kernel)) rfl, rfl, rfl, rfl⟩
theorem fl_X1_132 : ev_FL RX1 132 5 13 := ⟨_, _, _, _, ci_X5, by decide, ev_in (List.mem_of_getElem? (i := 63) (by decide +kernel)) rfl⟩
theorem fl_X6_164 : ev_FL RX6 164 5 13 := ⟨_, _, _, _, ci_X5, by decide, ev_in (List.mem_of_getElem? (i := 64) (by decide +kernel)) rfl⟩
theorem fl_X5_45 : ev_FP RX5 45 5 14 (.int) := ⟨_, _, _, _, ci_X5, by decide, ev_in (List.mem_of_getElem? (i := 65) (by decide +kernel)) rfl, rfl, rfl⟩
theorem fl_X0_28 : ev_FP RX0 28 5 14 (.int) := ⟨_, _, _, _, ci_X5, by decide, ev_in (List.mem_of_getElem? (i := 66) (by decide +kernel)) rfl, rfl, rfl⟩
theorem fl_X6_110 : ev_FP RX6 110 5 14 (.int) := ⟨_, _, _, _, ci_X5, by decide, ev_in (List.mem_of_getElem? (i := 67) (by decide +kernel)) rfl, rfl, rfl⟩
theorem fl_X1_135 : ev_FP RX1 135 5 14 (.int) := ⟨_, _, _, _, ci_X5, by decide, ev_in (List.mem_of_getElem? (i := 68) (by decide +kernel)) rfl, rfl, rfl⟩
theorem fl_X5_64 : ev_FP RX5 64 5 15 (.int) := ⟨_, _, _, _, ci_X5, by decide, ev_in (List.mem_of_getElem? (i := 69) (by decide +kernel)) rfl, rfl, rfl⟩
theorem fl_X6_104 : ev_FP RX6 104 5 15 (.int) := ⟨_, _, _, _, ci_X5, by decide, ev_in (List.mem_of_getElem? (i := 70) (by decide +kernel)) rfl, rfl, rfl⟩
theorem fl_X1_138 : ev_FP RX1 138 5 15 (.int) := ⟨_, _, _, _, ci_X5, by decide, ev_in (List.mem_of_getElem? (i := 71) (by decide +kernel)) rfl, rfl, rfl⟩
theorem fl_X5_67 : ev_FP RX5 67 5 16 (.int) := ⟨_, _, _, _, ci_X5, by decide, ev_in (List.mem_of_getElem? (i := 72) (by decide +kernel)) rfl, rfl, rfl⟩
theorem fl_X6_101 : ev_FP RX6 101 5 16 (.int) := ⟨_, _, _, _, ci_X5, by decide, ev_in (List.mem_of_getElem? (i := 73) (by decide +kernel)) rfl, rfl, rfl⟩
theorem fl_X5_70 : ev_FP RX5 70 5 17 (.int) := ⟨_, _, _, _, ci_X5, by decide, ev_in (List.mem_of_getElem? (i := 74) (by decide +kernel)) rfl, rfl, rfl⟩
theorem fl_X0_19 : ev_FP RX0 19 5 17 (.int) := ⟨_, _, _, _, ci_X5, by decide, ev_in (List.mem_of_getElem? (i := 75) (by decide +kernel)) rfl, rfl, rfl⟩
theorem fl_X6_107 : ev_FP RX6 107 5 17 (.int) := ⟨_, _, _, _, ci_X5, by decide, ev_in (List.mem_of_getElem? (i := 76) (by decide +kernel)) rfl, rfl, rfl⟩
theorem fl_X4_9 : ev_FF RX4 9 4 0 (.array .byte) := ⟨_, _, _, _, ci_X4, by decide, ev_in (List.mem_of_getElem? (i := 128) (by decide +kernel)) rfl, rfl, rfl, rfl⟩
theorem fl_X1_145 : ev_FL RX1 145 4 0 := ⟨_, _, _, _, ci_X4, by decide, ev_in (List.mem_of_getElem? (i := 129) (by decide +kernel)) rfl⟩
theorem fl_X4_13 : ev_FP RX4 13 4 1 (.int) := ⟨_, _, _, _, ci_X4, by decide, ev_in (List.mem_of_getElem? (i := 130) (by decide +kernel)) rfl, rfl, rfl⟩
theorem fl_X6_65 : ev_FP RX6 65 4 1 (.int) := ⟨_, _, _, _, ci_X4, by decide, ev_in (List.mem_of_getElem? (i := 131) (by decide +kernel)) rfl, rfl, rfl⟩
theorem fl_X1_52 : ev_FP RX1 52 4 1 (.int) := ⟨_, _, _, _, ci_X4, by decide, ev_in (List.mem_of_getElem? (i := 132) (by decide +kernel)) rfl, rfl, rfl⟩
theorem fl_X1_12 : ev_FF RX1 12 1 0 (.object "ArkTerrace$Tape") := ⟨_, _, _, _, ci_X1, by decide, ev_in (List.mem_of_getElem? (i := 141) (by decide +kernel)) rfl, rfl, rfl, rfl⟩
theorem fl_X6_55 : ev_FL RX6 55 1 0 := ⟨_, _, _, _, ci_X1, by decide, ev_in (List.mem_of_getElem? (i := 142) (by decide +kernel)) rfl⟩
theorem fl_X1_21 : ev_FF RX1 21 1 1 (.object "ArkTerrace$Terrace") := ⟨_, _, _, _, ci_X1, by decide, ev_in (List.mem_of_getElem? (i := 143) (by decide +kernel)) rfl, rfl, rfl, rfl⟩
theorem fl_X6_82 : ev_FL RX6 82 1 1 := ⟨_, _, _, _, ci_X1, by decide, ev_in (List.mem_of_getElem? (i := 144) (by decide +kernel)) rfl⟩
theorem fl_X1_25 : ev_FF RX1 25 1 2 (.array .int) := ⟨_, _, _, _, ci_X1, by decide, ev_in (List.mem_of_getElem? (i := 145) (by decide +kernel)) rfl, rfl, rfl, rfl⟩
theorem fl_X1_32 : ev_FP RX1 32 1 3 (.int) := ⟨_, _, _, _, ci_X1, by decide, ev_in (List.mem_of_getElem? (i := 146) (by decide +kernel)) rfl, rfl, rfl⟩
theorem fl_X1_59 : ev_FP RX1 59 1 4 (.int) := ⟨_, _, _, _, ci_X1, by decide, ev_in (List.mem_of_getElem? (i := 147) (by decide +kernel)) rfl, rfl, rfl⟩
theorem fl_X1_76 : ev_FP RX1 76 1 5 (.int) := ⟨_, _, _, _, ci_X1, by decide, ev_in (List.mem_of_getElem? (i := 148) (by decide +kernel)) rfl, rfl, rfl⟩
theorem fl_X1_106 : ev_FP RX1 106 1 6 (.int) := ⟨_, _, _, _, ci_X1, by decide, ev_in (List.mem_of_getElem? (i := 149) (by decide +kernel)) rfl, rfl, rfl⟩
theorem fl_X1_36 : ev_FP RX1 36 1 7 (.boolean) := ⟨_, _, _, _, ci_X1, by decide, ev_in (List.mem_of_getElem? (i := 150) (by decide +kernel)) rfl, rfl, rfl⟩
theorem fl_X1_40 : ev_FP RX1 40 1 8 (.boolean) := ⟨_, _, _, _, ci_X1, by decide, ev_in (List.mem_of_getElem? (i := 151) (by decide +kernel)) rfl, rfl, rfl⟩
theorem fl_X1_43 : ev_FP RX1 43 1 9 (.int) := ⟨_, _, _, _, ci_X1, by decide, ev_in (List.mem_of_getElem? (i := 152) (by decide +kernel)) rfl, rfl, rfl⟩
theorem fl_X1_46 : ev_FP RX1 46 1 10 (.int) := ⟨_, _, _, _, ci_X1, by decide, ev_in (List.mem_of_getElem? (i := 153) (by decide +kernel)) rfl, rfl, rfl⟩
theorem fl_X6_73 : ev_FP RX6 73 1 10 (.int) := ⟨_, _, _, _, ci_X1, by decide, ev_in (List.mem_of_getElem? (i := 154) (by decide +kernel)) rfl, rfl, rfl⟩
theorem fl_X1_49 : ev_FP RX1 49 1 11 (.int) := ⟨_, _, _, _, ci_X1, by decide, ev_in (List.mem_of_getElem? (i := 155) (by decide +kernel)) rfl, rfl, rfl⟩
theorem fl_X6_79 : ev_FP RX6 79 1 11 (.int) := ⟨_, _, _, _, ci_X1, by decide, ev_in (List.mem_of_getElem? (i := 156) (by decide +kernel)) rfl, rfl, rfl⟩
theorem fl_X3_9 : ev_FF RX3 9 3 0 (.array .int) := ⟨_, _, _, _, ci_X3, by decide, ev_in (List.mem_of_getElem? (i := 188) (by decide +kernel)) rfl, rfl, rfl, rfl⟩
theorem fl_X3_15 : ev_FF RX3 15 3 1 (.array .int) := ⟨_, _, _, _, ci_X3, by decide, ev_in (List.mem_of_getElem? (i := 189) (by decide +kernel)) rfl, rfl, rfl, rfl⟩
theorem fl_X3_18 : ev_FP RX3 18 3 2 (.int) := ⟨_, _, _, _, ci_X3, by decide, ev_in (List.mem_of_getElem? (i := 190) (by decide +kernel)) rfl, rfl, rfl⟩
theorem fl_X6_89 : ev_FP RX6 89 3 2 (.int) := ⟨_, _, _, _, ci_X3, by decide, ev_in (List.mem_of_getElem? (i := 191) (by decide +kernel)) rfl, rfl, rfl⟩
theorem fl_X0_11 : ev_FF RX0 11 0 0 (.array .int) := ⟨_, _, _, _, ci_X0, by decide, ev_in (List.mem_of_getElem? (i := 205) (by decide +kernel)) rfl, rfl, rfl, rfl⟩
theorem fl_X0_15 : ev_FP RX0 15 0 1 (.int) := ⟨_, _, _, _, ci_X0, by decide, ev_in (List.mem_of_getElem? (i := 206) (by decide +kernel)) rfl, rfl, rfl⟩
theorem fl_X3_28 : ev_FP RX3 28 0 1 (.int) := ⟨_, _, _, _, ci_X0, by decide, ev_in (List.mem_of_getElem? (i := 207) (by decide +kernel)) rfl, rfl, rfl⟩
theorem fl_X2_9 : ev_FF RX2 9 2 0 (.array .int) := ⟨_, _, _, _, ci_X2, by decide, ev_in (List.mem_of_getElem? (i := 220) (by decide +kernel)) rfl, rfl, rfl, rfl⟩
theorem fl_X6_315 : ev_FL RX6 315 2 0 := ⟨_, _, _, _, ci_X2, by decide, ev_in (List.mem_of_getElem? (i := 221) (by decide +kernel)) rfl⟩
theorem fl_X2_15 : ev_FP RX2 15 2 1 (.boolean) := ⟨_, _, _, _, ci_X2, by decide, ev_in (List.mem_of_getElem? (i := 222) (by decide +kernel)) rfl, rfl, rfl⟩
theorem fl_X6_324 : ev_FP RX6 324 2 1 (.boolean) := ⟨_, _, _, _, ci_X2, by decide, ev_in (List.mem_of_getElem? (i := 223) (by decide +kernel)) rfl, rfl, rfl⟩
theorem fl_X2_19 : ev_FP RX2 19 2 2 (.int) := ⟨_, _, _, _, ci_X2, by decide, ev_in (List.mem_of_getElem? (i := 224) (by decide +kernel)) rfl, rfl, rfl⟩
theorem fl_X6_309 : ev_FP RX6 309 2 2 (.int) := ⟨_, _, _, _, ci_X2, by decide, ev_in (List.mem_of_getElem? (i := 225) (by decide +kernel)) rfl, rfl, rfl⟩
theorem fl_X2_23 : ev_FP RX2 23 2 3 (.int) := ⟨_, _, _, _, ci_X2, by decide, ev_in (List.mem_of_getElem? (i := 226) (by decide +kernel)) rfl, rfl, rfl⟩
theorem fl_X6_328 : ev_FP RX6 328 2 3 (.int) := ⟨_, _, _, _, ci_X2, by decide, ev_in (List.mem_of_getElem? (i := 227) (by decide +kernel)) rfl, rfl, rfl⟩
theorem fl_X6_10 : ev_FF RX6 10 6 0 (.object "ArkTerrace$Terrace") := ⟨_, _, _, _, ci_X6, by decide, ev_in (List.mem_of_getElem? (i := 237) (by decide +kernel)) rfl, rfl, rfl, rfl⟩
theorem fl_X6_16 : ev_FF RX6 16 6 1 (.object "ArkTerrace$Terrace") := ⟨_, _, _, _, ci_X6, by decide, ev_in (List.mem_of_getElem? (i := 238) (by decide +kernel)) rfl, rfl, rfl, rfl⟩
theorem fl_X6_19 : ev_FF RX6 19 6 2 (.array (.object "ArkTerrace$Terrace")) := ⟨_, _, _, _, ci_X6, by decide, ev_in (List.mem_of_getElem? (i := 239) (by decide +kernel)) rfl, rfl, rfl, rfl⟩
theorem fl_X6_92 : ev_FP RX6 92 6 3 (.int) := ⟨_, _, _, _, ci_X6, by decide, ev_in (List.mem_of_getElem? (i := 240) (by decide +kernel)) rfl, rfl, rfl⟩
theorem fl_X6_26 : ev_FF RX6 26 6 4 (.object "ArkTerrace$Reader") := ⟨_, _, _, _, ci_X6, by decide, ev_in (List.mem_of_getElem? (i := 241) (by decide +kernel)) rfl, rfl, rfl, rfl⟩
theorem fl_X6_76 : ev_FP RX6 76 6 5 (.int) := ⟨_, _, _, _, ci_X6, by decide, ev_in (List.mem_of_getElem? (i := 242) (by decide +kernel)) rfl, rfl, rfl⟩
theorem fl_X6_33 : ev_FF RX6 33 6 6 (.object "ArkTerrace$Sightings") := ⟨_, _, _, _, ci_X6, by decide, ev_in (List.mem_of_getElem? (i := 243) (by decide +kernel)) rfl, rfl, rfl, rfl⟩
theorem fl_X6_40 : ev_FF RX6 40 6 7 (.object "ArkTerrace$Futures") := ⟨_, _, _, _, ci_X6, by decide, ev_in (List.mem_of_getElem? (i := 244) (by decide +kernel)) rfl, rfl, rfl, rfl⟩
theorem fl_X6_46 : ev_FF RX6 46 6 8 (.array (.object "ArkTerrace$Sheet")) := ⟨_, _, _, _, ci_X6, by decide, ev_in (List.mem_of_getElem? (i := 245) (by decide +kernel)) rfl, rfl, rfl, rfl⟩
theorem fl_X6_321 : ev_FP RX6 321 6 9 (.int) := ⟨_, _, _, _, ci_X6, by decide, ev_in (List.mem_of_getElem? (i := 246) (by decide +kernel)) rfl, rfl, rfl⟩
theorem fl_J0_38 : Cond.fieldLink RJ0 38 "java/lang/String" "COMPACT_STRINGS" "Z" ∈ ev_tbl := ev_in (List.mem_of_getElem? (i := 349) (by decide +kernel)) rfl
theorem fl_J0_1053 : Cond.fieldLink RJ0 1053 "jdk/internal/util/Preconditions" "SIOOBE_FORMATTER" "Ljava/util/function/BiFunction;" ∈ ev_tbl := ev_in (List.mem_of_getElem? (i := 365) (by decide +kernel)) rfl
theorem fl_J2_44 : Cond.fieldLink RJ2 44 "java/lang/StringUTF16" "$assertionsDisabled" "Z" ∈ ev_tbl := ev_in (List.mem_of_getElem? (i := 383) (by decide +kernel)) rfl
theorem fl_J2_59 : Cond.fieldLink RJ2 59 "java/lang/StringUTF16" "HI_BYTE_SHIFT" "I" ∈ ev_tbl := ev_in (List.mem_of_getElem? (i := 385) (by decide +kernel)) rfl
theorem fl_J2_63 : Cond.fieldLink RJ2 63 "java/lang/StringUTF16" "LO_BYTE_SHIFT" "I" ∈ ev_tbl := ev_in (List.mem_of_getElem? (i := 387) (by decide +kernel)) rfl
theorem fl_X1_96 : Cond.fieldLink RX1 96 "ArkTerrace$Reader" "THING_LINE_LEAST" "[I" ∈ ev_tbl := ev_in (List.mem_of_getElem? (i := 397) (by decide +kernel)) rfl
theorem fl_X1_99 : Cond.fieldLink RX1 99 "ArkTerrace$Reader" "HOUSE_LEAST" "[I" ∈ ev_tbl := ev_in (List.mem_of_getElem? (i := 399) (by decide +kernel)) rfl
theorem fl_X1_113 : Cond.fieldLink RX1 113 "ArkTerrace$Reader" "HOUSE_LINE_MOST" "[I" ∈ ev_tbl := ev_in (List.mem_of_getElem? (i := 404) (by decide +kernel)) rfl
theorem fl_X1_116 : Cond.fieldLink RX1 116 "ArkTerrace$Reader" "RISE_LINE_MOST" "[I" ∈ ev_tbl := ev_in (List.mem_of_getElem? (i := 406) (by decide +kernel)) rfl
theorem fl_X1_119 : Cond.fieldLink RX1 119 "ArkTerrace$Reader" "WIND_LINE_MOST" "[I" ∈ ev_tbl := ev_in (List.mem_of_getElem? (i := 408) (by decide +kernel)) rfl
theorem fl_X1_122 : Cond.fieldLink RX1 122 "ArkTerrace$Reader" "LEVEL_LINE_MOST" "[I" ∈ ev_tbl := ev_in (List.mem_of_getElem? (i := 410) (by decide +kernel)) rfl
theorem fl_X1_125 : Cond.fieldLink RX1 125 "ArkTerrace$Reader" "THING_LINE_MOST" "[I" ∈ ev_tbl := ev_in (List.mem_of_getElem? (i := 412) (by decide +kernel)) rfl
theorem fl_X6_167 : Cond.fieldLink RX6 167 "ArkTerrace" "HOUSE_MOST" "[I" ∈ ev_tbl := ev_in (List.mem_of_getElem? (i := 513) (by decide +kernel)) rfl
theorem fl_X6_174 : Cond.fieldLink RX6 174 "ArkTerrace" "THING_LEAST" "[I" ∈ ev_tbl := ev_in (List.mem_of_getElem? (i := 522) (by decide +kernel)) rfl
theorem fl_X6_177 : Cond.fieldLink RX6 177 "ArkTerrace" "THING_MOST" "[I" ∈ ev_tbl := ev_in (List.mem_of_getElem? (i := 524) (by decide +kernel)) rfl
theorem fl_X7_7 : ev_FF RX7 7 7 0 (.array .int) := ⟨_, _, _, _, ci_X7, by decide, ev_in (List.mem_of_getElem? (i := 849) (by decide +kernel)) rfl, rfl, rfl, rfl⟩
theorem fl_X7_136 : ev_FP RX7 136 7 1 (.int) := ⟨_, _, _, _, ci_X7, by decide, ev_in (List.mem_of_getElem? (i := 850) (by decide +kernel)) rfl, rfl, rfl⟩
theorem fl_X7_139 : ev_FP RX7 139 7 2 (.int) := ⟨_, _, _, _, ci_X7, by decide, ev_in (List.mem_of_getElem? (i := 851) (by decide +kernel)) rfl, rfl, rfl⟩
theorem fl_X7_13 : ev_FF RX7 13 7 3 (.array .int) := ⟨_, _, _, _, ci_X7, by decide, ev_in (List.mem_of_getElem? (i := 852) (by decide +kernel)) rfl, rfl, rfl, rfl⟩
theorem fl_X7_101 : ev_FP RX7 101 7 4 (.int) := ⟨_, _, _, _, ci_X7, by decide, ev_in (List.mem_of_getElem? (i := 853) (by decide +kernel)) rfl, rfl, rfl⟩
theorem fl_X7_98 : ev_FP RX7 98 7 5 (.int) := ⟨_, _, _, _, ci_X7, by decide, ev_in (List.mem_of_getElem? (i := 854) (by decide +kernel)) rfl, rfl, rfl⟩
theorem fl_X7_124 : ev_FP RX7 124 7 6 (.int) := ⟨_, _, _, _, ci_X7, by decide, ev_in (List.mem_of_getElem? (i := 855) (by decide +kernel)) rfl, rfl, rfl⟩
theorem fl_X7_106 : ev_FP RX7 106 7 7 (.int) := ⟨_, _, _, _, ci_X7, by decide, ev_in (List.mem_of_getElem? (i := 856) (by decide +kernel)) rfl, rfl, rfl⟩
theorem fl_X7_95 : ev_FP RX7 95 7 8 (.int) := ⟨_, _, _, _, ci_X7, by decide, ev_in (List.mem_of_getElem? (i := 857) (by decide +kernel)) rfl, rfl, rfl⟩
theorem fl_X7_16 : ev_FF RX7 16 7 9 (.array .int) := ⟨_, _, _, _, ci_X7, by decide, ev_in (List.mem_of_getElem? (i := 858) (by decide +kernel)) rfl, rfl, rfl, rfl⟩
theorem fl_X7_50 : ev_FP RX7 50 7 10 (.int) := ⟨_, _, _, _, ci_X7, by decide, ev_in (List.mem_of_getElem? (i := 859) (by decide +kernel)) rfl, rfl, rfl⟩
theorem fl_X7_133 : ev_FP RX7 133 7 11 (.int) := ⟨_, _, _, _, ci_X7, by decide, ev_in (List.mem_of_getElem? (i := 860) (by decide +kernel)) rfl, rfl, rfl⟩
theorem fl_X7_54 : ev_FP RX7 54 7 12 (.int) := ⟨_, _, _, _, ci_X7, by decide, ev_in (List.mem_of_getElem? (i := 861) (by decide +kernel)) rfl, rfl, rfl⟩
theorem fl_X7_60 : ev_FP RX7 60 7 13 (.int) := ⟨_, _, _, _, ci_X7, by decide, ev_in (List.mem_of_getElem? (i := 862) (by decide +kernel)) rfl, rfl, rfl⟩
theorem fl_X7_66 : ev_FP RX7 66 7 14 (.int) := ⟨_, _, _, _, ci_X7, by decide, ev_in (List.mem_of_getElem? (i := 863) (by decide +kernel)) rfl, rfl, rfl⟩
theorem fl_X7_57 : ev_FP RX7 57 7 15 (.int) := ⟨_, _, _, _, ci_X7, by decide, ev_in (List.mem_of_getElem? (i := 864) (by decide +kernel)) rfl, rfl, rfl⟩
theorem fl_X7_63 : ev_FP RX7 63 7 16 (.int) := ⟨_, _, _, _, ci_X7, by decide, ev_in (List.mem_of_getElem? (i := 865) (by decide +kernel)) rfl, rfl, rfl⟩
theorem fl_X7_73 : ev_FP RX7 73 7 17 (.int) := ⟨_, _, _, _, ci_X7, by decide, ev_in (List.mem_of_getElem? (i := 866) (by decide +kernel)) rfl, rfl, rfl⟩
theorem fl_X7_19 : ev_FF RX7 19 7 18 (.array .int) := ⟨_, _, _, _, ci_X7, by decide, ev_in (List.mem_of_getElem? (i := 867) (by decide +kernel)) rfl, rfl, rfl, rfl⟩
theorem fl_X7_22 : ev_FF RX7 22 7 19 (.array .int) := ⟨_, _, _, _, ci_X7, by decide, ev_in (List.mem_of_getElem? (i := 868) (by decide +kernel)) rfl, rfl, rfl, rfl⟩
theorem fl_X7_203 : ev_FP RX7 203 7 20 (.int) := ⟨_, _, _, _, ci_X7, by decide, ev_in (List.mem_of_getElem? (i := 869) (by decide +kernel)) rfl, rfl, rfl⟩
theorem fl_X7_25 : ev_FF RX7 25 7 21 (.array .int) := ⟨_, _, _, _, ci_X7, by decide, ev_in (List.mem_of_getElem? (i := 870) (by decide +kernel)) rfl, rfl, rfl, rfl⟩
theorem fl_X7_142 : ev_FP RX7 142 7 22 (.int) := ⟨_, _, _, _, ci_X7, by decide, ev_in (List.mem_of_getElem? (i := 871) (by decide +kernel)) rfl, rfl, rfl⟩
theorem fl_X7_28 : ev_FF RX7 28 7 23 (.array .int) := ⟨_, _, _, _, ci_X7, by decide, ev_in (List.mem_of_getElem? (i := 872) (by decide +kernel)) rfl, rfl, rfl, rfl⟩
theorem fl_X7_31 : ev_FF RX7 31 7 24 (.array .boolean) := ⟨_, _, _, _, ci_X7, by decide, ev_in (List.mem_of_getElem? (i := 873) (by decide +kernel)) rfl, rfl, rfl, rfl⟩
theorem fl_X7_35 : ev_FF RX7 35 7 25 (.array .int) := ⟨_, _, _, _, ci_X7, by decide, ev_in (List.mem_of_getElem? (i := 874) (by decide +kernel)) rfl, rfl, rfl, rfl⟩
theorem fl_X7_38 : ev_FF RX7 38 7 26 (.array .int) := ⟨_, _, _, _, ci_X7, by decide, ev_in (List.mem_of_getElem? (i := 875) (by decide +kernel)) rfl, rfl, rfl, rfl⟩
theorem fl_X7_41 : ev_FF RX7 41 7 27 (.array .int) := ⟨_, _, _, _, ci_X7, by decide, ev_in (List.mem_of_getElem? (i := 876) (by decide +kernel)) rfl, rfl, rfl, rfl⟩
theorem fl_X7_241 : ev_FP RX7 241 7 28 (.int) := ⟨_, _, _, _, ci_X7, by decide, ev_in (List.mem_of_getElem? (i := 877) (by decide +kernel)) rfl, rfl, rfl⟩
theorem fl_J0_9 : Cond.fieldLink RJ0 9 "java/lang/String" "value" "[B" ∈ ev_tbl := ev_in (List.mem_of_getElem? (i := 1251) (by decide +kernel)) rfl
theorem fl_J0_15 : Cond.fieldLink RJ0 15 "java/lang/String" "coder" "B" ∈ ev_tbl := ev_in (List.mem_of_getElem? (i := 1252) (by decide +kernel)) rfl
def mX0_init : ev_M := (yX0_init, cX0_init, 1, none, 0, 1, 20, 1, 651)
theorem ok_X0_init : ev_MO mX0_init := ⟨ev_in (List.mem_of_getElem? (i := 203) (by decide +kernel)) rfl, ev_in (List.mem_of_getElem? (i := 7) (by decide +kernel)) rfl, by decide +kernel, by decide +kernel, by decide +kernel⟩
theorem mk_X0_init : ev_MI mX0_init := ⟨rfl, rfl, ev_in (List.mem_of_getElem? (i := 202) (by decide +kernel)) rfl⟩
def mX0_empty : ev_M := (yX0_empty, cX0_empty, 1, none, 0, 0, 0, 0, 0)
theorem ok_X0_empty : ev_MO mX0_empty := ⟨ev_in (List.mem_of_getElem? (i := 740) (by decide +kernel)) rfl, ev_in (List.mem_of_getElem? (i := 7) (by decide +kernel)) rfl, by decide +kernel, by decide +kernel, by decide +kernel⟩
theorem mk_X0_empty : ev_MV mX0_empty := ⟨ev_in (List.mem_of_getElem? (i := 738) (by decide +kernel)) rfl, ev_in (List.mem_of_getElem? (i := 739) (by decide +kernel)) rfl⟩
def mX0_addRow : ev_M := (yX0_addRow, cX0_addRow, 4, none, 2, 5, 114, 0, 0)
theorem ok_X0_addRow : ev_MO mX0_addRow := ⟨ev_in (List.mem_of_getElem? (i := 749) (by decide +kernel)) rfl, ev_in (List.mem_of_getElem? (i := 7) (by decide +kernel)) rfl, by decide +kernel, by decide +kernel, by decide +kernel⟩
theorem mk_X0_addRow : ev_MV mX0_addRow := ⟨ev_in (List.mem_of_getElem? (i := 747) (by decide +kernel)) rfl, ev_in (List.mem_of_getElem? (i := 748) (by decide +kernel)) rfl⟩
def mX0_sorrowOf : ev_M := (yX0_sorrowOf, cX0_sorrowOf, 3, some (.int), 2, 0, 0, 0, 0)
theorem ok_X0_sorrowOf : ev_MO mX0_sorrowOf := ⟨ev_in (List.mem_of_getElem? (i := 763) (by decide +kernel)) rfl, ev_in (List.mem_of_getElem? (i := 7) (by decide +kernel)) rfl, by decide +kernel, by decide +kernel, by decide +kernel⟩
theorem mk_X0_sorrowOf : ev_MV mX0_sorrowOf := ⟨ev_in (List.mem_of_getElem? (i := 761) (by decide +kernel)) rfl, ev_in (List.mem_of_getElem? (i := 762) (by decide +kernel)) rfl⟩
def mX0_leftAtWorst : ev_M := (yX0_leftAtWorst, cX0_leftAtWorst, 5, some (.int), 2, 2, 48, 0, 0)
theorem ok_X0_leftAtWorst : ev_MO mX0_leftAtWorst := ⟨ev_in (List.mem_of_getElem? (i := 783) (by decide +kernel)) rfl, ev_in (List.mem_of_getElem? (i := 7) (by decide +kernel)) rfl, by decide +kernel, by decide +kernel, by decide +kernel⟩
theorem mk_X0_leftAtWorst : ev_MV mX0_leftAtWorst := ⟨ev_in (List.mem_of_getElem? (i := 781) (by decide +kernel)) rfl, ev_in (List.mem_of_getElem? (i := 782) (by decide +kernel)) rfl⟩
def mX0_alikeFrom : ev_M := (yX0_alikeFrom, cX0_alikeFrom, 7, some (.int), 3, 1, 22, 0, 0)
theorem ok_X0_alikeFrom : ev_MO mX0_alikeFrom := ⟨ev_in (List.mem_of_getElem? (i := 787) (by decide +kernel)) rfl, ev_in (List.mem_of_getElem? (i := 7) (by decide +kernel)) rfl, by decide +kernel, by decide +kernel, by decide +kernel⟩
theorem mk_X0_alikeFrom : ev_MV mX0_alikeFrom := ⟨ev_in (List.mem_of_getElem? (i := 786) (by decide +kernel)) rfl, List.mem_filter.mpr ⟨List.mem_append_left _ (List.mem_of_getElem? (i := 20) (by decide +kernel)), rfl⟩⟩
def mX1_init : ev_M := (yX1_init, cX1_init, 1, none, 0, 2, 43, 13, 238)
theorem ok_X1_init : ev_MO mX1_init := ⟨ev_in (List.mem_of_getElem? (i := 120) (by decide +kernel)) rfl, ev_in (List.mem_of_getElem? (i := 4) (by decide +kernel)) rfl, by decide +kernel, by decide +kernel, by decide +kernel⟩
theorem mk_X1_init : ev_MI mX1_init := ⟨rfl, rfl, ev_in (List.mem_of_getElem? (i := 119) (by decide +kernel)) rfl⟩
def mX1_readLines : ev_M := (yX1_readLines, cX1_readLines, 2, some (.int), 0, 8, 170, 0, 0)
theorem ok_X1_readLines : ev_MO mX1_readLines := ⟨ev_in (List.mem_of_getElem? (i := 290) (by decide +kernel)) rfl, ev_in (List.mem_of_getElem? (i := 4) (by decide +kernel)) rfl, by decide +kernel, by decide +kernel, by decide +kernel⟩
theorem mk_X1_readLines : ev_MV mX1_readLines := ⟨ev_in (List.mem_of_getElem? (i := 288) (by decide +kernel)) rfl, ev_in (List.mem_of_getElem? (i := 289) (by decide +kernel)) rfl⟩
def mX1_refuse : ev_M := (yX1_refuse, cX1_refuse, 3, some (.boolean), 2, 0, 0, 0, 0)
theorem ok_X1_refuse : ev_MO mX1_refuse := ⟨ev_in (List.mem_of_getElem? (i := 317) (by decide +kernel)) rfl, ev_in (List.mem_of_getElem? (i := 4) (by decide +kernel)) rfl, by decide +kernel, by decide +kernel, by decide +kernel⟩
theorem mk_X1_refuse : ev_MV mX1_refuse := ⟨ev_in (List.mem_of_getElem? (i := 316) (by decide +kernel)) rfl, List.mem_filter.mpr ⟨List.mem_append_left _ (List.mem_of_getElem? (i := 3) (by decide +kernel)), rfl⟩⟩
def mX1_takeLine : ev_M := (yX1_takeLine, cX1_takeLine, 2, some (.boolean), 0, 7, 149, 0, 0)
theorem ok_X1_takeLine : ev_MO mX1_takeLine := ⟨ev_in (List.mem_of_getElem? (i := 321) (by decide +kernel)) rfl, ev_in (List.mem_of_getElem? (i := 4) (by decide +kernel)) rfl, by decide +kernel, by decide +kernel, by decide +kernel⟩
theorem mk_X1_takeLine : ev_MV mX1_takeLine := ⟨ev_in (List.mem_of_getElem? (i := 320) (by decide +kernel)) rfl, List.mem_filter.mpr ⟨List.mem_append_left _ (List.mem_of_getElem? (i := 4) (by decide +kernel)), rfl⟩⟩
def mX1_mayBegin : ev_M := (yX1_mayBegin, cX1_mayBegin, 2, some (.boolean), 1, 1, 22, 0, 0)
theorem ok_X1_mayBegin : ev_MO mX1_mayBegin := ⟨ev_in (List.mem_of_getElem? (i := 392) (by decide +kernel)) rfl, ev_in (List.mem_of_getElem? (i := 4) (by decide +kernel)) rfl, by decide +kernel, by decide +kernel, by decide +kernel⟩
theorem mk_X1_mayBegin : ev_MV mX1_mayBegin := ⟨ev_in (List.mem_of_getElem? (i := 391) (by decide +kernel)) rfl, List.mem_filter.mpr ⟨List.mem_append_left _ (List.mem_of_getElem? (i := 7) (by decide +kernel)), rfl⟩⟩
def mX1_takeNumbers : ev_M := (yX1_takeNumbers, cX1_takeNumbers, 5, some (.boolean), 1, 4, 83, 0, 0)
theorem ok_X1_takeNumbers : ev_MO mX1_takeNumbers := ⟨ev_in (List.mem_of_getElem? (i := 396) (by decide +kernel)) rfl, ev_in (List.mem_of_getElem? (i := 4) (by decide +kernel)) rfl, by decide +kernel, by decide +kernel, by decide +kernel⟩
theorem mk_X1_takeNumbers : ev_MV mX1_takeNumbers := ⟨ev_in (List.mem_of_getElem? (i := 395) (by decide +kernel)) rfl, List.mem_filter.mpr ⟨List.mem_append_left _ (List.mem_of_getElem? (i := 8) (by decide +kernel)), rfl⟩⟩
def mX1_mostOf : ev_M := (yX1_mostOf, cX1_mostOf, 1, some (.array .int), 1, 0, 0, 0, 0)
theorem ok_X1_mostOf : ev_MO mX1_mostOf := ⟨ev_in (List.mem_of_getElem? (i := 403) (by decide +kernel)) rfl, ev_in (List.mem_of_getElem? (i := 4) (by decide +kernel)) rfl, by decide +kernel, by decide +kernel, by decide +kernel⟩
theorem mk_X1_mostOf : Cond.static (ev_y mX1_mostOf) ∈ ev_tbl := ev_in (List.mem_of_getElem? (i := 402) (by decide +kernel)) rfl
def mX1_tellLine : ev_M := (yX1_tellLine, cX1_tellLine, 2, none, 1, 1, 24, 0, 0)
theorem ok_X1_tellLine : ev_MO mX1_tellLine := ⟨ev_in (List.mem_of_getElem? (i := 417) (by decide +kernel)) rfl, ev_in (List.mem_of_getElem? (i := 4) (by decide +kernel)) rfl, by decide +kernel, by decide +kernel, by decide +kernel⟩
theorem mk_X1_tellLine : ev_MV mX1_tellLine := ⟨ev_in (List.mem_of_getElem? (i := 416) (by decide +kernel)) rfl, List.mem_filter.mpr ⟨List.mem_append_left _ (List.mem_of_getElem? (i := 9) (by decide +kernel)), rfl⟩⟩
def mX1_takeToken : ev_M := (yX1_takeToken, cX1_takeToken, 2, some (.boolean), 0, 3, 62, 0, 0)
theorem ok_X1_takeToken : ev_MO mX1_takeToken := ⟨ev_in (List.mem_of_getElem? (i := 298) (by decide +kernel)) rfl, ev_in (List.mem_of_getElem? (i := 4) (by decide +kernel)) rfl, by decide +kernel, by decide +kernel, by decide +kernel⟩
theorem mk_X1_takeToken : ev_MV mX1_takeToken := ⟨ev_in (List.mem_of_getElem? (i := 297) (by decide +kernel)) rfl, List.mem_filter.mpr ⟨List.mem_append_left _ (List.mem_of_getElem? (i := 0) (by decide +kernel)), rfl⟩⟩
def mX1_passLetters : ev_M := (yX1_passLetters, cX1_passLetters, 1, none, 0, 2, 42, 0, 0)
theorem ok_X1_passLetters : ev_MO mX1_passLetters := ⟨ev_in (List.mem_of_getElem? (i := 306) (by decide +kernel)) rfl, ev_in (List.mem_of_getElem? (i := 4) (by decide +kernel)) rfl, by decide +kernel, by decide +kernel, by decide +kernel⟩
theorem mk_X1_passLetters : ev_MV mX1_passLetters := ⟨ev_in (List.mem_of_getElem? (i := 305) (by decide +kernel)) rfl, List.mem_filter.mpr ⟨List.mem_append_left _ (List.mem_of_getElem? (i := 1) (by decide +kernel)), rfl⟩⟩
def mX1_takeFigures : ev_M := (yX1_takeFigures, cX1_takeFigures, 1, some (.boolean), 0, 2, 42, 0, 0)
theorem ok_X1_takeFigures : ev_MO mX1_takeFigures := ⟨ev_in (List.mem_of_getElem? (i := 313) (by decide +kernel)) rfl, ev_in (List.mem_of_getElem? (i := 4) (by decide +kernel)) rfl, by decide +kernel, by decide +kernel, by decide +kernel⟩
theorem mk_X1_takeFigures : ev_MV mX1_takeFigures := ⟨ev_in (List.mem_of_getElem? (i := 312) (by decide +kernel)) rfl, List.mem_filter.mpr ⟨List.mem_append_left _ (List.mem_of_getElem? (i := 2) (by decide +kernel)), rfl⟩⟩
def mX1_isLetter : ev_M := (yX1_isLetter, cX1_isLetter, 1, some (.boolean), 1, 1, 22, 0, 0)
theorem ok_X1_isLetter : ev_MO mX1_isLetter := ⟨ev_in (List.mem_of_getElem? (i := 301) (by decide +kernel)) rfl, ev_in (List.mem_of_getElem? (i := 4) (by decide +kernel)) rfl, by decide +kernel, by decide +kernel, by decide +kernel⟩
theorem mk_X1_isLetter : Cond.static (ev_y mX1_isLetter) ∈ ev_tbl := ev_in (List.mem_of_getElem? (i := 300) (by decide +kernel)) rfl
def mX1_isFigure : ev_M := (yX1_isFigure, cX1_isFigure, 1, some (.boolean), 1, 1, 22, 0, 0)
theorem ok_X1_isFigure : ev_MO mX1_isFigure := ⟨ev_in (List.mem_of_getElem? (i := 309) (by decide +kernel)) rfl, ev_in (List.mem_of_getElem? (i := 4) (by decide +kernel)) rfl, by decide +kernel, by decide +kernel, by decide +kernel⟩
theorem mk_X1_isFigure : Cond.static (ev_y mX1_isFigure) ∈ ev_tbl := ev_in (List.mem_of_getElem? (i := 308) (by decide +kernel)) rfl
def mX1_wordHere : ev_M := (yX1_wordHere, cX1_wordHere, 2, some (.int), 0, 6, 128, 0, 0)
theorem ok_X1_wordHere : ev_MO mX1_wordHere := ⟨ev_in (List.mem_of_getElem? (i := 325) (by decide +kernel)) rfl, ev_in (List.mem_of_getElem? (i := 4) (by decide +kernel)) rfl, by decide +kernel, by decide +kernel, by decide +kernel⟩
theorem mk_X1_wordHere : ev_MV mX1_wordHere := ⟨ev_in (List.mem_of_getElem? (i := 324) (by decide +kernel)) rfl, List.mem_filter.mpr ⟨List.mem_append_left _ (List.mem_of_getElem? (i := 5) (by decide +kernel)), rfl⟩⟩
def mX1_spellingOf : ev_M := (yX1_spellingOf, cX1_spellingOf, 1, some (.object "java/lang/String"), 1, 0, 0, 0, 0)
theorem ok_X1_spellingOf : ev_MO mX1_spellingOf := ⟨ev_in (List.mem_of_getElem? (i := 328) (by decide +kernel)) rfl, ev_in (List.mem_of_getElem? (i := 4) (by decide +kernel)) rfl, by decide +kernel, by decide +kernel, by decide +kernel⟩
theorem mk_X1_spellingOf : Cond.static (ev_y mX1_spellingOf) ∈ ev_tbl := ev_in (List.mem_of_getElem? (i := 327) (by decide +kernel)) rfl
def mX1_isSpelled : ev_M := (yX1_isSpelled, cX1_isSpelled, 3, some (.boolean), 1, 5, 106, 0, 0)
theorem ok_X1_isSpelled : ev_MO mX1_isSpelled := ⟨ev_in (List.mem_of_getElem? (i := 340) (by decide +kernel)) rfl, ev_in (List.mem_of_getElem? (i := 4) (by decide +kernel)) rfl, by decide +kernel, by decide +kernel, by decide +kernel⟩
theorem mk_X1_isSpelled : ev_MV mX1_isSpelled := ⟨ev_in (List.mem_of_getElem? (i := 339) (by decide +kernel)) rfl, List.mem_filter.mpr ⟨List.mem_append_left _ (List.mem_of_getElem? (i := 6) (by decide +kernel)), rfl⟩⟩
def mX2_init : ev_M := (yX2_init, cX2_init, 1, none, 0, 1, 20, 1, 40)
theorem ok_X2_init : ev_MO mX2_init := ⟨ev_in (List.mem_of_getElem? (i := 218) (by decide +kernel)) rfl, ev_in (List.mem_of_getElem? (i := 8) (by decide +kernel)) rfl, by decide +kernel, by decide +kernel, by decide +kernel⟩
theorem mk_X2_init : ev_MI mX2_init := ⟨rfl, rfl, ev_in (List.mem_of_getElem? (i := 217) (by decide +kernel)) rfl⟩
def mX2_renew : ev_M := (yX2_renew, cX2_renew, 3, none, 2, 1, 23, 0, 0)
theorem ok_X2_renew : ev_MO mX2_renew := ⟨ev_in (List.mem_of_getElem? (i := 813) (by decide +kernel)) rfl, ev_in (List.mem_of_getElem? (i := 8) (by decide +kernel)) rfl, by decide +kernel, by decide +kernel, by decide +kernel⟩
theorem mk_X2_renew : ev_MV mX2_renew := ⟨ev_in (List.mem_of_getElem? (i := 811) (by decide +kernel)) rfl, ev_in (List.mem_of_getElem? (i := 812) (by decide +kernel)) rfl⟩
def mX2_faultAt : ev_M := (yX2_faultAt, cX2_faultAt, 3, some (.int), 2, 1, 22, 0, 0)
theorem ok_X2_faultAt : ev_MO mX2_faultAt := ⟨ev_in (List.mem_of_getElem? (i := 822) (by decide +kernel)) rfl, ev_in (List.mem_of_getElem? (i := 8) (by decide +kernel)) rfl, by decide +kernel, by decide +kernel, by decide +kernel⟩
theorem mk_X2_faultAt : ev_MV mX2_faultAt := ⟨ev_in (List.mem_of_getElem? (i := 820) (by decide +kernel)) rfl, ev_in (List.mem_of_getElem? (i := 821) (by decide +kernel)) rfl⟩
def mX2_lowestBits : ev_M := (yX2_lowestBits, cX2_lowestBits, 2, some (.int), 1, 0, 0, 0, 0)
theorem ok_X2_lowestBits : ev_MO mX2_lowestBits := ⟨ev_in (List.mem_of_getElem? (i := 827) (by decide +kernel)) rfl, ev_in (List.mem_of_getElem? (i := 8) (by decide +kernel)) rfl, by decide +kernel, by decide +kernel, by decide +kernel⟩
theorem mk_X2_lowestBits : ev_MV mX2_lowestBits := ⟨ev_in (List.mem_of_getElem? (i := 825) (by decide +kernel)) rfl, ev_in (List.mem_of_getElem? (i := 826) (by decide +kernel)) rfl⟩
def mX3_init : ev_M := (yX3_init, cX3_init, 1, none, 0, 1, 20, 2, 12)
theorem ok_X3_init : ev_MO mX3_init := ⟨ev_in (List.mem_of_getElem? (i := 186) (by decide +kernel)) rfl, ev_in (List.mem_of_getElem? (i := 6) (by decide +kernel)) rfl, by decide +kernel, by decide +kernel, by decide +kernel⟩
theorem mk_X3_init : ev_MI mX3_init := ⟨rfl, rfl, ev_in (List.mem_of_getElem? (i := 185) (by decide +kernel)) rfl⟩
def mX3_addSighting : ev_M := (yX3_addSighting, cX3_addSighting, 3, some (.boolean), 2, 0, 0, 0, 0)
theorem ok_X3_addSighting : ev_MO mX3_addSighting := ⟨ev_in (List.mem_of_getElem? (i := 728) (by decide +kernel)) rfl, ev_in (List.mem_of_getElem? (i := 6) (by decide +kernel)) rfl, by decide +kernel, by decide +kernel, by decide +kernel⟩
theorem mk_X3_addSighting : ev_MV mX3_addSighting := ⟨ev_in (List.mem_of_getElem? (i := 726) (by decide +kernel)) rfl, ev_in (List.mem_of_getElem? (i := 727) (by decide +kernel)) rfl⟩
def mX3_latestDay : ev_M := (yX3_latestDay, cX3_latestDay, 3, some (.int), 0, 1, 21, 0, 0)
theorem ok_X3_latestDay : ev_MO mX3_latestDay := ⟨ev_in (List.mem_of_getElem? (i := 744) (by decide +kernel)) rfl, ev_in (List.mem_of_getElem? (i := 6) (by decide +kernel)) rfl, by decide +kernel, by decide +kernel, by decide +kernel⟩
theorem mk_X3_latestDay : ev_MV mX3_latestDay := ⟨ev_in (List.mem_of_getElem? (i := 742) (by decide +kernel)) rfl, ev_in (List.mem_of_getElem? (i := 743) (by decide +kernel)) rfl⟩
def mX3_rowsAsSeen : ev_M := (yX3_rowsAsSeen, cX3_rowsAsSeen, 4, some (.int), 1, 2, 45, 0, 0)
theorem ok_X3_rowsAsSeen : ev_MO mX3_rowsAsSeen := ⟨ev_in (List.mem_of_getElem? (i := 755) (by decide +kernel)) rfl, ev_in (List.mem_of_getElem? (i := 6) (by decide +kernel)) rfl, by decide +kernel, by decide +kernel, by decide +kernel⟩
theorem mk_X3_rowsAsSeen : ev_MV mX3_rowsAsSeen := ⟨ev_in (List.mem_of_getElem? (i := 753) (by decide +kernel)) rfl, ev_in (List.mem_of_getElem? (i := 754) (by decide +kernel)) rfl⟩
def mX3_agreeWith : ev_M := (yX3_agreeWith, cX3_agreeWith, 4, some (.boolean), 2, 1, 22, 0, 0)
theorem ok_X3_agreeWith : ev_MO mX3_agreeWith := ⟨ev_in (List.mem_of_getElem? (i := 759) (by decide +kernel)) rfl, ev_in (List.mem_of_getElem? (i := 6) (by decide +kernel)) rfl, by decide +kernel, by decide +kernel, by decide +kernel⟩
theorem mk_X3_agreeWith : ev_MV mX3_agreeWith := ⟨ev_in (List.mem_of_getElem? (i := 758) (by decide +kernel)) rfl, List.mem_filter.mpr ⟨List.mem_append_left _ (List.mem_of_getElem? (i := 18) (by decide +kernel)), rfl⟩⟩
def mX4_init : ev_M := (yX4_init, cX4_init, 1, none, 0, 1, 20, 1, 160)
theorem ok_X4_init : ev_MO mX4_init := ⟨ev_in (List.mem_of_getElem? (i := 126) (by decide +kernel)) rfl, ev_in (List.mem_of_getElem? (i := 5) (by decide +kernel)) rfl, by decide +kernel, by decide +kernel, by decide +kernel⟩
theorem mk_X4_init : ev_MI mX4_init := ⟨rfl, rfl, ev_in (List.mem_of_getElem? (i := 125) (by decide +kernel)) rfl⟩
def mX4_addByte : ev_M := (yX4_addByte, cX4_addByte, 2, some (.boolean), 1, 0, 0, 0, 0)
theorem ok_X4_addByte : ev_MO mX4_addByte := ⟨ev_in (List.mem_of_getElem? (i := 278) (by decide +kernel)) rfl, ev_in (List.mem_of_getElem? (i := 5) (by decide +kernel)) rfl, by decide +kernel, by decide +kernel, by decide +kernel⟩
theorem mk_X4_addByte : ev_MV mX4_addByte := ⟨ev_in (List.mem_of_getElem? (i := 276) (by decide +kernel)) rfl, ev_in (List.mem_of_getElem? (i := 277) (by decide +kernel)) rfl⟩
def mX5_init : ev_M := (yX5_init, cX5_init, 1, none, 0, 1, 23, 9, 55)
theorem ok_X5_init : ev_MO mX5_init := ⟨ev_in (List.mem_of_getElem? (i := 29) (by decide +kernel)) rfl, ev_in (List.mem_of_getElem? (i := 2) (by decide +kernel)) rfl, by decide +kernel, by decide +kernel, by decide +kernel⟩
theorem mk_X5_init : ev_MI mX5_init := ⟨rfl, rfl, ev_in (List.mem_of_getElem? (i := 28) (by decide +kernel)) rfl⟩
def mX5_clear : ev_M := (yX5_clear, cX5_clear, 1, none, 0, 1, 23, 0, 0)
theorem ok_X5_clear : ev_MO mX5_clear := ⟨ev_in (List.mem_of_getElem? (i := 294) (by decide +kernel)) rfl, ev_in (List.mem_of_getElem? (i := 2) (by decide +kernel)) rfl, by decide +kernel, by decide +kernel, by decide +kernel⟩
theorem mk_X5_clear : ev_MV mX5_clear := ⟨ev_in (List.mem_of_getElem? (i := 292) (by decide +kernel)) rfl, ev_in (List.mem_of_getElem? (i := 293) (by decide +kernel)) rfl⟩
def mX5_copyFrom : ev_M := (yX5_copyFrom, cX5_copyFrom, 2, none, 1, 2, 47, 0, 0)
theorem ok_X5_copyFrom : ev_MO mX5_copyFrom := ⟨ev_in (List.mem_of_getElem? (i := 438) (by decide +kernel)) rfl, ev_in (List.mem_of_getElem? (i := 2) (by decide +kernel)) rfl, by decide +kernel, by decide +kernel, by decide +kernel⟩
theorem mk_X5_copyFrom : ev_MV mX5_copyFrom := ⟨ev_in (List.mem_of_getElem? (i := 436) (by decide +kernel)) rfl, ev_in (List.mem_of_getElem? (i := 437) (by decide +kernel)) rfl⟩
def mX5_copyRow : ev_M := (yX5_copyRow, cX5_copyRow, 2, none, 2, 1, 26, 0, 0)
theorem ok_X5_copyRow : ev_MO mX5_copyRow := ⟨ev_in (List.mem_of_getElem? (i := 441) (by decide +kernel)) rfl, ev_in (List.mem_of_getElem? (i := 2) (by decide +kernel)) rfl, by decide +kernel, by decide +kernel, by decide +kernel⟩
theorem mk_X5_copyRow : Cond.static (ev_y mX5_copyRow) ∈ ev_tbl := ev_in (List.mem_of_getElem? (i := 440) (by decide +kernel)) rfl
def mX5_addHouse : ev_M := (yX5_addHouse, cX5_addHouse, 4, none, 3, 0, 0, 0, 0)
theorem ok_X5_addHouse : ev_MO mX5_addHouse := ⟨ev_in (List.mem_of_getElem? (i := 421) (by decide +kernel)) rfl, ev_in (List.mem_of_getElem? (i := 2) (by decide +kernel)) rfl, by decide +kernel, by decide +kernel, by decide +kernel⟩
theorem mk_X5_addHouse : ev_MV mX5_addHouse := ⟨ev_in (List.mem_of_getElem? (i := 419) (by decide +kernel)) rfl, ev_in (List.mem_of_getElem? (i := 420) (by decide +kernel)) rfl⟩
def mX5_addThing : ev_M := (yX5_addThing, cX5_addThing, 5, none, 4, 0, 0, 0, 0)
theorem ok_X5_addThing : ev_MO mX5_addThing := ⟨ev_in (List.mem_of_getElem? (i := 425) (by decide +kernel)) rfl, ev_in (List.mem_of_getElem? (i := 2) (by decide +kernel)) rfl, by decide +kernel, by decide +kernel, by decide +kernel⟩
theorem mk_X5_addThing : ev_MV mX5_addThing := ⟨ev_in (List.mem_of_getElem? (i := 423) (by decide +kernel)) rfl, ev_in (List.mem_of_getElem? (i := 424) (by decide +kernel)) rfl⟩
def mX5_isHouse : ev_M := (yX5_isHouse, cX5_isHouse, 2, some (.boolean), 1, 1, 22, 0, 0)
theorem ok_X5_isHouse : ev_MO mX5_isHouse := ⟨ev_in (List.mem_of_getElem? (i := 433) (by decide +kernel)) rfl, ev_in (List.mem_of_getElem? (i := 2) (by decide +kernel)) rfl, by decide +kernel, by decide +kernel, by decide +kernel⟩
theorem mk_X5_isHouse : ev_MV mX5_isHouse := ⟨ev_in (List.mem_of_getElem? (i := 431) (by decide +kernel)) rfl, ev_in (List.mem_of_getElem? (i := 432) (by decide +kernel)) rfl⟩
def mX5_isThing : ev_M := (yX5_isThing, cX5_isThing, 2, some (.boolean), 1, 1, 22, 0, 0)
theorem ok_X5_isThing : ev_MO mX5_isThing := ⟨ev_in (List.mem_of_getElem? (i := 488) (by decide +kernel)) rfl, ev_in (List.mem_of_getElem? (i := 2) (by decide +kernel)) rfl, by decide +kernel, by decide +kernel, by decide +kernel⟩
theorem mk_X5_isThing : ev_MV mX5_isThing := ⟨ev_in (List.mem_of_getElem? (i := 486) (by decide +kernel)) rfl, ev_in (List.mem_of_getElem? (i := 487) (by decide +kernel)) rfl⟩
def mX5_hasHomes : ev_M := (yX5_hasHomes, cX5_hasHomes, 2, some (.boolean), 0, 2, 43, 0, 0)
theorem ok_X5_hasHomes : ev_MO mX5_hasHomes := ⟨ev_in (List.mem_of_getElem? (i := 429) (by decide +kernel)) rfl, ev_in (List.mem_of_getElem? (i := 2) (by decide +kernel)) rfl, by decide +kernel, by decide +kernel, by decide +kernel⟩
theorem mk_X5_hasHomes : ev_MV mX5_hasHomes := ⟨ev_in (List.mem_of_getElem? (i := 427) (by decide +kernel)) rfl, ev_in (List.mem_of_getElem? (i := 428) (by decide +kernel)) rfl⟩
def mX5_houseRow : ev_M := (yX5_houseRow, cX5_houseRow, 2, some (.array .int), 1, 0, 0, 0, 0)
theorem ok_X5_houseRow : ev_MO mX5_houseRow := ⟨ev_in (List.mem_of_getElem? (i := 480) (by decide +kernel)) rfl, ev_in (List.mem_of_getElem? (i := 2) (by decide +kernel)) rfl, by decide +kernel, by decide +kernel, by decide +kernel⟩
theorem mk_X5_houseRow : ev_MV mX5_houseRow := ⟨ev_in (List.mem_of_getElem? (i := 478) (by decide +kernel)) rfl, ev_in (List.mem_of_getElem? (i := 479) (by decide +kernel)) rfl⟩
def mX5_thingRow : ev_M := (yX5_thingRow, cX5_thingRow, 2, some (.array .int), 1, 0, 0, 0, 0)
theorem ok_X5_thingRow : ev_MO mX5_thingRow := ⟨ev_in (List.mem_of_getElem? (i := 529) (by decide +kernel)) rfl, ev_in (List.mem_of_getElem? (i := 2) (by decide +kernel)) rfl, by decide +kernel, by decide +kernel, by decide +kernel⟩
theorem mk_X5_thingRow : ev_MV mX5_thingRow := ⟨ev_in (List.mem_of_getElem? (i := 527) (by decide +kernel)) rfl, ev_in (List.mem_of_getElem? (i := 528) (by decide +kernel)) rfl⟩
def mX5_isAfloat : ev_M := (yX5_isAfloat, cX5_isAfloat, 2, some (.boolean), 1, 0, 0, 0, 0)
theorem ok_X5_isAfloat : ev_MO mX5_isAfloat := ⟨ev_in (List.mem_of_getElem? (i := 551) (by decide +kernel)) rfl, ev_in (List.mem_of_getElem? (i := 2) (by decide +kernel)) rfl, by decide +kernel, by decide +kernel, by decide +kernel⟩
theorem mk_X5_isAfloat : ev_MV mX5_isAfloat := ⟨ev_in (List.mem_of_getElem? (i := 549) (by decide +kernel)) rfl, ev_in (List.mem_of_getElem? (i := 550) (by decide +kernel)) rfl⟩
def mX5_isIn : ev_M := (yX5_isIn, cX5_isIn, 2, some (.boolean), 1, 0, 0, 0, 0)
theorem ok_X5_isIn : ev_MO mX5_isIn := ⟨ev_in (List.mem_of_getElem? (i := 468) (by decide +kernel)) rfl, ev_in (List.mem_of_getElem? (i := 2) (by decide +kernel)) rfl, by decide +kernel, by decide +kernel, by decide +kernel⟩
theorem mk_X5_isIn : ev_MV mX5_isIn := ⟨ev_in (List.mem_of_getElem? (i := 466) (by decide +kernel)) rfl, ev_in (List.mem_of_getElem? (i := 467) (by decide +kernel)) rfl⟩
def mX5_isGone : ev_M := (yX5_isGone, cX5_isGone, 2, some (.boolean), 1, 0, 0, 0, 0)
theorem ok_X5_isGone : ev_MO mX5_isGone := ⟨ev_in (List.mem_of_getElem? (i := 496) (by decide +kernel)) rfl, ev_in (List.mem_of_getElem? (i := 2) (by decide +kernel)) rfl, by decide +kernel, by decide +kernel, by decide +kernel⟩
theorem mk_X5_isGone : ev_MV mX5_isGone := ⟨ev_in (List.mem_of_getElem? (i := 494) (by decide +kernel)) rfl, ev_in (List.mem_of_getElem? (i := 495) (by decide +kernel)) rfl⟩
def mX5_whereIs : ev_M := (yX5_whereIs, cX5_whereIs, 2, some (.int), 1, 1, 21, 0, 0)
theorem ok_X5_whereIs : ev_MO mX5_whereIs := ⟨ev_in (List.mem_of_getElem? (i := 492) (by decide +kernel)) rfl, ev_in (List.mem_of_getElem? (i := 2) (by decide +kernel)) rfl, by decide +kernel, by decide +kernel, by decide +kernel⟩
theorem mk_X5_whereIs : ev_MV mX5_whereIs := ⟨ev_in (List.mem_of_getElem? (i := 490) (by decide +kernel)) rfl, ev_in (List.mem_of_getElem? (i := 491) (by decide +kernel)) rfl⟩
def mX5_fillOf : ev_M := (yX5_fillOf, cX5_fillOf, 4, some (.int), 1, 0, 0, 0, 0)
theorem ok_X5_fillOf : ev_MO mX5_fillOf := ⟨ev_in (List.mem_of_getElem? (i := 472) (by decide +kernel)) rfl, ev_in (List.mem_of_getElem? (i := 2) (by decide +kernel)) rfl, by decide +kernel, by decide +kernel, by decide +kernel⟩
theorem mk_X5_fillOf : ev_MV mX5_fillOf := ⟨ev_in (List.mem_of_getElem? (i := 470) (by decide +kernel)) rfl, ev_in (List.mem_of_getElem? (i := 471) (by decide +kernel)) rfl⟩
def mX5_costOf : ev_M := (yX5_costOf, cX5_costOf, 3, some (.int), 1, 0, 0, 0, 0)
theorem ok_X5_costOf : ev_MO mX5_costOf := ⟨ev_in (List.mem_of_getElem? (i := 501) (by decide +kernel)) rfl, ev_in (List.mem_of_getElem? (i := 2) (by decide +kernel)) rfl, by decide +kernel, by decide +kernel, by decide +kernel⟩
theorem mk_X5_costOf : ev_MV mX5_costOf := ⟨ev_in (List.mem_of_getElem? (i := 499) (by decide +kernel)) rfl, ev_in (List.mem_of_getElem? (i := 500) (by decide +kernel)) rfl⟩
def mX5_thingsOf : ev_M := (yX5_thingsOf, cX5_thingsOf, 4, some (.int), 1, 0, 0, 0, 0)
theorem ok_X5_thingsOf : ev_MO mX5_thingsOf := ⟨ev_in (List.mem_of_getElem? (i := 476) (by decide +kernel)) rfl, ev_in (List.mem_of_getElem? (i := 2) (by decide +kernel)) rfl, by decide +kernel, by decide +kernel, by decide +kernel⟩
theorem mk_X5_thingsOf : ev_MV mX5_thingsOf := ⟨ev_in (List.mem_of_getElem? (i := 474) (by decide +kernel)) rfl, ev_in (List.mem_of_getElem? (i := 475) (by decide +kernel)) rfl⟩
def mX5_fillOfSet : ev_M := (yX5_fillOfSet, cX5_fillOfSet, 4, some (.int), 1, 1, 23, 0, 0)
theorem ok_X5_fillOfSet : ev_MO mX5_fillOfSet := ⟨ev_in (List.mem_of_getElem? (i := 641) (by decide +kernel)) rfl, ev_in (List.mem_of_getElem? (i := 2) (by decide +kernel)) rfl, by decide +kernel, by decide +kernel, by decide +kernel⟩
theorem mk_X5_fillOfSet : ev_MV mX5_fillOfSet := ⟨ev_in (List.mem_of_getElem? (i := 639) (by decide +kernel)) rfl, ev_in (List.mem_of_getElem? (i := 640) (by decide +kernel)) rfl⟩
def mX5_costOfSet : ev_M := (yX5_costOfSet, cX5_costOfSet, 4, some (.int), 1, 1, 22, 0, 0)
theorem ok_X5_costOfSet : ev_MO mX5_costOfSet := ⟨ev_in (List.mem_of_getElem? (i := 645) (by decide +kernel)) rfl, ev_in (List.mem_of_getElem? (i := 2) (by decide +kernel)) rfl, by decide +kernel, by decide +kernel, by decide +kernel⟩
theorem mk_X5_costOfSet : ev_MV mX5_costOfSet := ⟨ev_in (List.mem_of_getElem? (i := 643) (by decide +kernel)) rfl, ev_in (List.mem_of_getElem? (i := 644) (by decide +kernel)) rfl⟩
def mX5_filledOf : ev_M := (yX5_filledOf, cX5_filledOf, 4, some (.int), 1, 1, 23, 0, 0)
theorem ok_X5_filledOf : ev_MO mX5_filledOf := ⟨ev_in (List.mem_of_getElem? (i := 464) (by decide +kernel)) rfl, ev_in (List.mem_of_getElem? (i := 2) (by decide +kernel)) rfl, by decide +kernel, by decide +kernel, by decide +kernel⟩
theorem mk_X5_filledOf : ev_MV mX5_filledOf := ⟨ev_in (List.mem_of_getElem? (i := 462) (by decide +kernel)) rfl, ev_in (List.mem_of_getElem? (i := 463) (by decide +kernel)) rfl⟩
def mX5_putIn : ev_M := (yX5_putIn, cX5_putIn, 4, some (.int), 1, 2, 46, 0, 0)
theorem ok_X5_putIn : ev_MO mX5_putIn := ⟨ev_in (List.mem_of_getElem? (i := 545) (by decide +kernel)) rfl, ev_in (List.mem_of_getElem? (i := 2) (by decide +kernel)) rfl, by decide +kernel, by decide +kernel, by decide +kernel⟩
theorem mk_X5_putIn : ev_MV mX5_putIn := ⟨ev_in (List.mem_of_getElem? (i := 543) (by decide +kernel)) rfl, ev_in (List.mem_of_getElem? (i := 544) (by decide +kernel)) rfl⟩
def mX5_takeOut : ev_M := (yX5_takeOut, cX5_takeOut, 3, some (.int), 1, 2, 46, 0, 0)
theorem ok_X5_takeOut : ev_MO mX5_takeOut := ⟨ev_in (List.mem_of_getElem? (i := 560) (by decide +kernel)) rfl, ev_in (List.mem_of_getElem? (i := 2) (by decide +kernel)) rfl, by decide +kernel, by decide +kernel, by decide +kernel⟩
theorem mk_X5_takeOut : ev_MV mX5_takeOut := ⟨ev_in (List.mem_of_getElem? (i := 558) (by decide +kernel)) rfl, ev_in (List.mem_of_getElem? (i := 559) (by decide +kernel)) rfl⟩
def mX5_mayChangeHomes : ev_M := (yX5_mayChangeHomes, cX5_mayChangeHomes, 3, some (.boolean), 2, 1, 21, 0, 0)
theorem ok_X5_mayChangeHomes : ev_MO mX5_mayChangeHomes := ⟨ev_in (List.mem_of_getElem? (i := 671) (by decide +kernel)) rfl, ev_in (List.mem_of_getElem? (i := 2) (by decide +kernel)) rfl, by decide +kernel, by decide +kernel, by decide +kernel⟩
theorem mk_X5_mayChangeHomes : ev_MV mX5_mayChangeHomes := ⟨ev_in (List.mem_of_getElem? (i := 669) (by decide +kernel)) rfl, ev_in (List.mem_of_getElem? (i := 670) (by decide +kernel)) rfl⟩
def mX5_changeHomes : ev_M := (yX5_changeHomes, cX5_changeHomes, 4, none, 2, 0, 0, 0, 0)
theorem ok_X5_changeHomes : ev_MO mX5_changeHomes := ⟨ev_in (List.mem_of_getElem? (i := 675) (by decide +kernel)) rfl, ev_in (List.mem_of_getElem? (i := 2) (by decide +kernel)) rfl, by decide +kernel, by decide +kernel, by decide +kernel⟩
theorem mk_X5_changeHomes : ev_MV mX5_changeHomes := ⟨ev_in (List.mem_of_getElem? (i := 673) (by decide +kernel)) rfl, ev_in (List.mem_of_getElem? (i := 674) (by decide +kernel)) rfl⟩
def mX5_riseToday : ev_M := (yX5_riseToday, cX5_riseToday, 1, some (.int), 0, 1, 22, 0, 0)
theorem ok_X5_riseToday : ev_MO mX5_riseToday := ⟨ev_in (List.mem_of_getElem? (i := 575) (by decide +kernel)) rfl, ev_in (List.mem_of_getElem? (i := 2) (by decide +kernel)) rfl, by decide +kernel, by decide +kernel, by decide +kernel⟩
theorem mk_X5_riseToday : ev_MV mX5_riseToday := ⟨ev_in (List.mem_of_getElem? (i := 573) (by decide +kernel)) rfl, ev_in (List.mem_of_getElem? (i := 574) (by decide +kernel)) rfl⟩
def mX5_passDays : ev_M := (yX5_passDays, cX5_passDays, 3, none, 1, 5, 114, 0, 0)
theorem ok_X5_passDays : ev_MO mX5_passDays := ⟨ev_in (List.mem_of_getElem? (i := 571) (by decide +kernel)) rfl, ev_in (List.mem_of_getElem? (i := 2) (by decide +kernel)) rfl, by decide +kernel, by decide +kernel, by decide +kernel⟩
theorem mk_X5_passDays : ev_MV mX5_passDays := ⟨ev_in (List.mem_of_getElem? (i := 569) (by decide +kernel)) rfl, ev_in (List.mem_of_getElem? (i := 570) (by decide +kernel)) rfl⟩
def mX5_passDay : ev_M := (yX5_passDay, cX5_passDay, 4, none, 2, 4, 91, 0, 0)
theorem ok_X5_passDay : ev_MO mX5_passDay := ⟨ev_in (List.mem_of_getElem? (i := 582) (by decide +kernel)) rfl, ev_in (List.mem_of_getElem? (i := 2) (by decide +kernel)) rfl, by decide +kernel, by decide +kernel, by decide +kernel⟩
theorem mk_X5_passDay : ev_MV mX5_passDay := ⟨ev_in (List.mem_of_getElem? (i := 580) (by decide +kernel)) rfl, ev_in (List.mem_of_getElem? (i := 581) (by decide +kernel)) rfl⟩
def mX5_passHouse : ev_M := (yX5_passHouse, cX5_passHouse, 3, none, 2, 3, 69, 0, 0)
theorem ok_X5_passHouse : ev_MO mX5_passHouse := ⟨ev_in (List.mem_of_getElem? (i := 591) (by decide +kernel)) rfl, ev_in (List.mem_of_getElem? (i := 2) (by decide +kernel)) rfl, by decide +kernel, by decide +kernel, by decide +kernel⟩
theorem mk_X5_passHouse : ev_MV mX5_passHouse := ⟨ev_in (List.mem_of_getElem? (i := 590) (by decide +kernel)) rfl, List.mem_filter.mpr ⟨List.mem_append_left _ (List.mem_of_getElem? (i := 10) (by decide +kernel)), rfl⟩⟩
def mX5_loseWhatIsOut : ev_M := (yX5_loseWhatIsOut, cX5_loseWhatIsOut, 3, none, 1, 2, 43, 0, 0)
theorem ok_X5_loseWhatIsOut : ev_MO mX5_loseWhatIsOut := ⟨ev_in (List.mem_of_getElem? (i := 595) (by decide +kernel)) rfl, ev_in (List.mem_of_getElem? (i := 2) (by decide +kernel)) rfl, by decide +kernel, by decide +kernel, by decide +kernel⟩
theorem mk_X5_loseWhatIsOut : ev_MV mX5_loseWhatIsOut := ⟨ev_in (List.mem_of_getElem? (i := 594) (by decide +kernel)) rfl, List.mem_filter.mpr ⟨List.mem_append_left _ (List.mem_of_getElem? (i := 11) (by decide +kernel)), rfl⟩⟩
def mX5_loseWhatIsOver : ev_M := (yX5_loseWhatIsOver, cX5_loseWhatIsOver, 4, none, 1, 2, 46, 0, 0)
theorem ok_X5_loseWhatIsOver : ev_MO mX5_loseWhatIsOver := ⟨ev_in (List.mem_of_getElem? (i := 604) (by decide +kernel)) rfl, ev_in (List.mem_of_getElem? (i := 2) (by decide +kernel)) rfl, by decide +kernel, by decide +kernel, by decide +kernel⟩
theorem mk_X5_loseWhatIsOver : ev_MV mX5_loseWhatIsOver := ⟨ev_in (List.mem_of_getElem? (i := 603) (by decide +kernel)) rfl, List.mem_filter.mpr ⟨List.mem_append_left _ (List.mem_of_getElem? (i := 13) (by decide +kernel)), rfl⟩⟩
def mX5_loseThing : ev_M := (yX5_loseThing, cX5_loseThing, 2, none, 1, 1, 22, 0, 0)
theorem ok_X5_loseThing : ev_MO mX5_loseThing := ⟨ev_in (List.mem_of_getElem? (i := 599) (by decide +kernel)) rfl, ev_in (List.mem_of_getElem? (i := 2) (by decide +kernel)) rfl, by decide +kernel, by decide +kernel, by decide +kernel⟩
theorem mk_X5_loseThing : ev_MV mX5_loseThing := ⟨ev_in (List.mem_of_getElem? (i := 598) (by decide +kernel)) rfl, List.mem_filter.mpr ⟨List.mem_append_left _ (List.mem_of_getElem? (i := 12) (by decide +kernel)), rfl⟩⟩
def mX6_init : ev_M := (yX6_init, cX6_init, 2, none, 0, 3, 63, 69, 1392)
theorem ok_X6_init : ev_MO mX6_init := ⟨ev_in (List.mem_of_getElem? (i := 21) (by decide +kernel)) rfl, ev_in (List.mem_of_getElem? (i := 1) (by decide +kernel)) rfl, by decide +kernel, by decide +kernel, by decide +kernel⟩
theorem mk_X6_init : ev_MI mX6_init := ⟨rfl, rfl, ev_in (List.mem_of_getElem? (i := 20) (by decide +kernel)) rfl⟩
def mX6_feed : ev_M := (yX6_feed, cX6_feed, 2, some (.int), 1, 1, 22, 0, 0)
theorem ok_X6_feed : ev_MO mX6_feed := ⟨ev_in (List.mem_of_getElem? (i := 271) (by decide +kernel)) rfl, ev_in (List.mem_of_getElem? (i := 1) (by decide +kernel)) rfl, by decide +kernel, by decide +kernel, by decide +kernel⟩
theorem mk_X6_feed : ev_MV mX6_feed := ⟨ev_in (List.mem_of_getElem? (i := 269) (by decide +kernel)) rfl, ev_in (List.mem_of_getElem? (i := 270) (by decide +kernel)) rfl⟩
def mX6_end : ev_M := (yX6_end, cX6_end, 3, some (.int), 1, 1, 22, 0, 0)
theorem ok_X6_end : ev_MO mX6_end := ⟨ev_in (List.mem_of_getElem? (i := 282) (by decide +kernel)) rfl, ev_in (List.mem_of_getElem? (i := 1) (by decide +kernel)) rfl, by decide +kernel, by decide +kernel, by decide +kernel⟩
theorem mk_X6_end : ev_MV mX6_end := ⟨ev_in (List.mem_of_getElem? (i := 280) (by decide +kernel)) rfl, ev_in (List.mem_of_getElem? (i := 281) (by decide +kernel)) rfl⟩
def mX6_text : ev_M := (yX6_text, cX6_text, 2, some (.int), 0, 9, 191, 0, 0)
theorem ok_X6_text : ev_MO mX6_text := ⟨ev_in (List.mem_of_getElem? (i := 286) (by decide +kernel)) rfl, ev_in (List.mem_of_getElem? (i := 1) (by decide +kernel)) rfl, by decide +kernel, by decide +kernel, by decide +kernel⟩
theorem mk_X6_text : ev_MV mX6_text := ⟨ev_in (List.mem_of_getElem? (i := 284) (by decide +kernel)) rfl, ev_in (List.mem_of_getElem? (i := 285) (by decide +kernel)) rfl⟩
def mX6_fault : ev_M := (yX6_fault, cX6_fault, 1, some (.int), 0, 0, 0, 0, 0)
theorem ok_X6_fault : ev_MO mX6_fault := ⟨ev_in (List.mem_of_getElem? (i := 451) (by decide +kernel)) rfl, ev_in (List.mem_of_getElem? (i := 1) (by decide +kernel)) rfl, by decide +kernel, by decide +kernel, by decide +kernel⟩
theorem mk_X6_fault : ev_MV mX6_fault := ⟨ev_in (List.mem_of_getElem? (i := 449) (by decide +kernel)) rfl, ev_in (List.mem_of_getElem? (i := 450) (by decide +kernel)) rfl⟩
def mX6_rule : ev_M := (yX6_rule, cX6_rule, 2, some (.int), 1, 0, 0, 0, 0)
theorem ok_X6_rule : ev_MO mX6_rule := ⟨ev_in (List.mem_of_getElem? (i := 455) (by decide +kernel)) rfl, ev_in (List.mem_of_getElem? (i := 1) (by decide +kernel)) rfl, by decide +kernel, by decide +kernel, by decide +kernel⟩
theorem mk_X6_rule : ev_MV mX6_rule := ⟨ev_in (List.mem_of_getElem? (i := 453) (by decide +kernel)) rfl, ev_in (List.mem_of_getElem? (i := 454) (by decide +kernel)) rfl⟩
def mX6_house : ev_M := (yX6_house, cX6_house, 3, some (.int), 2, 2, 46, 0, 0)
theorem ok_X6_house : ev_MO mX6_house := ⟨ev_in (List.mem_of_getElem? (i := 459) (by decide +kernel)) rfl, ev_in (List.mem_of_getElem? (i := 1) (by decide +kernel)) rfl, by decide +kernel, by decide +kernel, by decide +kernel⟩
theorem mk_X6_house : ev_MV mX6_house := ⟨ev_in (List.mem_of_getElem? (i := 457) (by decide +kernel)) rfl, ev_in (List.mem_of_getElem? (i := 458) (by decide +kernel)) rfl⟩
def mX6_thing : ev_M := (yX6_thing, cX6_thing, 3, some (.int), 2, 2, 43, 0, 0)
theorem ok_X6_thing : ev_MO mX6_thing := ⟨ev_in (List.mem_of_getElem? (i := 484) (by decide +kernel)) rfl, ev_in (List.mem_of_getElem? (i := 1) (by decide +kernel)) rfl, by decide +kernel, by decide +kernel, by decide +kernel⟩
theorem mk_X6_thing : ev_MV mX6_thing := ⟨ev_in (List.mem_of_getElem? (i := 482) (by decide +kernel)) rfl, ev_in (List.mem_of_getElem? (i := 483) (by decide +kernel)) rfl⟩
def mX6_rise : ev_M := (yX6_rise, cX6_rise, 2, some (.int), 1, 2, 42, 0, 0)
theorem ok_X6_rise : ev_MO mX6_rise := ⟨ev_in (List.mem_of_getElem? (i := 505) (by decide +kernel)) rfl, ev_in (List.mem_of_getElem? (i := 1) (by decide +kernel)) rfl, by decide +kernel, by decide +kernel, by decide +kernel⟩
theorem mk_X6_rise : ev_MV mX6_rise := ⟨ev_in (List.mem_of_getElem? (i := 503) (by decide +kernel)) rfl, ev_in (List.mem_of_getElem? (i := 504) (by decide +kernel)) rfl⟩
def mX6_build : ev_M := (yX6_build, cX6_build, 4, some (.int), 3, 2, 43, 0, 0)
theorem ok_X6_build : ev_MO mX6_build := ⟨ev_in (List.mem_of_getElem? (i := 512) (by decide +kernel)) rfl, ev_in (List.mem_of_getElem? (i := 1) (by decide +kernel)) rfl, by decide +kernel, by decide +kernel, by decide +kernel⟩
theorem mk_X6_build : ev_MV mX6_build := ⟨ev_in (List.mem_of_getElem? (i := 510) (by decide +kernel)) rfl, ev_in (List.mem_of_getElem? (i := 511) (by decide +kernel)) rfl⟩
def mX6_alter : ev_M := (yX6_alter, cX6_alter, 4, some (.int), 3, 2, 43, 0, 0)
theorem ok_X6_alter : ev_MO mX6_alter := ⟨ev_in (List.mem_of_getElem? (i := 521) (by decide +kernel)) rfl, ev_in (List.mem_of_getElem? (i := 1) (by decide +kernel)) rfl, by decide +kernel, by decide +kernel, by decide +kernel⟩
theorem mk_X6_alter : ev_MV mX6_alter := ⟨ev_in (List.mem_of_getElem? (i := 519) (by decide +kernel)) rfl, ev_in (List.mem_of_getElem? (i := 520) (by decide +kernel)) rfl⟩
def mX6_tide : ev_M := (yX6_tide, cX6_tide, 3, some (.int), 2, 2, 42, 0, 0)
theorem ok_X6_tide : ev_MO mX6_tide := ⟨ev_in (List.mem_of_getElem? (i := 533) (by decide +kernel)) rfl, ev_in (List.mem_of_getElem? (i := 1) (by decide +kernel)) rfl, by decide +kernel, by decide +kernel, by decide +kernel⟩
theorem mk_X6_tide : ev_MV mX6_tide := ⟨ev_in (List.mem_of_getElem? (i := 531) (by decide +kernel)) rfl, ev_in (List.mem_of_getElem? (i := 532) (by decide +kernel)) rfl⟩
def mX6_blow : ev_M := (yX6_blow, cX6_blow, 3, some (.int), 1, 1, 22, 0, 0)
theorem ok_X6_blow : ev_MO mX6_blow := ⟨ev_in (List.mem_of_getElem? (i := 537) (by decide +kernel)) rfl, ev_in (List.mem_of_getElem? (i := 1) (by decide +kernel)) rfl, by decide +kernel, by decide +kernel, by decide +kernel⟩
theorem mk_X6_blow : ev_MV mX6_blow := ⟨ev_in (List.mem_of_getElem? (i := 535) (by decide +kernel)) rfl, ev_in (List.mem_of_getElem? (i := 536) (by decide +kernel)) rfl⟩
def mX6_stow : ev_M := (yX6_stow, cX6_stow, 2, some (.int), 1, 3, 69, 0, 0)
theorem ok_X6_stow : ev_MO mX6_stow := ⟨ev_in (List.mem_of_getElem? (i := 541) (by decide +kernel)) rfl, ev_in (List.mem_of_getElem? (i := 1) (by decide +kernel)) rfl, by decide +kernel, by decide +kernel, by decide +kernel⟩
theorem mk_X6_stow : ev_MV mX6_stow := ⟨ev_in (List.mem_of_getElem? (i := 539) (by decide +kernel)) rfl, ev_in (List.mem_of_getElem? (i := 540) (by decide +kernel)) rfl⟩
def mX6_fetch : ev_M := (yX6_fetch, cX6_fetch, 2, some (.int), 1, 3, 68, 0, 0)
theorem ok_X6_fetch : ev_MO mX6_fetch := ⟨ev_in (List.mem_of_getElem? (i := 556) (by decide +kernel)) rfl, ev_in (List.mem_of_getElem? (i := 1) (by decide +kernel)) rfl, by decide +kernel, by decide +kernel, by decide +kernel⟩
theorem mk_X6_fetch : ev_MV mX6_fetch := ⟨ev_in (List.mem_of_getElem? (i := 554) (by decide +kernel)) rfl, ev_in (List.mem_of_getElem? (i := 555) (by decide +kernel)) rfl⟩
def mX6_days : ev_M := (yX6_days, cX6_days, 3, some (.int), 1, 6, 136, 0, 0)
theorem ok_X6_days : ev_MO mX6_days := ⟨ev_in (List.mem_of_getElem? (i := 567) (by decide +kernel)) rfl, ev_in (List.mem_of_getElem? (i := 1) (by decide +kernel)) rfl, by decide +kernel, by decide +kernel, by decide +kernel⟩
theorem mk_X6_days : ev_MV mX6_days := ⟨ev_in (List.mem_of_getElem? (i := 565) (by decide +kernel)) rfl, ev_in (List.mem_of_getElem? (i := 566) (by decide +kernel)) rfl⟩
def mX6_runs : ev_M := (yX6_runs, cX6_runs, 6, some (.int), 2, 6, 136, 0, 0)
theorem ok_X6_runs : ev_MO mX6_runs := ⟨ev_in (List.mem_of_getElem? (i := 608) (by decide +kernel)) rfl, ev_in (List.mem_of_getElem? (i := 1) (by decide +kernel)) rfl, by decide +kernel, by decide +kernel, by decide +kernel⟩
theorem mk_X6_runs : ev_MV mX6_runs := ⟨ev_in (List.mem_of_getElem? (i := 606) (by decide +kernel)) rfl, ev_in (List.mem_of_getElem? (i := 607) (by decide +kernel)) rfl⟩
def mX6_ahead : ev_M := (yX6_ahead, cX6_ahead, 5, some (.int), 3, 6, 136, 0, 0)
theorem ok_X6_ahead : ev_MO mX6_ahead := ⟨ev_in (List.mem_of_getElem? (i := 619) (by decide +kernel)) rfl, ev_in (List.mem_of_getElem? (i := 1) (by decide +kernel)) rfl, by decide +kernel, by decide +kernel, by decide +kernel⟩
theorem mk_X6_ahead : ev_MV mX6_ahead := ⟨ev_in (List.mem_of_getElem? (i := 617) (by decide +kernel)) rfl, ev_in (List.mem_of_getElem? (i := 618) (by decide +kernel)) rfl⟩
def mX6_lost : ev_M := (yX6_lost, cX6_lost, 4, some (.int), 1, 6, 136, 0, 0)
theorem ok_X6_lost : ev_MO mX6_lost := ⟨ev_in (List.mem_of_getElem? (i := 623) (by decide +kernel)) rfl, ev_in (List.mem_of_getElem? (i := 1) (by decide +kernel)) rfl, by decide +kernel, by decide +kernel, by decide +kernel⟩
theorem mk_X6_lost : ev_MV mX6_lost := ⟨ev_in (List.mem_of_getElem? (i := 621) (by decide +kernel)) rfl, ev_in (List.mem_of_getElem? (i := 622) (by decide +kernel)) rfl⟩
def mX6_meet : ev_M := (yX6_meet, cX6_meet, 5, some (.int), 2, 6, 136, 0, 0)
theorem ok_X6_meet : ev_MO mX6_meet := ⟨ev_in (List.mem_of_getElem? (i := 628) (by decide +kernel)) rfl, ev_in (List.mem_of_getElem? (i := 1) (by decide +kernel)) rfl, by decide +kernel, by decide +kernel, by decide +kernel⟩
theorem mk_X6_meet : ev_MV mX6_meet := ⟨ev_in (List.mem_of_getElem? (i := 626) (by decide +kernel)) rfl, ev_in (List.mem_of_getElem? (i := 627) (by decide +kernel)) rfl⟩
def mX6_pack : ev_M := (yX6_pack, cX6_pack, 4, some (.int), 2, 3, 72, 0, 0)
theorem ok_X6_pack : ev_MO mX6_pack := ⟨ev_in (List.mem_of_getElem? (i := 633) (by decide +kernel)) rfl, ev_in (List.mem_of_getElem? (i := 1) (by decide +kernel)) rfl, by decide +kernel, by decide +kernel, by decide +kernel⟩
theorem mk_X6_pack : ev_MV mX6_pack := ⟨ev_in (List.mem_of_getElem? (i := 631) (by decide +kernel)) rfl, ev_in (List.mem_of_getElem? (i := 632) (by decide +kernel)) rfl⟩
def mX6_need : ev_M := (yX6_need, cX6_need, 5, some (.int), 2, 7, 160, 0, 0)
theorem ok_X6_need : ev_MO mX6_need := ⟨ev_in (List.mem_of_getElem? (i := 649) (by decide +kernel)) rfl, ev_in (List.mem_of_getElem? (i := 1) (by decide +kernel)) rfl, by decide +kernel, by decide +kernel, by decide +kernel⟩
theorem mk_X6_need : ev_MV mX6_need := ⟨ev_in (List.mem_of_getElem? (i := 647) (by decide +kernel)) rfl, ev_in (List.mem_of_getElem? (i := 648) (by decide +kernel)) rfl⟩
def mX6_high : ev_M := (yX6_high, cX6_high, 5, some (.int), 2, 7, 160, 0, 0)
theorem ok_X6_high : ev_MO mX6_high := ⟨ev_in (List.mem_of_getElem? (i := 656) (by decide +kernel)) rfl, ev_in (List.mem_of_getElem? (i := 1) (by decide +kernel)) rfl, by decide +kernel, by decide +kernel, by decide +kernel⟩
theorem mk_X6_high : ev_MV mX6_high := ⟨ev_in (List.mem_of_getElem? (i := 654) (by decide +kernel)) rfl, ev_in (List.mem_of_getElem? (i := 655) (by decide +kernel)) rfl⟩
def mX6_leak : ev_M := (yX6_leak, cX6_leak, 6, some (.int), 2, 7, 157, 0, 0)
theorem ok_X6_leak : ev_MO mX6_leak := ⟨ev_in (List.mem_of_getElem? (i := 660) (by decide +kernel)) rfl, ev_in (List.mem_of_getElem? (i := 1) (by decide +kernel)) rfl, by decide +kernel, by decide +kernel, by decide +kernel⟩
theorem mk_X6_leak : ev_MV mX6_leak := ⟨ev_in (List.mem_of_getElem? (i := 658) (by decide +kernel)) rfl, ev_in (List.mem_of_getElem? (i := 659) (by decide +kernel)) rfl⟩
def mX6_swap : ev_M := (yX6_swap, cX6_swap, 9, some (.int), 2, 7, 157, 0, 0)
theorem ok_X6_swap : ev_MO mX6_swap := ⟨ev_in (List.mem_of_getElem? (i := 667) (by decide +kernel)) rfl, ev_in (List.mem_of_getElem? (i := 1) (by decide +kernel)) rfl, by decide +kernel, by decide +kernel, by decide +kernel⟩
theorem mk_X6_swap : ev_MV mX6_swap := ⟨ev_in (List.mem_of_getElem? (i := 665) (by decide +kernel)) rfl, ev_in (List.mem_of_getElem? (i := 666) (by decide +kernel)) rfl⟩
def mX6_save : ev_M := (yX6_save, cX6_save, 8, some (.int), 2, 7, 157, 0, 0)
theorem ok_X6_save : ev_MO mX6_save := ⟨ev_in (List.mem_of_getElem? (i := 683) (by decide +kernel)) rfl, ev_in (List.mem_of_getElem? (i := 1) (by decide +kernel)) rfl, by decide +kernel, by decide +kernel, by decide +kernel⟩
theorem mk_X6_save : ev_MV mX6_save := ⟨ev_in (List.mem_of_getElem? (i := 681) (by decide +kernel)) rfl, ev_in (List.mem_of_getElem? (i := 682) (by decide +kernel)) rfl⟩
def mX6_kind : ev_M := (yX6_kind, cX6_kind, 9, some (.int), 3, 7, 157, 0, 0)
theorem ok_X6_kind : ev_MO mX6_kind := ⟨ev_in (List.mem_of_getElem? (i := 687) (by decide +kernel)) rfl, ev_in (List.mem_of_getElem? (i := 1) (by decide +kernel)) rfl, by decide +kernel, by decide +kernel, by decide +kernel⟩
theorem mk_X6_kind : ev_MV mX6_kind := ⟨ev_in (List.mem_of_getElem? (i := 685) (by decide +kernel)) rfl, ev_in (List.mem_of_getElem? (i := 686) (by decide +kernel)) rfl⟩
def mX6_luck : ev_M := (yX6_luck, cX6_luck, 10, some (.long), 4, 6, 139, 0, 0)
theorem ok_X6_luck : ev_MO mX6_luck := ⟨ev_in (List.mem_of_getElem? (i := 691) (by decide +kernel)) rfl, ev_in (List.mem_of_getElem? (i := 1) (by decide +kernel)) rfl, by decide +kernel, by decide +kernel, by decide +kernel⟩
theorem mk_X6_luck : ev_MV mX6_luck := ⟨ev_in (List.mem_of_getElem? (i := 689) (by decide +kernel)) rfl, ev_in (List.mem_of_getElem? (i := 690) (by decide +kernel)) rfl⟩
def mX6_mean : ev_M := (yX6_mean, cX6_mean, 9, some (.long), 3, 6, 139, 0, 0)
theorem ok_X6_mean : ev_MO mX6_mean := ⟨ev_in (List.mem_of_getElem? (i := 720) (by decide +kernel)) rfl, ev_in (List.mem_of_getElem? (i := 1) (by decide +kernel)) rfl, by decide +kernel, by decide +kernel, by decide +kernel⟩
theorem mk_X6_mean : ev_MV mX6_mean := ⟨ev_in (List.mem_of_getElem? (i := 718) (by decide +kernel)) rfl, ev_in (List.mem_of_getElem? (i := 719) (by decide +kernel)) rfl⟩
def mX6_see : ev_M := (yX6_see, cX6_see, 3, some (.int), 2, 1, 22, 0, 0)
theorem ok_X6_see : ev_MO mX6_see := ⟨ev_in (List.mem_of_getElem? (i := 724) (by decide +kernel)) rfl, ev_in (List.mem_of_getElem? (i := 1) (by decide +kernel)) rfl, by decide +kernel, by decide +kernel, by decide +kernel⟩
theorem mk_X6_see : ev_MV mX6_see := ⟨ev_in (List.mem_of_getElem? (i := 722) (by decide +kernel)) rfl, ev_in (List.mem_of_getElem? (i := 723) (by decide +kernel)) rfl⟩
def mX6_forget : ev_M := (yX6_forget, cX6_forget, 3, some (.int), 1, 1, 22, 0, 0)
theorem ok_X6_forget : ev_MO mX6_forget := ⟨ev_in (List.mem_of_getElem? (i := 732) (by decide +kernel)) rfl, ev_in (List.mem_of_getElem? (i := 1) (by decide +kernel)) rfl, by decide +kernel, by decide +kernel, by decide +kernel⟩
theorem mk_X6_forget : ev_MV mX6_forget := ⟨ev_in (List.mem_of_getElem? (i := 730) (by decide +kernel)) rfl, ev_in (List.mem_of_getElem? (i := 731) (by decide +kernel)) rfl⟩
def mX6_kinds : ev_M := (yX6_kinds, cX6_kinds, 4, some (.int), 1, 6, 137, 0, 0)
theorem ok_X6_kinds : ev_MO mX6_kinds := ⟨ev_in (List.mem_of_getElem? (i := 736) (by decide +kernel)) rfl, ev_in (List.mem_of_getElem? (i := 1) (by decide +kernel)) rfl, by decide +kernel, by decide +kernel, by decide +kernel⟩
theorem mk_X6_kinds : ev_MV mX6_kinds := ⟨ev_in (List.mem_of_getElem? (i := 734) (by decide +kernel)) rfl, ev_in (List.mem_of_getElem? (i := 735) (by decide +kernel)) rfl⟩
def mX6_leaks : ev_M := (yX6_leaks, cX6_leaks, 4, some (.int), 1, 6, 137, 0, 0)
theorem ok_X6_leaks : ev_MO mX6_leaks := ⟨ev_in (List.mem_of_getElem? (i := 767) (by decide +kernel)) rfl, ev_in (List.mem_of_getElem? (i := 1) (by decide +kernel)) rfl, by decide +kernel, by decide +kernel, by decide +kernel⟩
theorem mk_X6_leaks : ev_MV mX6_leaks := ⟨ev_in (List.mem_of_getElem? (i := 765) (by decide +kernel)) rfl, ev_in (List.mem_of_getElem? (i := 766) (by decide +kernel)) rfl⟩
def mX6_rooms : ev_M := (yX6_rooms, cX6_rooms, 2, some (.int), 1, 7, 161, 0, 0)
theorem ok_X6_rooms : ev_MO mX6_rooms := ⟨ev_in (List.mem_of_getElem? (i := 771) (by decide +kernel)) rfl, ev_in (List.mem_of_getElem? (i := 1) (by decide +kernel)) rfl, by decide +kernel, by decide +kernel, by decide +kernel⟩
theorem mk_X6_rooms : ev_MV mX6_rooms := ⟨ev_in (List.mem_of_getElem? (i := 769) (by decide +kernel)) rfl, ev_in (List.mem_of_getElem? (i := 770) (by decide +kernel)) rfl⟩
def mX6_ask : ev_M := (yX6_ask, cX6_ask, 8, some (.int), 2, 7, 161, 0, 0)
theorem ok_X6_ask : ev_MO mX6_ask := ⟨ev_in (List.mem_of_getElem? (i := 779) (by decide +kernel)) rfl, ev_in (List.mem_of_getElem? (i := 1) (by decide +kernel)) rfl, by decide +kernel, by decide +kernel, by decide +kernel⟩
theorem mk_X6_ask : ev_MV mX6_ask := ⟨ev_in (List.mem_of_getElem? (i := 777) (by decide +kernel)) rfl, ev_in (List.mem_of_getElem? (i := 778) (by decide +kernel)) rfl⟩
def mX6_drift : ev_M := (yX6_drift, cX6_drift, 8, some (.int), 3, 5, 114, 0, 0)
theorem ok_X6_drift : ev_MO mX6_drift := ⟨ev_in (List.mem_of_getElem? (i := 793) (by decide +kernel)) rfl, ev_in (List.mem_of_getElem? (i := 1) (by decide +kernel)) rfl, by decide +kernel, by decide +kernel, by decide +kernel⟩
theorem mk_X6_drift : ev_MV mX6_drift := ⟨ev_in (List.mem_of_getElem? (i := 791) (by decide +kernel)) rfl, ev_in (List.mem_of_getElem? (i := 792) (by decide +kernel)) rfl⟩
def mX6_keep : ev_M := (yX6_keep, cX6_keep, 3, some (.int), 1, 3, 68, 0, 0)
theorem ok_X6_keep : ev_MO mX6_keep := ⟨ev_in (List.mem_of_getElem? (i := 798) (by decide +kernel)) rfl, ev_in (List.mem_of_getElem? (i := 1) (by decide +kernel)) rfl, by decide +kernel, by decide +kernel, by decide +kernel⟩
theorem mk_X6_keep : ev_MV mX6_keep := ⟨ev_in (List.mem_of_getElem? (i := 796) (by decide +kernel)) rfl, ev_in (List.mem_of_getElem? (i := 797) (by decide +kernel)) rfl⟩
def mX6_back : ev_M := (yX6_back, cX6_back, 2, some (.int), 1, 3, 68, 0, 0)
theorem ok_X6_back : ev_MO mX6_back := ⟨ev_in (List.mem_of_getElem? (i := 802) (by decide +kernel)) rfl, ev_in (List.mem_of_getElem? (i := 1) (by decide +kernel)) rfl, by decide +kernel, by decide +kernel, by decide +kernel⟩
theorem mk_X6_back : ev_MV mX6_back := ⟨ev_in (List.mem_of_getElem? (i := 800) (by decide +kernel)) rfl, ev_in (List.mem_of_getElem? (i := 801) (by decide +kernel)) rfl⟩
def mX6_sheet : ev_M := (yX6_sheet, cX6_sheet, 4, some (.int), 3, 2, 45, 0, 0)
theorem ok_X6_sheet : ev_MO mX6_sheet := ⟨ev_in (List.mem_of_getElem? (i := 806) (by decide +kernel)) rfl, ev_in (List.mem_of_getElem? (i := 1) (by decide +kernel)) rfl, by decide +kernel, by decide +kernel, by decide +kernel⟩
theorem mk_X6_sheet : ev_MV mX6_sheet := ⟨ev_in (List.mem_of_getElem? (i := 804) (by decide +kernel)) rfl, ev_in (List.mem_of_getElem? (i := 805) (by decide +kernel)) rfl⟩
def mX6_lay : ev_M := (yX6_lay, cX6_lay, 6, some (.int), 3, 2, 44, 0, 0)
theorem ok_X6_lay : ev_MO mX6_lay := ⟨ev_in (List.mem_of_getElem? (i := 818) (by decide +kernel)) rfl, ev_in (List.mem_of_getElem? (i := 1) (by decide +kernel)) rfl, by decide +kernel, by decide +kernel, by decide +kernel⟩
theorem mk_X6_lay : ev_MV mX6_lay := ⟨ev_in (List.mem_of_getElem? (i := 816) (by decide +kernel)) rfl, ev_in (List.mem_of_getElem? (i := 817) (by decide +kernel)) rfl⟩
def mX6_read : ev_M := (yX6_read, cX6_read, 10, some (.int), 4, 4, 88, 0, 0)
theorem ok_X6_read : ev_MO mX6_read := ⟨ev_in (List.mem_of_getElem? (i := 831) (by decide +kernel)) rfl, ev_in (List.mem_of_getElem? (i := 1) (by decide +kernel)) rfl, by decide +kernel, by decide +kernel, by decide +kernel⟩
theorem mk_X6_read : ev_MV mX6_read := ⟨ev_in (List.mem_of_getElem? (i := 829) (by decide +kernel)) rfl, ev_in (List.mem_of_getElem? (i := 830) (by decide +kernel)) rfl⟩
def mX6_torn : ev_M := (yX6_torn, cX6_torn, 1, some (.int), 0, 0, 0, 0, 0)
theorem ok_X6_torn : ev_MO mX6_torn := ⟨ev_in (List.mem_of_getElem? (i := 835) (by decide +kernel)) rfl, ev_in (List.mem_of_getElem? (i := 1) (by decide +kernel)) rfl, by decide +kernel, by decide +kernel, by decide +kernel⟩
theorem mk_X6_torn : ev_MV mX6_torn := ⟨ev_in (List.mem_of_getElem? (i := 833) (by decide +kernel)) rfl, ev_in (List.mem_of_getElem? (i := 834) (by decide +kernel)) rfl⟩
def mX6_count : ev_M := (yX6_count, cX6_count, 2, some (.int), 1, 1, 23, 0, 0)
theorem ok_X6_count : ev_MO mX6_count := ⟨ev_in (List.mem_of_getElem? (i := 839) (by decide +kernel)) rfl, ev_in (List.mem_of_getElem? (i := 1) (by decide +kernel)) rfl, by decide +kernel, by decide +kernel, by decide +kernel⟩
theorem mk_X6_count : ev_MV mX6_count := ⟨ev_in (List.mem_of_getElem? (i := 837) (by decide +kernel)) rfl, ev_in (List.mem_of_getElem? (i := 838) (by decide +kernel)) rfl⟩
def mX6_within : ev_M := (yX6_within, cX6_within, 3, some (.boolean), 3, 0, 0, 0, 0)
theorem ok_X6_within : ev_MO mX6_within := ⟨ev_in (List.mem_of_getElem? (i := 274) (by decide +kernel)) rfl, ev_in (List.mem_of_getElem? (i := 1) (by decide +kernel)) rfl, by decide +kernel, by decide +kernel, by decide +kernel⟩
theorem mk_X6_within : Cond.static (ev_y mX6_within) ∈ ev_tbl := ev_in (List.mem_of_getElem? (i := 273) (by decide +kernel)) rfl
def mX6_bounded : ev_M := (yX6_bounded, cX6_bounded, 2, some (.int), 2, 1, 21, 0, 0)
theorem ok_X6_bounded : ev_MO mX6_bounded := ⟨ev_in (List.mem_of_getElem? (i := 585) (by decide +kernel)) rfl, ev_in (List.mem_of_getElem? (i := 1) (by decide +kernel)) rfl, by decide +kernel, by decide +kernel, by decide +kernel⟩
theorem mk_X6_bounded : Cond.static (ev_y mX6_bounded) ∈ ev_tbl := ev_in (List.mem_of_getElem? (i := 584) (by decide +kernel)) rfl
def mX6_isWeekday : ev_M := (yX6_isWeekday, cX6_isWeekday, 1, some (.boolean), 1, 1, 22, 0, 0)
theorem ok_X6_isWeekday : ev_MO mX6_isWeekday := ⟨ev_in (List.mem_of_getElem? (i := 508) (by decide +kernel)) rfl, ev_in (List.mem_of_getElem? (i := 1) (by decide +kernel)) rfl, by decide +kernel, by decide +kernel, by decide +kernel⟩
theorem mk_X6_isWeekday : Cond.static (ev_y mX6_isWeekday) ∈ ev_tbl := ev_in (List.mem_of_getElem? (i := 507) (by decide +kernel)) rfl
def mX6_isAhead : ev_M := (yX6_isAhead, cX6_isAhead, 1, some (.boolean), 1, 1, 22, 0, 0)
theorem ok_X6_isAhead : ev_MO mX6_isAhead := ⟨ev_in (List.mem_of_getElem? (i := 611) (by decide +kernel)) rfl, ev_in (List.mem_of_getElem? (i := 1) (by decide +kernel)) rfl, by decide +kernel, by decide +kernel, by decide +kernel⟩
theorem mk_X6_isAhead : Cond.static (ev_y mX6_isAhead) ∈ ev_tbl := ev_in (List.mem_of_getElem? (i := 610) (by decide +kernel)) rfl
def mX6_isSheet : ev_M := (yX6_isSheet, cX6_isSheet, 1, some (.boolean), 1, 1, 22, 0, 0)
theorem ok_X6_isSheet : ev_MO mX6_isSheet := ⟨ev_in (List.mem_of_getElem? (i := 809) (by decide +kernel)) rfl, ev_in (List.mem_of_getElem? (i := 1) (by decide +kernel)) rfl, by decide +kernel, by decide +kernel, by decide +kernel⟩
theorem mk_X6_isSheet : Cond.static (ev_y mX6_isSheet) ∈ ev_tbl := ev_in (List.mem_of_getElem? (i := 808) (by decide +kernel)) rfl
def mX6_replace : ev_M := (yX6_replace, cX6_replace, 4, some (.int), 3, 0, 0, 0, 0)
theorem ok_X6_replace : ev_MO mX6_replace := ⟨ev_in (List.mem_of_getElem? (i := 517) (by decide +kernel)) rfl, ev_in (List.mem_of_getElem? (i := 1) (by decide +kernel)) rfl, by decide +kernel, by decide +kernel, by decide +kernel⟩
theorem mk_X6_replace : Cond.static (ev_y mX6_replace) ∈ ev_tbl := ev_in (List.mem_of_getElem? (i := 516) (by decide +kernel)) rfl
def mX6_sumOf : ev_M := (yX6_sumOf, cX6_sumOf, 4, some (.int), 2, 0, 0, 0, 0)
theorem ok_X6_sumOf : ev_MO mX6_sumOf := ⟨ev_in (List.mem_of_getElem? (i := 842) (by decide +kernel)) rfl, ev_in (List.mem_of_getElem? (i := 1) (by decide +kernel)) rfl, by decide +kernel, by decide +kernel, by decide +kernel⟩
theorem mk_X6_sumOf : Cond.static (ev_y mX6_sumOf) ∈ ev_tbl := ev_in (List.mem_of_getElem? (i := 841) (by decide +kernel)) rfl
def mX6_copyOfNow : ev_M := (yX6_copyOfNow, cX6_copyOfNow, 1, some (.object "ArkTerrace$Terrace"), 0, 3, 68, 0, 0)
theorem ok_X6_copyOfNow : ev_MO mX6_copyOfNow := ⟨ev_in (List.mem_of_getElem? (i := 615) (by decide +kernel)) rfl, ev_in (List.mem_of_getElem? (i := 1) (by decide +kernel)) rfl, by decide +kernel, by decide +kernel, by decide +kernel⟩
theorem mk_X6_copyOfNow : ev_MV mX6_copyOfNow := ⟨ev_in (List.mem_of_getElem? (i := 614) (by decide +kernel)) rfl, List.mem_filter.mpr ⟨List.mem_append_left _ (List.mem_of_getElem? (i := 14) (by decide +kernel)), rfl⟩⟩
def mX6_sorrowBehind : ev_M := (yX6_sorrowBehind, cX6_sorrowBehind, 2, some (.int), 2, 6, 136, 0, 0)
theorem ok_X6_sorrowBehind : ev_MO mX6_sorrowBehind := ⟨ev_in (List.mem_of_getElem? (i := 663) (by decide +kernel)) rfl, ev_in (List.mem_of_getElem? (i := 1) (by decide +kernel)) rfl, by decide +kernel, by decide +kernel, by decide +kernel⟩
theorem mk_X6_sorrowBehind : Cond.static (ev_y mX6_sorrowBehind) ∈ ev_tbl := ev_in (List.mem_of_getElem? (i := 662) (by decide +kernel)) rfl
def mX6_losesNoneOf : ev_M := (yX6_losesNoneOf, cX6_losesNoneOf, 5, some (.boolean), 3, 6, 136, 0, 0)
theorem ok_X6_losesNoneOf : ev_MO mX6_losesNoneOf := ⟨ev_in (List.mem_of_getElem? (i := 652) (by decide +kernel)) rfl, ev_in (List.mem_of_getElem? (i := 1) (by decide +kernel)) rfl, by decide +kernel, by decide +kernel, by decide +kernel⟩
theorem mk_X6_losesNoneOf : Cond.static (ev_y mX6_losesNoneOf) ∈ ev_tbl := ev_in (List.mem_of_getElem? (i := 651) (by decide +kernel)) rfl
def mX6_bestOrSorrow : ev_M := (yX6_bestOrSorrow, cX6_bestOrSorrow, 4, some (.int), 3, 0, 0, 0, 0)
theorem ok_X6_bestOrSorrow : ev_MO mX6_bestOrSorrow := ⟨ev_in (List.mem_of_getElem? (i := 679) (by decide +kernel)) rfl, ev_in (List.mem_of_getElem? (i := 1) (by decide +kernel)) rfl, by decide +kernel, by decide +kernel, by decide +kernel⟩
theorem mk_X6_bestOrSorrow : ev_MV mX6_bestOrSorrow := ⟨ev_in (List.mem_of_getElem? (i := 678) (by decide +kernel)) rfl, List.mem_filter.mpr ⟨List.mem_append_left _ (List.mem_of_getElem? (i := 16) (by decide +kernel)), rfl⟩⟩
def mX6_dearestSet : ev_M := (yX6_dearestSet, cX6_dearestSet, 7, some (.int), 1, 2, 46, 0, 0)
theorem ok_X6_dearestSet : ev_MO mX6_dearestSet := ⟨ev_in (List.mem_of_getElem? (i := 637) (by decide +kernel)) rfl, ev_in (List.mem_of_getElem? (i := 1) (by decide +kernel)) rfl, by decide +kernel, by decide +kernel, by decide +kernel⟩
theorem mk_X6_dearestSet : ev_MV mX6_dearestSet := ⟨ev_in (List.mem_of_getElem? (i := 636) (by decide +kernel)) rfl, List.mem_filter.mpr ⟨List.mem_append_left _ (List.mem_of_getElem? (i := 15) (by decide +kernel)), rfl⟩⟩
def mX6_power : ev_M := (yX6_power, cX6_power, 5, some (.long), 2, 0, 0, 0, 0)
theorem ok_X6_power : ev_MO mX6_power := ⟨ev_in (List.mem_of_getElem? (i := 704) (by decide +kernel)) rfl, ev_in (List.mem_of_getElem? (i := 1) (by decide +kernel)) rfl, by decide +kernel, by decide +kernel, by decide +kernel⟩
theorem mk_X6_power : Cond.static (ev_y mX6_power) ∈ ev_tbl := ev_in (List.mem_of_getElem? (i := 703) (by decide +kernel)) rfl
def mX6_weightOf : ev_M := (yX6_weightOf, cX6_weightOf, 4, some (.long), 3, 1, 24, 0, 0)
theorem ok_X6_weightOf : ev_MO mX6_weightOf := ⟨ev_in (List.mem_of_getElem? (i := 695) (by decide +kernel)) rfl, ev_in (List.mem_of_getElem? (i := 1) (by decide +kernel)) rfl, by decide +kernel, by decide +kernel, by decide +kernel⟩
theorem mk_X6_weightOf : Cond.static (ev_y mX6_weightOf) ∈ ev_tbl := ev_in (List.mem_of_getElem? (i := 694) (by decide +kernel)) rfl
def mX6_behindStorms : ev_M := (yX6_behindStorms, cX6_behindStorms, 6, some (.object "ArkTerrace$Terrace"), 2, 5, 114, 0, 0)
theorem ok_X6_behindStorms : ev_MO mX6_behindStorms := ⟨ev_in (List.mem_of_getElem? (i := 708) (by decide +kernel)) rfl, ev_in (List.mem_of_getElem? (i := 1) (by decide +kernel)) rfl, by decide +kernel, by decide +kernel, by decide +kernel⟩
theorem mk_X6_behindStorms : ev_MV mX6_behindStorms := ⟨ev_in (List.mem_of_getElem? (i := 707) (by decide +kernel)) rfl, List.mem_filter.mpr ⟨List.mem_append_left _ (List.mem_of_getElem? (i := 17) (by decide +kernel)), rfl⟩⟩
def mX6_commonDivisor : ev_M := (yX6_commonDivisor, cX6_commonDivisor, 11, some (.long), 2, 0, 0, 0, 0)
theorem ok_X6_commonDivisor : ev_MO mX6_commonDivisor := ⟨ev_in (List.mem_of_getElem? (i := 716) (by decide +kernel)) rfl, ev_in (List.mem_of_getElem? (i := 1) (by decide +kernel)) rfl, by decide +kernel, by decide +kernel, by decide +kernel⟩
theorem mk_X6_commonDivisor : Cond.static (ev_y mX6_commonDivisor) ∈ ev_tbl := ev_in (List.mem_of_getElem? (i := 715) (by decide +kernel)) rfl
def mX6_fractionPart : ev_M := (yX6_fractionPart, cX6_fractionPart, 7, some (.long), 3, 1, 30, 0, 0)
theorem ok_X6_fractionPart : ev_MO mX6_fractionPart := ⟨ev_in (List.mem_of_getElem? (i := 713) (by decide +kernel)) rfl, ev_in (List.mem_of_getElem? (i := 1) (by decide +kernel)) rfl, by decide +kernel, by decide +kernel, by decide +kernel⟩
theorem mk_X6_fractionPart : Cond.static (ev_y mX6_fractionPart) ∈ ev_tbl := ev_in (List.mem_of_getElem? (i := 712) (by decide +kernel)) rfl
def mX6_tellRooms : ev_M := (yX6_tellRooms, cX6_tellRooms, 5, none, 2, 6, 137, 0, 0)
theorem ok_X6_tellRooms : ev_MO mX6_tellRooms := ⟨ev_in (List.mem_of_getElem? (i := 775) (by decide +kernel)) rfl, ev_in (List.mem_of_getElem? (i := 1) (by decide +kernel)) rfl, by decide +kernel, by decide +kernel, by decide +kernel⟩
theorem mk_X6_tellRooms : ev_MV mX6_tellRooms := ⟨ev_in (List.mem_of_getElem? (i := 774) (by decide +kernel)) rfl, List.mem_filter.mpr ⟨List.mem_append_left _ (List.mem_of_getElem? (i := 19) (by decide +kernel)), rfl⟩⟩
def mX7_init : ev_M := (yX7_init, cX7_init, 1, none, 0, 1, 20, 11, 1537)
theorem ok_X7_init : ev_MO mX7_init := ⟨ev_in (List.mem_of_getElem? (i := 847) (by decide +kernel)) rfl, ev_in (List.mem_of_getElem? (i := 9) (by decide +kernel)) rfl, by decide +kernel, by decide +kernel, by decide +kernel⟩
theorem mk_X7_init : ev_MI mX7_init := ⟨rfl, rfl, ev_in (List.mem_of_getElem? (i := 846) (by decide +kernel)) rfl⟩
def mX7_in : ev_M := (yX7_in, cX7_in, 6, some (.boolean), 3, 0, 0, 0, 0)
theorem ok_X7_in : ev_MO mX7_in := ⟨ev_in (List.mem_of_getElem? (i := 945) (by decide +kernel)) rfl, ev_in (List.mem_of_getElem? (i := 9) (by decide +kernel)) rfl, by decide +kernel, by decide +kernel, by decide +kernel⟩
theorem mk_X7_in : Cond.static (ev_y mX7_in) ∈ ev_tbl := ev_in (List.mem_of_getElem? (i := 944) (by decide +kernel)) rfl
def mX7_feed : ev_M := (yX7_feed, cX7_feed, 2, some (.int), 1, 1, 25, 0, 0)
theorem ok_X7_feed : ev_MO mX7_feed := ⟨ev_in (List.mem_of_getElem? (i := 941) (by decide +kernel)) rfl, ev_in (List.mem_of_getElem? (i := 9) (by decide +kernel)) rfl, by decide +kernel, by decide +kernel, by decide +kernel⟩
theorem mk_X7_feed : ev_MV mX7_feed := ⟨ev_in (List.mem_of_getElem? (i := 939) (by decide +kernel)) rfl, ev_in (List.mem_of_getElem? (i := 940) (by decide +kernel)) rfl⟩
def mX7_end : ev_M := (yX7_end, cX7_end, 3, some (.int), 1, 1, 25, 0, 0)
theorem ok_X7_end : ev_MO mX7_end := ⟨ev_in (List.mem_of_getElem? (i := 949) (by decide +kernel)) rfl, ev_in (List.mem_of_getElem? (i := 9) (by decide +kernel)) rfl, by decide +kernel, by decide +kernel, by decide +kernel⟩
theorem mk_X7_end : ev_MV mX7_end := ⟨ev_in (List.mem_of_getElem? (i := 947) (by decide +kernel)) rfl, ev_in (List.mem_of_getElem? (i := 948) (by decide +kernel)) rfl⟩
def mX7_byteAt : ev_M := (yX7_byteAt, cX7_byteAt, 2, some (.int), 1, 0, 0, 0, 0)
theorem ok_X7_byteAt : ev_MO mX7_byteAt := ⟨ev_in (List.mem_of_getElem? (i := 961) (by decide +kernel)) rfl, ev_in (List.mem_of_getElem? (i := 9) (by decide +kernel)) rfl, by decide +kernel, by decide +kernel, by decide +kernel⟩
theorem mk_X7_byteAt : ev_MV mX7_byteAt := ⟨ev_in (List.mem_of_getElem? (i := 960) (by decide +kernel)) rfl, List.mem_filter.mpr ⟨List.mem_append_left _ (List.mem_of_getElem? (i := 22) (by decide +kernel)), rfl⟩⟩
def mX7_fails : ev_M := (yX7_fails, cX7_fails, 2, none, 1, 0, 0, 0, 0)
theorem ok_X7_fails : ev_MO mX7_fails := ⟨ev_in (List.mem_of_getElem? (i := 969) (by decide +kernel)) rfl, ev_in (List.mem_of_getElem? (i := 9) (by decide +kernel)) rfl, by decide +kernel, by decide +kernel, by decide +kernel⟩
theorem mk_X7_fails : ev_MV mX7_fails := ⟨ev_in (List.mem_of_getElem? (i := 968) (by decide +kernel)) rfl, List.mem_filter.mpr ⟨List.mem_append_left _ (List.mem_of_getElem? (i := 23) (by decide +kernel)), rfl⟩⟩
def mX7_nameHere : ev_M := (yX7_nameHere, cX7_nameHere, 4, some (.int), 0, 1, 21, 0, 0)
theorem ok_X7_nameHere : ev_MO mX7_nameHere := ⟨ev_in (List.mem_of_getElem? (i := 977) (by decide +kernel)) rfl, ev_in (List.mem_of_getElem? (i := 9) (by decide +kernel)) rfl, by decide +kernel, by decide +kernel, by decide +kernel⟩
theorem mk_X7_nameHere : ev_MV mX7_nameHere := ⟨ev_in (List.mem_of_getElem? (i := 976) (by decide +kernel)) rfl, List.mem_filter.mpr ⟨List.mem_append_left _ (List.mem_of_getElem? (i := 25) (by decide +kernel)), rfl⟩⟩
def mX7_step : ev_M := (yX7_step, cX7_step, 2, none, 0, 1, 25, 0, 0)
theorem ok_X7_step : ev_MO mX7_step := ⟨ev_in (List.mem_of_getElem? (i := 957) (by decide +kernel)) rfl, ev_in (List.mem_of_getElem? (i := 9) (by decide +kernel)) rfl, by decide +kernel, by decide +kernel, by decide +kernel⟩
theorem mk_X7_step : ev_MV mX7_step := ⟨ev_in (List.mem_of_getElem? (i := 956) (by decide +kernel)) rfl, List.mem_filter.mpr ⟨List.mem_append_left _ (List.mem_of_getElem? (i := 21) (by decide +kernel)), rfl⟩⟩
def mX7_number : ev_M := (yX7_number, cX7_number, 4, some (.int), 2, 2, 46, 0, 0)
theorem ok_X7_number : ev_MO mX7_number := ⟨ev_in (List.mem_of_getElem? (i := 990) (by decide +kernel)) rfl, ev_in (List.mem_of_getElem? (i := 9) (by decide +kernel)) rfl, by decide +kernel, by decide +kernel, by decide +kernel⟩
theorem mk_X7_number : ev_MV mX7_number := ⟨ev_in (List.mem_of_getElem? (i := 989) (by decide +kernel)) rfl, List.mem_filter.mpr ⟨List.mem_append_left _ (List.mem_of_getElem? (i := 28) (by decide +kernel)), rfl⟩⟩
def mX7_readThing : ev_M := (yX7_readThing, cX7_readThing, 3, none, 1, 3, 69, 0, 0)
theorem ok_X7_readThing : ev_MO mX7_readThing := ⟨ev_in (List.mem_of_getElem? (i := 986) (by decide +kernel)) rfl, ev_in (List.mem_of_getElem? (i := 9) (by decide +kernel)) rfl, by decide +kernel, by decide +kernel, by decide +kernel⟩
theorem mk_X7_readThing : ev_MV mX7_readThing := ⟨ev_in (List.mem_of_getElem? (i := 985) (by decide +kernel)) rfl, List.mem_filter.mpr ⟨List.mem_append_left _ (List.mem_of_getElem? (i := 27) (by decide +kernel)), rfl⟩⟩
def mX7_readHouse : ev_M := (yX7_readHouse, cX7_readHouse, 1, none, 0, 3, 69, 0, 0)
theorem ok_X7_readHouse : ev_MO mX7_readHouse := ⟨ev_in (List.mem_of_getElem? (i := 994) (by decide +kernel)) rfl, ev_in (List.mem_of_getElem? (i := 9) (by decide +kernel)) rfl, by decide +kernel, by decide +kernel, by decide +kernel⟩
theorem mk_X7_readHouse : ev_MV mX7_readHouse := ⟨ev_in (List.mem_of_getElem? (i := 993) (by decide +kernel)) rfl, List.mem_filter.mpr ⟨List.mem_append_left _ (List.mem_of_getElem? (i := 29) (by decide +kernel)), rfl⟩⟩
def mX7_readRise : ev_M := (yX7_readRise, cX7_readRise, 2, none, 0, 3, 69, 0, 0)
theorem ok_X7_readRise : ev_MO mX7_readRise := ⟨ev_in (List.mem_of_getElem? (i := 998) (by decide +kernel)) rfl, ev_in (List.mem_of_getElem? (i := 9) (by decide +kernel)) rfl, by decide +kernel, by decide +kernel, by decide +kernel⟩
theorem mk_X7_readRise : ev_MV mX7_readRise := ⟨ev_in (List.mem_of_getElem? (i := 997) (by decide +kernel)) rfl, List.mem_filter.mpr ⟨List.mem_append_left _ (List.mem_of_getElem? (i := 30) (by decide +kernel)), rfl⟩⟩
def mX7_readMore : ev_M := (yX7_readMore, cX7_readMore, 2, none, 1, 4, 91, 0, 0)
theorem ok_X7_readMore : ev_MO mX7_readMore := ⟨ev_in (List.mem_of_getElem? (i := 982) (by decide +kernel)) rfl, ev_in (List.mem_of_getElem? (i := 9) (by decide +kernel)) rfl, by decide +kernel, by decide +kernel, by decide +kernel⟩
theorem mk_X7_readMore : ev_MV mX7_readMore := ⟨ev_in (List.mem_of_getElem? (i := 981) (by decide +kernel)) rfl, List.mem_filter.mpr ⟨List.mem_append_left _ (List.mem_of_getElem? (i := 26) (by decide +kernel)), rfl⟩⟩
def mX7_readLine : ev_M := (yX7_readLine, cX7_readLine, 2, none, 0, 5, 112, 0, 0)
theorem ok_X7_readLine : ev_MO mX7_readLine := ⟨ev_in (List.mem_of_getElem? (i := 973) (by decide +kernel)) rfl, ev_in (List.mem_of_getElem? (i := 9) (by decide +kernel)) rfl, by decide +kernel, by decide +kernel, by decide +kernel⟩
theorem mk_X7_readLine : ev_MV mX7_readLine := ⟨ev_in (List.mem_of_getElem? (i := 972) (by decide +kernel)) rfl, List.mem_filter.mpr ⟨List.mem_append_left _ (List.mem_of_getElem? (i := 24) (by decide +kernel)), rfl⟩⟩
def mX7_text : ev_M := (yX7_text, cX7_text, 3, some (.int), 0, 6, 133, 0, 0)
theorem ok_X7_text : ev_MO mX7_text := ⟨ev_in (List.mem_of_getElem? (i := 953) (by decide +kernel)) rfl, ev_in (List.mem_of_getElem? (i := 9) (by decide +kernel)) rfl, by decide +kernel, by decide +kernel, by decide +kernel⟩
theorem mk_X7_text : ev_MV mX7_text := ⟨ev_in (List.mem_of_getElem? (i := 951) (by decide +kernel)) rfl, ev_in (List.mem_of_getElem? (i := 952) (by decide +kernel)) rfl⟩
def mX7_fault : ev_M := (yX7_fault, cX7_fault, 1, some (.int), 0, 0, 0, 0, 0)
theorem ok_X7_fault : ev_MO mX7_fault := ⟨ev_in (List.mem_of_getElem? (i := 1003) (by decide +kernel)) rfl, ev_in (List.mem_of_getElem? (i := 9) (by decide +kernel)) rfl, by decide +kernel, by decide +kernel, by decide +kernel⟩
theorem mk_X7_fault : ev_MV mX7_fault := ⟨ev_in (List.mem_of_getElem? (i := 1001) (by decide +kernel)) rfl, ev_in (List.mem_of_getElem? (i := 1002) (by decide +kernel)) rfl⟩
def mX7_isHouse : ev_M := (yX7_isHouse, cX7_isHouse, 2, some (.boolean), 1, 1, 25, 0, 0)
theorem ok_X7_isHouse : ev_MO mX7_isHouse := ⟨ev_in (List.mem_of_getElem? (i := 1023) (by decide +kernel)) rfl, ev_in (List.mem_of_getElem? (i := 9) (by decide +kernel)) rfl, by decide +kernel, by decide +kernel, by decide +kernel⟩
theorem mk_X7_isHouse : ev_MV mX7_isHouse := ⟨ev_in (List.mem_of_getElem? (i := 1022) (by decide +kernel)) rfl, List.mem_filter.mpr ⟨List.mem_append_left _ (List.mem_of_getElem? (i := 33) (by decide +kernel)), rfl⟩⟩
def mX7_isThing : ev_M := (yX7_isThing, cX7_isThing, 2, some (.boolean), 1, 1, 25, 0, 0)
theorem ok_X7_isThing : ev_MO mX7_isThing := ⟨ev_in (List.mem_of_getElem? (i := 1044) (by decide +kernel)) rfl, ev_in (List.mem_of_getElem? (i := 9) (by decide +kernel)) rfl, by decide +kernel, by decide +kernel, by decide +kernel⟩
theorem mk_X7_isThing : ev_MV mX7_isThing := ⟨ev_in (List.mem_of_getElem? (i := 1043) (by decide +kernel)) rfl, List.mem_filter.mpr ⟨List.mem_append_left _ (List.mem_of_getElem? (i := 37) (by decide +kernel)), rfl⟩⟩
def mX7_fillsOn : ev_M := (yX7_fillsOn, cX7_fillsOn, 6, some (.int), 2, 0, 0, 0, 0)
theorem ok_X7_fillsOn : ev_MO mX7_fillsOn := ⟨ev_in (List.mem_of_getElem? (i := 1032) (by decide +kernel)) rfl, ev_in (List.mem_of_getElem? (i := 9) (by decide +kernel)) rfl, by decide +kernel, by decide +kernel, by decide +kernel⟩
theorem mk_X7_fillsOn : ev_MV mX7_fillsOn := ⟨ev_in (List.mem_of_getElem? (i := 1031) (by decide +kernel)) rfl, List.mem_filter.mpr ⟨List.mem_append_left _ (List.mem_of_getElem? (i := 35) (by decide +kernel)), rfl⟩⟩
def mX7_costsOn : ev_M := (yX7_costsOn, cX7_costsOn, 5, some (.int), 2, 0, 0, 0, 0)
theorem ok_X7_costsOn : ev_MO mX7_costsOn := ⟨ev_in (List.mem_of_getElem? (i := 1048) (by decide +kernel)) rfl, ev_in (List.mem_of_getElem? (i := 9) (by decide +kernel)) rfl, by decide +kernel, by decide +kernel, by decide +kernel⟩
theorem mk_X7_costsOn : ev_MV mX7_costsOn := ⟨ev_in (List.mem_of_getElem? (i := 1047) (by decide +kernel)) rfl, List.mem_filter.mpr ⟨List.mem_append_left _ (List.mem_of_getElem? (i := 38) (by decide +kernel)), rfl⟩⟩
def mX7_filledOn : ev_M := (yX7_filledOn, cX7_filledOn, 5, some (.int), 2, 1, 25, 0, 0)
theorem ok_X7_filledOn : ev_MO mX7_filledOn := ⟨ev_in (List.mem_of_getElem? (i := 1028) (by decide +kernel)) rfl, ev_in (List.mem_of_getElem? (i := 9) (by decide +kernel)) rfl, by decide +kernel, by decide +kernel, by decide +kernel⟩
theorem mk_X7_filledOn : ev_MV mX7_filledOn := ⟨ev_in (List.mem_of_getElem? (i := 1027) (by decide +kernel)) rfl, List.mem_filter.mpr ⟨List.mem_append_left _ (List.mem_of_getElem? (i := 34) (by decide +kernel)), rfl⟩⟩
def mX7_losesOn : ev_M := (yX7_losesOn, cX7_losesOn, 4, none, 2, 1, 24, 0, 0)
theorem ok_X7_losesOn : ev_MO mX7_losesOn := ⟨ev_in (List.mem_of_getElem? (i := 1104) (by decide +kernel)) rfl, ev_in (List.mem_of_getElem? (i := 9) (by decide +kernel)) rfl, by decide +kernel, by decide +kernel, by decide +kernel⟩
theorem mk_X7_losesOn : ev_MV mX7_losesOn := ⟨ev_in (List.mem_of_getElem? (i := 1103) (by decide +kernel)) rfl, List.mem_filter.mpr ⟨List.mem_append_left _ (List.mem_of_getElem? (i := 43) (by decide +kernel)), rfl⟩⟩
def mX7_floatsOn : ev_M := (yX7_floatsOn, cX7_floatsOn, 5, none, 2, 2, 49, 0, 0)
theorem ok_X7_floatsOn : ev_MO mX7_floatsOn := ⟨ev_in (List.mem_of_getElem? (i := 1108) (by decide +kernel)) rfl, ev_in (List.mem_of_getElem? (i := 9) (by decide +kernel)) rfl, by decide +kernel, by decide +kernel, by decide +kernel⟩
theorem mk_X7_floatsOn : ev_MV mX7_floatsOn := ⟨ev_in (List.mem_of_getElem? (i := 1107) (by decide +kernel)) rfl, List.mem_filter.mpr ⟨List.mem_append_left _ (List.mem_of_getElem? (i := 44) (by decide +kernel)), rfl⟩⟩
def mX7_dayOn : ev_M := (yX7_dayOn, cX7_dayOn, 7, none, 2, 3, 73, 0, 0)
theorem ok_X7_dayOn : ev_MO mX7_dayOn := ⟨ev_in (List.mem_of_getElem? (i := 1100) (by decide +kernel)) rfl, ev_in (List.mem_of_getElem? (i := 9) (by decide +kernel)) rfl, by decide +kernel, by decide +kernel, by decide +kernel⟩
theorem mk_X7_dayOn : ev_MV mX7_dayOn := ⟨ev_in (List.mem_of_getElem? (i := 1099) (by decide +kernel)) rfl, List.mem_filter.mpr ⟨List.mem_append_left _ (List.mem_of_getElem? (i := 42) (by decide +kernel)), rfl⟩⟩
def mX7_riseOn : ev_M := (yX7_riseOn, cX7_riseOn, 2, some (.int), 1, 0, 0, 0, 0)
theorem ok_X7_riseOn : ev_MO mX7_riseOn := ⟨ev_in (List.mem_of_getElem? (i := 1096) (by decide +kernel)) rfl, ev_in (List.mem_of_getElem? (i := 9) (by decide +kernel)) rfl, by decide +kernel, by decide +kernel, by decide +kernel⟩
theorem mk_X7_riseOn : ev_MV mX7_riseOn := ⟨ev_in (List.mem_of_getElem? (i := 1095) (by decide +kernel)) rfl, List.mem_filter.mpr ⟨List.mem_append_left _ (List.mem_of_getElem? (i := 41) (by decide +kernel)), rfl⟩⟩
def mX7_afloatOn : ev_M := (yX7_afloatOn, cX7_afloatOn, 4, some (.int), 1, 0, 0, 0, 0)
theorem ok_X7_afloatOn : ev_MO mX7_afloatOn := ⟨ev_in (List.mem_of_getElem? (i := 1011) (by decide +kernel)) rfl, ev_in (List.mem_of_getElem? (i := 9) (by decide +kernel)) rfl, by decide +kernel, by decide +kernel, by decide +kernel⟩
theorem mk_X7_afloatOn : ev_MV mX7_afloatOn := ⟨ev_in (List.mem_of_getElem? (i := 1010) (by decide +kernel)) rfl, List.mem_filter.mpr ⟨List.mem_append_left _ (List.mem_of_getElem? (i := 31) (by decide +kernel)), rfl⟩⟩
def mX7_thoseOn : ev_M := (yX7_thoseOn, cX7_thoseOn, 5, some (.int), 2, 0, 0, 0, 0)
theorem ok_X7_thoseOn : ev_MO mX7_thoseOn := ⟨ev_in (List.mem_of_getElem? (i := 1015) (by decide +kernel)) rfl, ev_in (List.mem_of_getElem? (i := 9) (by decide +kernel)) rfl, by decide +kernel, by decide +kernel, by decide +kernel⟩
theorem mk_X7_thoseOn : ev_MV mX7_thoseOn := ⟨ev_in (List.mem_of_getElem? (i := 1014) (by decide +kernel)) rfl, List.mem_filter.mpr ⟨List.mem_append_left _ (List.mem_of_getElem? (i := 32) (by decide +kernel)), rfl⟩⟩
def mX7_bitsOf : ev_M := (yX7_bitsOf, cX7_bitsOf, 3, some (.int), 1, 0, 0, 0, 0)
theorem ok_X7_bitsOf : ev_MO mX7_bitsOf := ⟨ev_in (List.mem_of_getElem? (i := 1216) (by decide +kernel)) rfl, ev_in (List.mem_of_getElem? (i := 9) (by decide +kernel)) rfl, by decide +kernel, by decide +kernel, by decide +kernel⟩
theorem mk_X7_bitsOf : Cond.static (ev_y mX7_bitsOf) ∈ ev_tbl := ev_in (List.mem_of_getElem? (i := 1215) (by decide +kernel)) rfl
def mX7_ofHouse : ev_M := (yX7_ofHouse, cX7_ofHouse, 5, some (.int), 2, 0, 0, 0, 0)
theorem ok_X7_ofHouse : ev_MO mX7_ofHouse := ⟨ev_in (List.mem_of_getElem? (i := 1036) (by decide +kernel)) rfl, ev_in (List.mem_of_getElem? (i := 9) (by decide +kernel)) rfl, by decide +kernel, by decide +kernel, by decide +kernel⟩
theorem mk_X7_ofHouse : ev_MV mX7_ofHouse := ⟨ev_in (List.mem_of_getElem? (i := 1035) (by decide +kernel)) rfl, List.mem_filter.mpr ⟨List.mem_append_left _ (List.mem_of_getElem? (i := 36) (by decide +kernel)), rfl⟩⟩
def mX7_rule : ev_M := (yX7_rule, cX7_rule, 2, some (.int), 1, 1, 24, 0, 0)
theorem ok_X7_rule : ev_MO mX7_rule := ⟨ev_in (List.mem_of_getElem? (i := 1007) (by decide +kernel)) rfl, ev_in (List.mem_of_getElem? (i := 9) (by decide +kernel)) rfl, by decide +kernel, by decide +kernel, by decide +kernel⟩
theorem mk_X7_rule : ev_MV mX7_rule := ⟨ev_in (List.mem_of_getElem? (i := 1005) (by decide +kernel)) rfl, ev_in (List.mem_of_getElem? (i := 1006) (by decide +kernel)) rfl⟩
def mX7_house : ev_M := (yX7_house, cX7_house, 3, some (.int), 2, 2, 49, 0, 0)
theorem ok_X7_house : ev_MO mX7_house := ⟨ev_in (List.mem_of_getElem? (i := 1019) (by decide +kernel)) rfl, ev_in (List.mem_of_getElem? (i := 9) (by decide +kernel)) rfl, by decide +kernel, by decide +kernel, by decide +kernel⟩
theorem mk_X7_house : ev_MV mX7_house := ⟨ev_in (List.mem_of_getElem? (i := 1017) (by decide +kernel)) rfl, ev_in (List.mem_of_getElem? (i := 1018) (by decide +kernel)) rfl⟩
def mX7_thing : ev_M := (yX7_thing, cX7_thing, 3, some (.int), 2, 2, 46, 0, 0)
theorem ok_X7_thing : ev_MO mX7_thing := ⟨ev_in (List.mem_of_getElem? (i := 1040) (by decide +kernel)) rfl, ev_in (List.mem_of_getElem? (i := 9) (by decide +kernel)) rfl, by decide +kernel, by decide +kernel, by decide +kernel⟩
theorem mk_X7_thing : ev_MV mX7_thing := ⟨ev_in (List.mem_of_getElem? (i := 1038) (by decide +kernel)) rfl, ev_in (List.mem_of_getElem? (i := 1039) (by decide +kernel)) rfl⟩
def mX7_rise : ev_M := (yX7_rise, cX7_rise, 2, some (.int), 1, 1, 25, 0, 0)
theorem ok_X7_rise : ev_MO mX7_rise := ⟨ev_in (List.mem_of_getElem? (i := 1052) (by decide +kernel)) rfl, ev_in (List.mem_of_getElem? (i := 9) (by decide +kernel)) rfl, by decide +kernel, by decide +kernel, by decide +kernel⟩
theorem mk_X7_rise : ev_MV mX7_rise := ⟨ev_in (List.mem_of_getElem? (i := 1050) (by decide +kernel)) rfl, ev_in (List.mem_of_getElem? (i := 1051) (by decide +kernel)) rfl⟩
def mX7_puts : ev_M := (yX7_puts, cX7_puts, 6, some (.int), 4, 0, 0, 0, 0)
theorem ok_X7_puts : ev_MO mX7_puts := ⟨ev_in (List.mem_of_getElem? (i := 1061) (by decide +kernel)) rfl, ev_in (List.mem_of_getElem? (i := 9) (by decide +kernel)) rfl, by decide +kernel, by decide +kernel, by decide +kernel⟩
theorem mk_X7_puts : ev_MV mX7_puts := ⟨ev_in (List.mem_of_getElem? (i := 1060) (by decide +kernel)) rfl, List.mem_filter.mpr ⟨List.mem_append_left _ (List.mem_of_getElem? (i := 39) (by decide +kernel)), rfl⟩⟩
def mX7_build : ev_M := (yX7_build, cX7_build, 5, some (.int), 3, 2, 46, 0, 0)
theorem ok_X7_build : ev_MO mX7_build := ⟨ev_in (List.mem_of_getElem? (i := 1056) (by decide +kernel)) rfl, ev_in (List.mem_of_getElem? (i := 9) (by decide +kernel)) rfl, by decide +kernel, by decide +kernel, by decide +kernel⟩
theorem mk_X7_build : ev_MV mX7_build := ⟨ev_in (List.mem_of_getElem? (i := 1054) (by decide +kernel)) rfl, ev_in (List.mem_of_getElem? (i := 1055) (by decide +kernel)) rfl⟩
def mX7_alter : ev_M := (yX7_alter, cX7_alter, 5, some (.int), 3, 2, 46, 0, 0)
theorem ok_X7_alter : ev_MO mX7_alter := ⟨ev_in (List.mem_of_getElem? (i := 1065) (by decide +kernel)) rfl, ev_in (List.mem_of_getElem? (i := 9) (by decide +kernel)) rfl, by decide +kernel, by decide +kernel, by decide +kernel⟩
theorem mk_X7_alter : ev_MV mX7_alter := ⟨ev_in (List.mem_of_getElem? (i := 1063) (by decide +kernel)) rfl, ev_in (List.mem_of_getElem? (i := 1064) (by decide +kernel)) rfl⟩
def mX7_tide : ev_M := (yX7_tide, cX7_tide, 3, some (.int), 2, 1, 25, 0, 0)
theorem ok_X7_tide : ev_MO mX7_tide := ⟨ev_in (List.mem_of_getElem? (i := 1070) (by decide +kernel)) rfl, ev_in (List.mem_of_getElem? (i := 9) (by decide +kernel)) rfl, by decide +kernel, by decide +kernel, by decide +kernel⟩
theorem mk_X7_tide : ev_MV mX7_tide := ⟨ev_in (List.mem_of_getElem? (i := 1068) (by decide +kernel)) rfl, ev_in (List.mem_of_getElem? (i := 1069) (by decide +kernel)) rfl⟩
def mX7_blow : ev_M := (yX7_blow, cX7_blow, 2, some (.int), 1, 1, 25, 0, 0)
theorem ok_X7_blow : ev_MO mX7_blow := ⟨ev_in (List.mem_of_getElem? (i := 1075) (by decide +kernel)) rfl, ev_in (List.mem_of_getElem? (i := 9) (by decide +kernel)) rfl, by decide +kernel, by decide +kernel, by decide +kernel⟩
theorem mk_X7_blow : ev_MV mX7_blow := ⟨ev_in (List.mem_of_getElem? (i := 1073) (by decide +kernel)) rfl, ev_in (List.mem_of_getElem? (i := 1074) (by decide +kernel)) rfl⟩
def mX7_stowsOn : ev_M := (yX7_stowsOn, cX7_stowsOn, 5, some (.int), 2, 2, 49, 0, 0)
theorem ok_X7_stowsOn : ev_MO mX7_stowsOn := ⟨ev_in (List.mem_of_getElem? (i := 1083) (by decide +kernel)) rfl, ev_in (List.mem_of_getElem? (i := 9) (by decide +kernel)) rfl, by decide +kernel, by decide +kernel, by decide +kernel⟩
theorem mk_X7_stowsOn : ev_MV mX7_stowsOn := ⟨ev_in (List.mem_of_getElem? (i := 1082) (by decide +kernel)) rfl, List.mem_filter.mpr ⟨List.mem_append_left _ (List.mem_of_getElem? (i := 40) (by decide +kernel)), rfl⟩⟩
def mX7_stow : ev_M := (yX7_stow, cX7_stow, 2, some (.int), 1, 3, 73, 0, 0)
theorem ok_X7_stow : ev_MO mX7_stow := ⟨ev_in (List.mem_of_getElem? (i := 1079) (by decide +kernel)) rfl, ev_in (List.mem_of_getElem? (i := 9) (by decide +kernel)) rfl, by decide +kernel, by decide +kernel, by decide +kernel⟩
theorem mk_X7_stow : ev_MV mX7_stow := ⟨ev_in (List.mem_of_getElem? (i := 1077) (by decide +kernel)) rfl, ev_in (List.mem_of_getElem? (i := 1078) (by decide +kernel)) rfl⟩
def mX7_fetch : ev_M := (yX7_fetch, cX7_fetch, 4, some (.int), 1, 2, 49, 0, 0)
theorem ok_X7_fetch : ev_MO mX7_fetch := ⟨ev_in (List.mem_of_getElem? (i := 1087) (by decide +kernel)) rfl, ev_in (List.mem_of_getElem? (i := 9) (by decide +kernel)) rfl, by decide +kernel, by decide +kernel, by decide +kernel⟩
theorem mk_X7_fetch : ev_MV mX7_fetch := ⟨ev_in (List.mem_of_getElem? (i := 1085) (by decide +kernel)) rfl, ev_in (List.mem_of_getElem? (i := 1086) (by decide +kernel)) rfl⟩
def mX7_days : ev_M := (yX7_days, cX7_days, 4, some (.int), 1, 4, 99, 0, 0)
theorem ok_X7_days : ev_MO mX7_days := ⟨ev_in (List.mem_of_getElem? (i := 1091) (by decide +kernel)) rfl, ev_in (List.mem_of_getElem? (i := 9) (by decide +kernel)) rfl, by decide +kernel, by decide +kernel, by decide +kernel⟩
theorem mk_X7_days : ev_MV mX7_days := ⟨ev_in (List.mem_of_getElem? (i := 1089) (by decide +kernel)) rfl, ev_in (List.mem_of_getElem? (i := 1090) (by decide +kernel)) rfl⟩
def mX7_copies : ev_M := (yX7_copies, cX7_copies, 4, none, 2, 0, 0, 0, 0)
theorem ok_X7_copies : ev_MO mX7_copies := ⟨ev_in (List.mem_of_getElem? (i := 1121) (by decide +kernel)) rfl, ev_in (List.mem_of_getElem? (i := 9) (by decide +kernel)) rfl, by decide +kernel, by decide +kernel, by decide +kernel⟩
theorem mk_X7_copies : ev_MV mX7_copies := ⟨ev_in (List.mem_of_getElem? (i := 1120) (by decide +kernel)) rfl, List.mem_filter.mpr ⟨List.mem_append_left _ (List.mem_of_getElem? (i := 46) (by decide +kernel)), rfl⟩⟩
def mX7_daysGo : ev_M := (yX7_daysGo, cX7_daysGo, 4, some (.int), 2, 4, 99, 0, 0)
theorem ok_X7_daysGo : ev_MO mX7_daysGo := ⟨ev_in (List.mem_of_getElem? (i := 1117) (by decide +kernel)) rfl, ev_in (List.mem_of_getElem? (i := 9) (by decide +kernel)) rfl, by decide +kernel, by decide +kernel, by decide +kernel⟩
theorem mk_X7_daysGo : ev_MV mX7_daysGo := ⟨ev_in (List.mem_of_getElem? (i := 1116) (by decide +kernel)) rfl, List.mem_filter.mpr ⟨List.mem_append_left _ (List.mem_of_getElem? (i := 45) (by decide +kernel)), rfl⟩⟩
def mX7_runs : ev_M := (yX7_runs, cX7_runs, 4, some (.int), 2, 5, 122, 0, 0)
theorem ok_X7_runs : ev_MO mX7_runs := ⟨ev_in (List.mem_of_getElem? (i := 1112) (by decide +kernel)) rfl, ev_in (List.mem_of_getElem? (i := 9) (by decide +kernel)) rfl, by decide +kernel, by decide +kernel, by decide +kernel⟩
theorem mk_X7_runs : ev_MV mX7_runs := ⟨ev_in (List.mem_of_getElem? (i := 1110) (by decide +kernel)) rfl, ev_in (List.mem_of_getElem? (i := 1111) (by decide +kernel)) rfl⟩
def mX7_ahead : ev_M := (yX7_ahead, cX7_ahead, 4, some (.int), 3, 5, 122, 0, 0)
theorem ok_X7_ahead : ev_MO mX7_ahead := ⟨ev_in (List.mem_of_getElem? (i := 1125) (by decide +kernel)) rfl, ev_in (List.mem_of_getElem? (i := 9) (by decide +kernel)) rfl, by decide +kernel, by decide +kernel, by decide +kernel⟩
theorem mk_X7_ahead : ev_MV mX7_ahead := ⟨ev_in (List.mem_of_getElem? (i := 1123) (by decide +kernel)) rfl, ev_in (List.mem_of_getElem? (i := 1124) (by decide +kernel)) rfl⟩
def mX7_lost : ev_M := (yX7_lost, cX7_lost, 3, some (.int), 1, 4, 99, 0, 0)
theorem ok_X7_lost : ev_MO mX7_lost := ⟨ev_in (List.mem_of_getElem? (i := 1129) (by decide +kernel)) rfl, ev_in (List.mem_of_getElem? (i := 9) (by decide +kernel)) rfl, by decide +kernel, by decide +kernel, by decide +kernel⟩
theorem mk_X7_lost : ev_MV mX7_lost := ⟨ev_in (List.mem_of_getElem? (i := 1127) (by decide +kernel)) rfl, ev_in (List.mem_of_getElem? (i := 1128) (by decide +kernel)) rfl⟩
def mX7_meet : ev_M := (yX7_meet, cX7_meet, 5, some (.int), 2, 4, 99, 0, 0)
theorem ok_X7_meet : ev_MO mX7_meet := ⟨ev_in (List.mem_of_getElem? (i := 1133) (by decide +kernel)) rfl, ev_in (List.mem_of_getElem? (i := 9) (by decide +kernel)) rfl, by decide +kernel, by decide +kernel, by decide +kernel⟩
theorem mk_X7_meet : ev_MV mX7_meet := ⟨ev_in (List.mem_of_getElem? (i := 1131) (by decide +kernel)) rfl, ev_in (List.mem_of_getElem? (i := 1132) (by decide +kernel)) rfl⟩
def mX7_pack : ev_M := (yX7_pack, cX7_pack, 11, some (.int), 2, 2, 46, 0, 0)
theorem ok_X7_pack : ev_MO mX7_pack := ⟨ev_in (List.mem_of_getElem? (i := 1137) (by decide +kernel)) rfl, ev_in (List.mem_of_getElem? (i := 9) (by decide +kernel)) rfl, by decide +kernel, by decide +kernel, by decide +kernel⟩
theorem mk_X7_pack : ev_MV mX7_pack := ⟨ev_in (List.mem_of_getElem? (i := 1135) (by decide +kernel)) rfl, ev_in (List.mem_of_getElem? (i := 1136) (by decide +kernel)) rfl⟩
def mX7_need : ev_M := (yX7_need, cX7_need, 6, some (.int), 2, 5, 122, 0, 0)
theorem ok_X7_need : ev_MO mX7_need := ⟨ev_in (List.mem_of_getElem? (i := 1142) (by decide +kernel)) rfl, ev_in (List.mem_of_getElem? (i := 9) (by decide +kernel)) rfl, by decide +kernel, by decide +kernel, by decide +kernel⟩
theorem mk_X7_need : ev_MV mX7_need := ⟨ev_in (List.mem_of_getElem? (i := 1140) (by decide +kernel)) rfl, ev_in (List.mem_of_getElem? (i := 1141) (by decide +kernel)) rfl⟩
def mX7_high : ev_M := (yX7_high, cX7_high, 5, some (.int), 2, 5, 122, 0, 0)
theorem ok_X7_high : ev_MO mX7_high := ⟨ev_in (List.mem_of_getElem? (i := 1146) (by decide +kernel)) rfl, ev_in (List.mem_of_getElem? (i := 9) (by decide +kernel)) rfl, by decide +kernel, by decide +kernel, by decide +kernel⟩
theorem mk_X7_high : ev_MV mX7_high := ⟨ev_in (List.mem_of_getElem? (i := 1144) (by decide +kernel)) rfl, ev_in (List.mem_of_getElem? (i := 1145) (by decide +kernel)) rfl⟩
def mX7_leak : ev_M := (yX7_leak, cX7_leak, 6, some (.int), 2, 5, 122, 0, 0)
theorem ok_X7_leak : ev_MO mX7_leak := ⟨ev_in (List.mem_of_getElem? (i := 1150) (by decide +kernel)) rfl, ev_in (List.mem_of_getElem? (i := 9) (by decide +kernel)) rfl, by decide +kernel, by decide +kernel, by decide +kernel⟩
theorem mk_X7_leak : ev_MV mX7_leak := ⟨ev_in (List.mem_of_getElem? (i := 1148) (by decide +kernel)) rfl, ev_in (List.mem_of_getElem? (i := 1149) (by decide +kernel)) rfl⟩
def mX7_swap : ev_M := (yX7_swap, cX7_swap, 8, some (.int), 2, 5, 122, 0, 0)
theorem ok_X7_swap : ev_MO mX7_swap := ⟨ev_in (List.mem_of_getElem? (i := 1154) (by decide +kernel)) rfl, ev_in (List.mem_of_getElem? (i := 9) (by decide +kernel)) rfl, by decide +kernel, by decide +kernel, by decide +kernel⟩
theorem mk_X7_swap : ev_MV mX7_swap := ⟨ev_in (List.mem_of_getElem? (i := 1152) (by decide +kernel)) rfl, ev_in (List.mem_of_getElem? (i := 1153) (by decide +kernel)) rfl⟩
def mX7_save : ev_M := (yX7_save, cX7_save, 7, some (.int), 2, 5, 122, 0, 0)
theorem ok_X7_save : ev_MO mX7_save := ⟨ev_in (List.mem_of_getElem? (i := 1158) (by decide +kernel)) rfl, ev_in (List.mem_of_getElem? (i := 9) (by decide +kernel)) rfl, by decide +kernel, by decide +kernel, by decide +kernel⟩
theorem mk_X7_save : ev_MV mX7_save := ⟨ev_in (List.mem_of_getElem? (i := 1156) (by decide +kernel)) rfl, ev_in (List.mem_of_getElem? (i := 1157) (by decide +kernel)) rfl⟩
def mX7_kind : ev_M := (yX7_kind, cX7_kind, 8, some (.int), 3, 5, 122, 0, 0)
theorem ok_X7_kind : ev_MO mX7_kind := ⟨ev_in (List.mem_of_getElem? (i := 1162) (by decide +kernel)) rfl, ev_in (List.mem_of_getElem? (i := 9) (by decide +kernel)) rfl, by decide +kernel, by decide +kernel, by decide +kernel⟩
theorem mk_X7_kind : ev_MV mX7_kind := ⟨ev_in (List.mem_of_getElem? (i := 1160) (by decide +kernel)) rfl, ev_in (List.mem_of_getElem? (i := 1161) (by decide +kernel)) rfl⟩
def mX7_lowest : ev_M := (yX7_lowest, cX7_lowest, 11, some (.long), 3, 0, 0, 0, 0)
theorem ok_X7_lowest : ev_MO mX7_lowest := ⟨ev_in (List.mem_of_getElem? (i := 1174) (by decide +kernel)) rfl, ev_in (List.mem_of_getElem? (i := 9) (by decide +kernel)) rfl, by decide +kernel, by decide +kernel, by decide +kernel⟩
theorem mk_X7_lowest : Cond.static (ev_y mX7_lowest) ∈ ev_tbl := ev_in (List.mem_of_getElem? (i := 1173) (by decide +kernel)) rfl
def mX7_byStorm : ev_M := (yX7_byStorm, cX7_byStorm, 14, some (.long), 4, 4, 99, 0, 0)
theorem ok_X7_byStorm : ev_MO mX7_byStorm := ⟨ev_in (List.mem_of_getElem? (i := 1171) (by decide +kernel)) rfl, ev_in (List.mem_of_getElem? (i := 9) (by decide +kernel)) rfl, by decide +kernel, by decide +kernel, by decide +kernel⟩
theorem mk_X7_byStorm : ev_MV mX7_byStorm := ⟨ev_in (List.mem_of_getElem? (i := 1170) (by decide +kernel)) rfl, List.mem_filter.mpr ⟨List.mem_append_left _ (List.mem_of_getElem? (i := 47) (by decide +kernel)), rfl⟩⟩
def mX7_luck : ev_M := (yX7_luck, cX7_luck, 5, some (.long), 4, 5, 132, 0, 0)
theorem ok_X7_luck : ev_MO mX7_luck := ⟨ev_in (List.mem_of_getElem? (i := 1166) (by decide +kernel)) rfl, ev_in (List.mem_of_getElem? (i := 9) (by decide +kernel)) rfl, by decide +kernel, by decide +kernel, by decide +kernel⟩
theorem mk_X7_luck : ev_MV mX7_luck := ⟨ev_in (List.mem_of_getElem? (i := 1164) (by decide +kernel)) rfl, ev_in (List.mem_of_getElem? (i := 1165) (by decide +kernel)) rfl⟩
def mX7_mean : ev_M := (yX7_mean, cX7_mean, 4, some (.long), 3, 5, 132, 0, 0)
theorem ok_X7_mean : ev_MO mX7_mean := ⟨ev_in (List.mem_of_getElem? (i := 1179) (by decide +kernel)) rfl, ev_in (List.mem_of_getElem? (i := 9) (by decide +kernel)) rfl, by decide +kernel, by decide +kernel, by decide +kernel⟩
theorem mk_X7_mean : ev_MV mX7_mean := ⟨ev_in (List.mem_of_getElem? (i := 1177) (by decide +kernel)) rfl, ev_in (List.mem_of_getElem? (i := 1178) (by decide +kernel)) rfl⟩
def mX7_see : ev_M := (yX7_see, cX7_see, 3, some (.int), 2, 1, 25, 0, 0)
theorem ok_X7_see : ev_MO mX7_see := ⟨ev_in (List.mem_of_getElem? (i := 1183) (by decide +kernel)) rfl, ev_in (List.mem_of_getElem? (i := 9) (by decide +kernel)) rfl, by decide +kernel, by decide +kernel, by decide +kernel⟩
theorem mk_X7_see : ev_MV mX7_see := ⟨ev_in (List.mem_of_getElem? (i := 1181) (by decide +kernel)) rfl, ev_in (List.mem_of_getElem? (i := 1182) (by decide +kernel)) rfl⟩
def mX7_forget : ev_M := (yX7_forget, cX7_forget, 3, some (.int), 1, 1, 25, 0, 0)
theorem ok_X7_forget : ev_MO mX7_forget := ⟨ev_in (List.mem_of_getElem? (i := 1189) (by decide +kernel)) rfl, ev_in (List.mem_of_getElem? (i := 9) (by decide +kernel)) rfl, by decide +kernel, by decide +kernel, by decide +kernel⟩
theorem mk_X7_forget : ev_MV mX7_forget := ⟨ev_in (List.mem_of_getElem? (i := 1187) (by decide +kernel)) rfl, ev_in (List.mem_of_getElem? (i := 1188) (by decide +kernel)) rfl⟩
def mX7_isAsSeen : ev_M := (yX7_isAsSeen, cX7_isAsSeen, 5, some (.boolean), 1, 4, 99, 0, 0)
theorem ok_X7_isAsSeen : ev_MO mX7_isAsSeen := ⟨ev_in (List.mem_of_getElem? (i := 1201) (by decide +kernel)) rfl, ev_in (List.mem_of_getElem? (i := 9) (by decide +kernel)) rfl, by decide +kernel, by decide +kernel, by decide +kernel⟩
theorem mk_X7_isAsSeen : ev_MV mX7_isAsSeen := ⟨ev_in (List.mem_of_getElem? (i := 1200) (by decide +kernel)) rfl, List.mem_filter.mpr ⟨List.mem_append_left _ (List.mem_of_getElem? (i := 49) (by decide +kernel)), rfl⟩⟩
def mX7_numbersAt : ev_M := (yX7_numbersAt, cX7_numbersAt, 6, some (.int), 2, 5, 123, 0, 0)
theorem ok_X7_numbersAt : ev_MO mX7_numbersAt := ⟨ev_in (List.mem_of_getElem? (i := 1197) (by decide +kernel)) rfl, ev_in (List.mem_of_getElem? (i := 9) (by decide +kernel)) rfl, by decide +kernel, by decide +kernel, by decide +kernel⟩
theorem mk_X7_numbersAt : ev_MV mX7_numbersAt := ⟨ev_in (List.mem_of_getElem? (i := 1196) (by decide +kernel)) rfl, List.mem_filter.mpr ⟨List.mem_append_left _ (List.mem_of_getElem? (i := 48) (by decide +kernel)), rfl⟩⟩
def mX7_kinds : ev_M := (yX7_kinds, cX7_kinds, 2, some (.int), 1, 6, 148, 0, 0)
theorem ok_X7_kinds : ev_MO mX7_kinds := ⟨ev_in (List.mem_of_getElem? (i := 1193) (by decide +kernel)) rfl, ev_in (List.mem_of_getElem? (i := 9) (by decide +kernel)) rfl, by decide +kernel, by decide +kernel, by decide +kernel⟩
theorem mk_X7_kinds : ev_MV mX7_kinds := ⟨ev_in (List.mem_of_getElem? (i := 1191) (by decide +kernel)) rfl, ev_in (List.mem_of_getElem? (i := 1192) (by decide +kernel)) rfl⟩
def mX7_leaks : ev_M := (yX7_leaks, cX7_leaks, 2, some (.int), 1, 6, 148, 0, 0)
theorem ok_X7_leaks : ev_MO mX7_leaks := ⟨ev_in (List.mem_of_getElem? (i := 1205) (by decide +kernel)) rfl, ev_in (List.mem_of_getElem? (i := 9) (by decide +kernel)) rfl, by decide +kernel, by decide +kernel, by decide +kernel⟩
theorem mk_X7_leaks : ev_MV mX7_leaks := ⟨ev_in (List.mem_of_getElem? (i := 1203) (by decide +kernel)) rfl, ev_in (List.mem_of_getElem? (i := 1204) (by decide +kernel)) rfl⟩
def mX7_rooms : ev_M := (yX7_rooms, cX7_rooms, 2, some (.int), 1, 6, 148, 0, 0)
theorem ok_X7_rooms : ev_MO mX7_rooms := ⟨ev_in (List.mem_of_getElem? (i := 1209) (by decide +kernel)) rfl, ev_in (List.mem_of_getElem? (i := 9) (by decide +kernel)) rfl, by decide +kernel, by decide +kernel, by decide +kernel⟩
theorem mk_X7_rooms : ev_MV mX7_rooms := ⟨ev_in (List.mem_of_getElem? (i := 1207) (by decide +kernel)) rfl, ev_in (List.mem_of_getElem? (i := 1208) (by decide +kernel)) rfl⟩
def mX7_ask : ev_M := (yX7_ask, cX7_ask, 11, some (.int), 2, 6, 148, 0, 0)
theorem ok_X7_ask : ev_MO mX7_ask := ⟨ev_in (List.mem_of_getElem? (i := 1213) (by decide +kernel)) rfl, ev_in (List.mem_of_getElem? (i := 9) (by decide +kernel)) rfl, by decide +kernel, by decide +kernel, by decide +kernel⟩
theorem mk_X7_ask : ev_MV mX7_ask := ⟨ev_in (List.mem_of_getElem? (i := 1211) (by decide +kernel)) rfl, ev_in (List.mem_of_getElem? (i := 1212) (by decide +kernel)) rfl⟩
def mX7_drift : ev_M := (yX7_drift, cX7_drift, 7, some (.int), 3, 4, 99, 0, 0)
theorem ok_X7_drift : ev_MO mX7_drift := ⟨ev_in (List.mem_of_getElem? (i := 1220) (by decide +kernel)) rfl, ev_in (List.mem_of_getElem? (i := 9) (by decide +kernel)) rfl, by decide +kernel, by decide +kernel, by decide +kernel⟩
theorem mk_X7_drift : ev_MV mX7_drift := ⟨ev_in (List.mem_of_getElem? (i := 1218) (by decide +kernel)) rfl, ev_in (List.mem_of_getElem? (i := 1219) (by decide +kernel)) rfl⟩
def mX7_keep : ev_M := (yX7_keep, cX7_keep, 3, some (.int), 1, 1, 25, 0, 0)
theorem ok_X7_keep : ev_MO mX7_keep := ⟨ev_in (List.mem_of_getElem? (i := 1225) (by decide +kernel)) rfl, ev_in (List.mem_of_getElem? (i := 9) (by decide +kernel)) rfl, by decide +kernel, by decide +kernel, by decide +kernel⟩
theorem mk_X7_keep : ev_MV mX7_keep := ⟨ev_in (List.mem_of_getElem? (i := 1223) (by decide +kernel)) rfl, ev_in (List.mem_of_getElem? (i := 1224) (by decide +kernel)) rfl⟩
def mX7_back : ev_M := (yX7_back, cX7_back, 2, some (.int), 1, 1, 25, 0, 0)
theorem ok_X7_back : ev_MO mX7_back := ⟨ev_in (List.mem_of_getElem? (i := 1229) (by decide +kernel)) rfl, ev_in (List.mem_of_getElem? (i := 9) (by decide +kernel)) rfl, by decide +kernel, by decide +kernel, by decide +kernel⟩
theorem mk_X7_back : ev_MV mX7_back := ⟨ev_in (List.mem_of_getElem? (i := 1227) (by decide +kernel)) rfl, ev_in (List.mem_of_getElem? (i := 1228) (by decide +kernel)) rfl⟩
def mX7_sheet : ev_M := (yX7_sheet, cX7_sheet, 5, some (.int), 3, 1, 25, 0, 0)
theorem ok_X7_sheet : ev_MO mX7_sheet := ⟨ev_in (List.mem_of_getElem? (i := 1233) (by decide +kernel)) rfl, ev_in (List.mem_of_getElem? (i := 9) (by decide +kernel)) rfl, by decide +kernel, by decide +kernel, by decide +kernel⟩
theorem mk_X7_sheet : ev_MV mX7_sheet := ⟨ev_in (List.mem_of_getElem? (i := 1231) (by decide +kernel)) rfl, ev_in (List.mem_of_getElem? (i := 1232) (by decide +kernel)) rfl⟩
def mX7_lay : ev_M := (yX7_lay, cX7_lay, 4, some (.int), 3, 1, 25, 0, 0)
theorem ok_X7_lay : ev_MO mX7_lay := ⟨ev_in (List.mem_of_getElem? (i := 1237) (by decide +kernel)) rfl, ev_in (List.mem_of_getElem? (i := 9) (by decide +kernel)) rfl, by decide +kernel, by decide +kernel, by decide +kernel⟩
theorem mk_X7_lay : ev_MV mX7_lay := ⟨ev_in (List.mem_of_getElem? (i := 1235) (by decide +kernel)) rfl, ev_in (List.mem_of_getElem? (i := 1236) (by decide +kernel)) rfl⟩
def mX7_read : ev_M := (yX7_read, cX7_read, 8, some (.int), 4, 3, 73, 0, 0)
theorem ok_X7_read : ev_MO mX7_read := ⟨ev_in (List.mem_of_getElem? (i := 1241) (by decide +kernel)) rfl, ev_in (List.mem_of_getElem? (i := 9) (by decide +kernel)) rfl, by decide +kernel, by decide +kernel, by decide +kernel⟩
theorem mk_X7_read : ev_MV mX7_read := ⟨ev_in (List.mem_of_getElem? (i := 1239) (by decide +kernel)) rfl, ev_in (List.mem_of_getElem? (i := 1240) (by decide +kernel)) rfl⟩
def mX7_torn : ev_M := (yX7_torn, cX7_torn, 1, some (.int), 0, 0, 0, 0, 0)
theorem ok_X7_torn : ev_MO mX7_torn := ⟨ev_in (List.mem_of_getElem? (i := 1246) (by decide +kernel)) rfl, ev_in (List.mem_of_getElem? (i := 9) (by decide +kernel)) rfl, by decide +kernel, by decide +kernel, by decide +kernel⟩
theorem mk_X7_torn : ev_MV mX7_torn := ⟨ev_in (List.mem_of_getElem? (i := 1244) (by decide +kernel)) rfl, ev_in (List.mem_of_getElem? (i := 1245) (by decide +kernel)) rfl⟩
def mX7_count : ev_M := (yX7_count, cX7_count, 5, some (.int), 1, 0, 0, 0, 0)
theorem ok_X7_count : ev_MO mX7_count := ⟨ev_in (List.mem_of_getElem? (i := 1250) (by decide +kernel)) rfl, ev_in (List.mem_of_getElem? (i := 9) (by decide +kernel)) rfl, by decide +kernel, by decide +kernel, by decide +kernel⟩
theorem mk_X7_count : ev_MV mX7_count := ⟨ev_in (List.mem_of_getElem? (i := 1248) (by decide +kernel)) rfl, ev_in (List.mem_of_getElem? (i := 1249) (by decide +kernel)) rfl⟩
def mJ6_bitCount_0f7a4 : ev_M := (yJ6_bitCount_0f7a4, cJ6_bitCount_0f7a4, 1, some (.int), 1, 0, 0, 0, 0)
theorem ok_J6_bitCount_0f7a4 : ev_MO mJ6_bitCount_0f7a4 := ⟨ev_in (List.mem_of_getElem? (i := 698) (by decide +kernel)) rfl, ev_in (List.mem_of_getElem? (i := 16) (by decide +kernel)) rfl, by decide +kernel, by decide +kernel, by decide +kernel⟩
theorem mk_J6_bitCount_0f7a4 : Cond.static (ev_y mJ6_bitCount_0f7a4) ∈ ev_tbl := ev_in (List.mem_of_getElem? (i := 697) (by decide +kernel)) rfl
def mJ9_floorMod_7cf53 : ev_M := (yJ9_floorMod_7cf53, cJ9_floorMod_7cf53, 3, some (.int), 2, 0, 0, 0, 0)
theorem ok_J9_floorMod_7cf53 : ev_MO mJ9_floorMod_7cf53 := ⟨ev_in (List.mem_of_getElem? (i := 578) (by decide +kernel)) rfl, ev_in (List.mem_of_getElem? (i := 14) (by decide +kernel)) rfl, by decide +kernel, by decide +kernel, by decide +kernel⟩
theorem mk_J9_floorMod_7cf53 : Cond.static (ev_y mJ9_floorMod_7cf53) ∈ ev_tbl := ev_in (List.mem_of_getElem? (i := 577) (by decide +kernel)) rfl
def mJ9_max_7cf53 : ev_M := (yJ9_max_7cf53, cJ9_max_7cf53, 2, some (.int), 2, 0, 0, 0, 0)
theorem ok_J9_max_7cf53 : ev_MO mJ9_max_7cf53 := ⟨ev_in (List.mem_of_getElem? (i := 563) (by decide +kernel)) rfl, ev_in (List.mem_of_getElem? (i := 14) (by decide +kernel)) rfl, by decide +kernel, by decide +kernel, by decide +kernel⟩
theorem mk_J9_max_7cf53 : Cond.static (ev_y mJ9_max_7cf53) ∈ ev_tbl := ev_in (List.mem_of_getElem? (i := 562) (by decide +kernel)) rfl
def mJ9_min_7cf53 : ev_M := (yJ9_min_7cf53, cJ9_min_7cf53, 2, some (.int), 2, 0, 0, 0, 0)
theorem ok_J9_min_7cf53 : ev_MO mJ9_min_7cf53 := ⟨ev_in (List.mem_of_getElem? (i := 444) (by decide +kernel)) rfl, ev_in (List.mem_of_getElem? (i := 14) (by decide +kernel)) rfl, by decide +kernel, by decide +kernel, by decide +kernel⟩
theorem mk_J9_min_7cf53 : Cond.static (ev_y mJ9_min_7cf53) ∈ ev_tbl := ev_in (List.mem_of_getElem? (i := 443) (by decide +kernel)) rfl
def mJ0_length_8abf5 : ev_M := (yJ0_length_8abf5, cJ0_length_8abf5, 1, some (.int), 0, 1, 20, 0, 0)
theorem ok_J0_length_8abf5 : ev_MO mJ0_length_8abf5 := ⟨ev_in (List.mem_of_getElem? (i := 344) (by decide +kernel)) rfl, ev_in (List.mem_of_getElem? (i := 10) (by decide +kernel)) rfl, by decide +kernel, by decide +kernel, by decide +kernel⟩
theorem mk_J0_length_8abf5 : ev_MV mJ0_length_8abf5 := ⟨ev_in (List.mem_of_getElem? (i := 342) (by decide +kernel)) rfl, ev_in (List.mem_of_getElem? (i := 343) (by decide +kernel)) rfl⟩
def mJ0_charAt_5068e : ev_M := (yJ0_charAt_5068e, cJ0_charAt_5068e, 2, some (.char), 1, 4, 85, 0, 0)
theorem ok_J0_charAt_5068e : ev_MO mJ0_charAt_5068e := ⟨ev_in (List.mem_of_getElem? (i := 354) (by decide +kernel)) rfl, ev_in (List.mem_of_getElem? (i := 10) (by decide +kernel)) rfl, by decide +kernel, by decide +kernel, by decide +kernel⟩
theorem mk_J0_charAt_5068e : ev_MV mJ0_charAt_5068e := ⟨ev_in (List.mem_of_getElem? (i := 352) (by decide +kernel)) rfl, ev_in (List.mem_of_getElem? (i := 353) (by decide +kernel)) rfl⟩
def mJ0_coder_7d493 : ev_M := (yJ0_coder_7d493, cJ0_coder_7d493, 1, some (.byte), 0, 0, 0, 0, 0)
theorem ok_J0_coder_7d493 : ev_MO mJ0_coder_7d493 := ⟨ev_in (List.mem_of_getElem? (i := 348) (by decide +kernel)) rfl, ev_in (List.mem_of_getElem? (i := 10) (by decide +kernel)) rfl, by decide +kernel, by decide +kernel, by decide +kernel⟩
theorem mk_J0_coder_7d493 : ev_MV mJ0_coder_7d493 := ⟨ev_in (List.mem_of_getElem? (i := 346) (by decide +kernel)) rfl, ev_in (List.mem_of_getElem? (i := 347) (by decide +kernel)) rfl⟩
def mJ0_isLatin1_aae02 : ev_M := (yJ0_isLatin1_aae02, cJ0_isLatin1_aae02, 1, some (.boolean), 0, 0, 0, 0, 0)
theorem ok_J0_isLatin1_aae02 : ev_MO mJ0_isLatin1_aae02 := ⟨ev_in (List.mem_of_getElem? (i := 358) (by decide +kernel)) rfl, ev_in (List.mem_of_getElem? (i := 10) (by decide +kernel)) rfl, by decide +kernel, by decide +kernel, by decide +kernel⟩
theorem mk_J0_isLatin1_aae02 : ev_MV mJ0_isLatin1_aae02 := ⟨ev_in (List.mem_of_getElem? (i := 356) (by decide +kernel)) rfl, ev_in (List.mem_of_getElem? (i := 357) (by decide +kernel)) rfl⟩
def mJ0_checkIndex_df160 : ev_M := (yJ0_checkIndex_df160, cJ0_checkIndex_df160, 2, none, 2, 1, 22, 0, 0)
theorem ok_J0_checkIndex_df160 : ev_MO mJ0_checkIndex_df160 := ⟨ev_in (List.mem_of_getElem? (i := 364) (by decide +kernel)) rfl, ev_in (List.mem_of_getElem? (i := 10) (by decide +kernel)) rfl, by decide +kernel, by decide +kernel, by decide +kernel⟩
theorem mk_J0_checkIndex_df160 : Cond.static (ev_y mJ0_checkIndex_df160) ∈ ev_tbl := ev_in (List.mem_of_getElem? (i := 363) (by decide +kernel)) rfl
def mJ1_charAt_3b067 : ev_M := (yJ1_charAt_3b067, cJ1_charAt_3b067, 2, some (.char), 2, 2, 43, 0, 0)
theorem ok_J1_charAt_3b067 : ev_MO mJ1_charAt_3b067 := ⟨ev_in (List.mem_of_getElem? (i := 361) (by decide +kernel)) rfl, ev_in (List.mem_of_getElem? (i := 11) (by decide +kernel)) rfl, by decide +kernel, by decide +kernel, by decide +kernel⟩
theorem mk_J1_charAt_3b067 : Cond.static (ev_y mJ1_charAt_3b067) ∈ ev_tbl := ev_in (List.mem_of_getElem? (i := 360) (by decide +kernel)) rfl
def mJ2_getChar_3b067 : ev_M := (yJ2_getChar_3b067, cJ2_getChar_3b067, 2, some (.char), 2, 1, 20, 0, 0)
theorem ok_J2_getChar_3b067 : ev_MO mJ2_getChar_3b067 := ⟨ev_in (List.mem_of_getElem? (i := 382) (by decide +kernel)) rfl, ev_in (List.mem_of_getElem? (i := 13) (by decide +kernel)) rfl, by decide +kernel, by decide +kernel, by decide +kernel⟩
theorem mk_J2_getChar_3b067 : Cond.static (ev_y mJ2_getChar_3b067) ∈ ev_tbl := ev_in (List.mem_of_getElem? (i := 381) (by decide +kernel)) rfl
def mJ2_length_9d52b : ev_M := (yJ2_length_9d52b, cJ2_length_9d52b, 1, some (.int), 1, 0, 0, 0, 0)
theorem ok_J2_length_9d52b : ev_MO mJ2_length_9d52b := ⟨ev_in (List.mem_of_getElem? (i := 378) (by decide +kernel)) rfl, ev_in (List.mem_of_getElem? (i := 13) (by decide +kernel)) rfl, by decide +kernel, by decide +kernel, by decide +kernel⟩
theorem mk_J2_length_9d52b : Cond.static (ev_y mJ2_length_9d52b) ∈ ev_tbl := ev_in (List.mem_of_getElem? (i := 377) (by decide +kernel)) rfl
def mJ2_charAt_3b067 : ev_M := (yJ2_charAt_3b067, cJ2_charAt_3b067, 2, some (.char), 2, 3, 64, 0, 0)
theorem ok_J2_charAt_3b067 : ev_MO mJ2_charAt_3b067 := ⟨ev_in (List.mem_of_getElem? (i := 372) (by decide +kernel)) rfl, ev_in (List.mem_of_getElem? (i := 13) (by decide +kernel)) rfl, by decide +kernel, by decide +kernel, by decide +kernel⟩
theorem mk_J2_charAt_3b067 : Cond.static (ev_y mJ2_charAt_3b067) ∈ ev_tbl := ev_in (List.mem_of_getElem? (i := 371) (by decide +kernel)) rfl
def mJ2_checkIndex_2214a : ev_M := (yJ2_checkIndex_2214a, cJ2_checkIndex_2214a, 2, none, 2, 2, 43, 0, 0)
theorem ok_J2_checkIndex_2214a : ev_MO mJ2_checkIndex_2214a := ⟨ev_in (List.mem_of_getElem? (i := 375) (by decide +kernel)) rfl, ev_in (List.mem_of_getElem? (i := 13) (by decide +kernel)) rfl, by decide +kernel, by decide +kernel, by decide +kernel⟩
theorem mk_J2_checkIndex_2214a : Cond.static (ev_y mJ2_checkIndex_2214a) ∈ ev_tbl := ev_in (List.mem_of_getElem? (i := 374) (by decide +kernel)) rfl
def mJ7_fill_53178 : ev_M := (yJ7_fill_53178, cJ7_fill_53178, 4, none, 2, 0, 0, 0, 0)
theorem ok_J7_fill_53178 : ev_MO mJ7_fill_53178 := ⟨ev_in (List.mem_of_getElem? (i := 33) (by decide +kernel)) rfl, ev_in (List.mem_of_getElem? (i := 3) (by decide +kernel)) rfl, by decide +kernel, by decide +kernel, by decide +kernel⟩
theorem mk_J7_fill_53178 : Cond.static (ev_y mJ7_fill_53178) ∈ ev_tbl := ev_in (List.mem_of_getElem? (i := 32) (by decide +kernel)) rfl
def mJ3_checkIndex_8e157 : ev_M := (yJ3_checkIndex_8e157, cJ3_checkIndex_8e157, 3, some (.int), 3, 0, 0, 0, 0)
theorem ok_J3_checkIndex_8e157 : ev_MO mJ3_checkIndex_8e157 := ⟨ev_in (List.mem_of_getElem? (i := 369) (by decide +kernel)) rfl, ev_in (List.mem_of_getElem? (i := 12) (by decide +kernel)) rfl, by decide +kernel, by decide +kernel, by decide +kernel⟩
theorem mk_J3_checkIndex_8e157 : Cond.static (ev_y mJ3_checkIndex_8e157) ∈ ev_tbl := ev_in (List.mem_of_getElem? (i := 368) (by decide +kernel)) rfl
theorem ml_L_9 : Cond.methodLink RL 9 yX6_init ∈ ev_tbl := ev_in (List.mem_of_getElem? (i := 19) (by decide +kernel)) rfl
theorem ml_X6_1 : Cond.methodLink RX6 1 objectInit ∈ ev_tbl := ev_in (List.mem_of_getElem? (i := 22) (by decide +kernel)) rfl
theorem ml_X6_9 : Cond.methodLink RX6 9 yX5_init ∈ ev_tbl := ev_in (List.mem_of_getElem? (i := 27) (by decide +kernel)) rfl
theorem ml_X5_3 : Cond.methodLink RX5 3 objectInit ∈ ev_tbl := ev_in (List.mem_of_getElem? (i := 30) (by decide +kernel)) rfl
theorem ml_X5_39 : Cond.methodLink RX5 39 yJ7_fill_53178 ∈ ev_tbl := ev_in (List.mem_of_getElem? (i := 31) (by decide +kernel)) rfl
theorem ml_X1_3 : Cond.methodLink RX1 3 objectInit ∈ ev_tbl := ev_in (List.mem_of_getElem? (i := 121) (by decide +kernel)) rfl
theorem ml_X4_1 : Cond.methodLink RX4 1 objectInit ∈ ev_tbl := ev_in (List.mem_of_getElem? (i := 127) (by decide +kernel)) rfl
theorem ml_X1_20 : Cond.methodLink RX1 20 yX5_init ∈ ev_tbl := ev_in (List.mem_of_getElem? (i := 140) (by decide +kernel)) rfl
theorem ml_X3_3 : Cond.methodLink RX3 3 objectInit ∈ ev_tbl := ev_in (List.mem_of_getElem? (i := 187) (by decide +kernel)) rfl
theorem ml_X0_3 : Cond.methodLink RX0 3 objectInit ∈ ev_tbl := ev_in (List.mem_of_getElem? (i := 204) (by decide +kernel)) rfl
theorem ml_X2_3 : Cond.methodLink RX2 3 objectInit ∈ ev_tbl := ev_in (List.mem_of_getElem? (i := 219) (by decide +kernel)) rfl
theorem ml_L_13 : Cond.methodLink RL 13 yX6_feed ∈ ev_tbl := ev_in (List.mem_of_getElem? (i := 268) (by decide +kernel)) rfl
theorem ml_X6_51 : Cond.methodLink RX6 51 yX6_within ∈ ev_tbl := ev_in (List.mem_of_getElem? (i := 272) (by decide +kernel)) rfl
theorem ml_X6_59 : Cond.methodLink RX6 59 yX4_addByte ∈ ev_tbl := ev_in (List.mem_of_getElem? (i := 275) (by decide +kernel)) rfl
theorem ml_L_18 : Cond.methodLink RL 18 yX6_end ∈ ev_tbl := ev_in (List.mem_of_getElem? (i := 279) (by decide +kernel)) rfl
theorem ml_L_22 : Cond.methodLink RL 22 yX6_text ∈ ev_tbl := ev_in (List.mem_of_getElem? (i := 283) (by decide +kernel)) rfl
theorem ml_X6_69 : Cond.methodLink RX6 69 yX1_readLines ∈ ev_tbl := ev_in (List.mem_of_getElem? (i := 287) (by decide +kernel)) rfl
theorem ml_X1_29 : Cond.methodLink RX1 29 yX5_clear ∈ ev_tbl := ev_in (List.mem_of_getElem? (i := 291) (by decide +kernel)) rfl
theorem ml_X1_55 : Cond.methodLink RX1 55 yX1_takeToken ∈ ev_tbl := ev_in (List.mem_of_getElem? (i := 295) (by decide +kernel)) rfl
theorem ml_X1_149 : Cond.methodLink RX1 149 yX1_isLetter ∈ ev_tbl := ev_in (List.mem_of_getElem? (i := 299) (by decide +kernel)) rfl
theorem ml_X1_152 : Cond.methodLink RX1 152 yX1_passLetters ∈ ev_tbl := ev_in (List.mem_of_getElem? (i := 303) (by decide +kernel)) rfl
theorem ml_X1_155 : Cond.methodLink RX1 155 yX1_isFigure ∈ ev_tbl := ev_in (List.mem_of_getElem? (i := 307) (by decide +kernel)) rfl
theorem ml_X1_158 : Cond.methodLink RX1 158 yX1_takeFigures ∈ ev_tbl := ev_in (List.mem_of_getElem? (i := 310) (by decide +kernel)) rfl
theorem ml_X1_68 : Cond.methodLink RX1 68 yX1_refuse ∈ ev_tbl := ev_in (List.mem_of_getElem? (i := 314) (by decide +kernel)) rfl
theorem ml_X1_62 : Cond.methodLink RX1 62 yX1_takeLine ∈ ev_tbl := ev_in (List.mem_of_getElem? (i := 318) (by decide +kernel)) rfl
theorem ml_X1_72 : Cond.methodLink RX1 72 yX1_wordHere ∈ ev_tbl := ev_in (List.mem_of_getElem? (i := 322) (by decide +kernel)) rfl
theorem ml_X1_161 : Cond.methodLink RX1 161 yX1_spellingOf ∈ ev_tbl := ev_in (List.mem_of_getElem? (i := 326) (by decide +kernel)) rfl
theorem ml_X1_165 : Cond.methodLink RX1 165 yX1_isSpelled ∈ ev_tbl := ev_in (List.mem_of_getElem? (i := 337) (by decide +kernel)) rfl
theorem ml_X1_183 : Cond.methodLink RX1 183 yJ0_length_8abf5 ∈ ev_tbl := ev_in (List.mem_of_getElem? (i := 341) (by decide +kernel)) rfl
theorem ml_J0_335 : Cond.methodLink RJ0 335 yJ0_coder_7d493 ∈ ev_tbl := ev_in (List.mem_of_getElem? (i := 345) (by decide +kernel)) rfl
theorem ml_X1_187 : Cond.methodLink RX1 187 yJ0_charAt_5068e ∈ ev_tbl := ev_in (List.mem_of_getElem? (i := 351) (by decide +kernel)) rfl
theorem ml_J0_492 : Cond.methodLink RJ0 492 yJ0_isLatin1_aae02 ∈ ev_tbl := ev_in (List.mem_of_getElem? (i := 355) (by decide +kernel)) rfl
theorem ml_J0_495 : Cond.methodLink RJ0 495 yJ1_charAt_3b067 ∈ ev_tbl := ev_in (List.mem_of_getElem? (i := 359) (by decide +kernel)) rfl
theorem ml_J1_9 : Cond.methodLink RJ1 9 yJ0_checkIndex_df160 ∈ ev_tbl := ev_in (List.mem_of_getElem? (i := 362) (by decide +kernel)) rfl
theorem ml_J0_1059 : Cond.methodLink RJ0 1059 yJ3_checkIndex_8e157 ∈ ev_tbl := ev_in (List.mem_of_getElem? (i := 367) (by decide +kernel)) rfl
theorem ml_J0_498 : Cond.methodLink RJ0 498 yJ2_charAt_3b067 ∈ ev_tbl := ev_in (List.mem_of_getElem? (i := 370) (by decide +kernel)) rfl
theorem ml_J2_67 : Cond.methodLink RJ2 67 yJ2_checkIndex_2214a ∈ ev_tbl := ev_in (List.mem_of_getElem? (i := 373) (by decide +kernel)) rfl
theorem ml_J2_48 : Cond.methodLink RJ2 48 yJ2_length_9d52b ∈ ev_tbl := ev_in (List.mem_of_getElem? (i := 376) (by decide +kernel)) rfl
theorem ml_J2_414 : Cond.methodLink RJ2 414 yJ0_checkIndex_df160 ∈ ev_tbl := ev_in (List.mem_of_getElem? (i := 379) (by decide +kernel)) rfl
theorem ml_J2_71 : Cond.methodLink RJ2 71 yJ2_getChar_3b067 ∈ ev_tbl := ev_in (List.mem_of_getElem? (i := 380) (by decide +kernel)) rfl
theorem ml_X1_79 : Cond.methodLink RX1 79 yX1_mayBegin ∈ ev_tbl := ev_in (List.mem_of_getElem? (i := 389) (by decide +kernel)) rfl
theorem ml_X1_83 : Cond.methodLink RX1 83 yX1_takeNumbers ∈ ev_tbl := ev_in (List.mem_of_getElem? (i := 393) (by decide +kernel)) rfl
theorem ml_X1_102 : Cond.methodLink RX1 102 yX1_mostOf ∈ ev_tbl := ev_in (List.mem_of_getElem? (i := 401) (by decide +kernel)) rfl
theorem ml_X1_86 : Cond.methodLink RX1 86 yX1_tellLine ∈ ev_tbl := ev_in (List.mem_of_getElem? (i := 414) (by decide +kernel)) rfl
theorem ml_X1_128 : Cond.methodLink RX1 128 yX5_addHouse ∈ ev_tbl := ev_in (List.mem_of_getElem? (i := 418) (by decide +kernel)) rfl
theorem ml_X1_141 : Cond.methodLink RX1 141 yX5_addThing ∈ ev_tbl := ev_in (List.mem_of_getElem? (i := 422) (by decide +kernel)) rfl
theorem ml_X1_65 : Cond.methodLink RX1 65 yX5_hasHomes ∈ ev_tbl := ev_in (List.mem_of_getElem? (i := 426) (by decide +kernel)) rfl
theorem ml_X5_93 : Cond.methodLink RX5 93 yX5_isHouse ∈ ev_tbl := ev_in (List.mem_of_getElem? (i := 430) (by decide +kernel)) rfl
theorem ml_X6_85 : Cond.methodLink RX6 85 yX5_copyFrom ∈ ev_tbl := ev_in (List.mem_of_getElem? (i := 435) (by decide +kernel)) rfl
theorem ml_X5_73 : Cond.methodLink RX5 73 yX5_copyRow ∈ ev_tbl := ev_in (List.mem_of_getElem? (i := 439) (by decide +kernel)) rfl
theorem ml_X5_77 : Cond.methodLink RX5 77 Lib.Math.min.name ∈ ev_tbl := ev_in (List.mem_of_getElem? (i := 442) (by decide +kernel)) rfl
theorem ml_X5_83 : Cond.methodLink RX5 83 arraycopyName ∈ ev_tbl := ev_in (List.mem_of_getElem? (i := 445) (by decide +kernel)) rfl
theorem ml_L_27 : Cond.methodLink RL 27 yX6_fault ∈ ev_tbl := ev_in (List.mem_of_getElem? (i := 448) (by decide +kernel)) rfl
theorem ml_L_31 : Cond.methodLink RL 31 yX6_rule ∈ ev_tbl := ev_in (List.mem_of_getElem? (i := 452) (by decide +kernel)) rfl
theorem ml_L_35 : Cond.methodLink RL 35 yX6_house ∈ ev_tbl := ev_in (List.mem_of_getElem? (i := 456) (by decide +kernel)) rfl
theorem ml_X6_122 : Cond.methodLink RX6 122 yX5_isHouse ∈ ev_tbl := ev_in (List.mem_of_getElem? (i := 460) (by decide +kernel)) rfl
theorem ml_X6_125 : Cond.methodLink RX6 125 yX5_filledOf ∈ ev_tbl := ev_in (List.mem_of_getElem? (i := 461) (by decide +kernel)) rfl
theorem ml_X5_100 : Cond.methodLink RX5 100 yX5_isIn ∈ ev_tbl := ev_in (List.mem_of_getElem? (i := 465) (by decide +kernel)) rfl
theorem ml_X5_103 : Cond.methodLink RX5 103 yX5_fillOf ∈ ev_tbl := ev_in (List.mem_of_getElem? (i := 469) (by decide +kernel)) rfl
theorem ml_X6_129 : Cond.methodLink RX6 129 yX5_thingsOf ∈ ev_tbl := ev_in (List.mem_of_getElem? (i := 473) (by decide +kernel)) rfl
theorem ml_X6_132 : Cond.methodLink RX6 132 yX5_houseRow ∈ ev_tbl := ev_in (List.mem_of_getElem? (i := 477) (by decide +kernel)) rfl
theorem ml_L_40 : Cond.methodLink RL 40 yX6_thing ∈ ev_tbl := ev_in (List.mem_of_getElem? (i := 481) (by decide +kernel)) rfl
theorem ml_X6_136 : Cond.methodLink RX6 136 yX5_isThing ∈ ev_tbl := ev_in (List.mem_of_getElem? (i := 485) (by decide +kernel)) rfl
theorem ml_X6_152 : Cond.methodLink RX6 152 yX5_whereIs ∈ ev_tbl := ev_in (List.mem_of_getElem? (i := 489) (by decide +kernel)) rfl
theorem ml_X5_97 : Cond.methodLink RX5 97 yX5_isGone ∈ ev_tbl := ev_in (List.mem_of_getElem? (i := 493) (by decide +kernel)) rfl
theorem ml_X6_155 : Cond.methodLink RX6 155 yX5_fillOf ∈ ev_tbl := ev_in (List.mem_of_getElem? (i := 497) (by decide +kernel)) rfl
theorem ml_X6_158 : Cond.methodLink RX6 158 yX5_costOf ∈ ev_tbl := ev_in (List.mem_of_getElem? (i := 498) (by decide +kernel)) rfl
theorem ml_L_44 : Cond.methodLink RL 44 yX6_rise ∈ ev_tbl := ev_in (List.mem_of_getElem? (i := 502) (by decide +kernel)) rfl
theorem ml_X6_161 : Cond.methodLink RX6 161 yX6_isWeekday ∈ ev_tbl := ev_in (List.mem_of_getElem? (i := 506) (by decide +kernel)) rfl
theorem ml_L_48 : Cond.methodLink RL 48 yX6_build ∈ ev_tbl := ev_in (List.mem_of_getElem? (i := 509) (by decide +kernel)) rfl
theorem ml_X6_170 : Cond.methodLink RX6 170 yX6_replace ∈ ev_tbl := ev_in (List.mem_of_getElem? (i := 515) (by decide +kernel)) rfl
theorem ml_L_53 : Cond.methodLink RL 53 yX6_alter ∈ ev_tbl := ev_in (List.mem_of_getElem? (i := 518) (by decide +kernel)) rfl
theorem ml_X6_180 : Cond.methodLink RX6 180 yX5_thingRow ∈ ev_tbl := ev_in (List.mem_of_getElem? (i := 526) (by decide +kernel)) rfl
theorem ml_L_57 : Cond.methodLink RL 57 yX6_tide ∈ ev_tbl := ev_in (List.mem_of_getElem? (i := 530) (by decide +kernel)) rfl
theorem ml_L_61 : Cond.methodLink RL 61 yX6_blow ∈ ev_tbl := ev_in (List.mem_of_getElem? (i := 534) (by decide +kernel)) rfl
theorem ml_L_65 : Cond.methodLink RL 65 yX6_stow ∈ ev_tbl := ev_in (List.mem_of_getElem? (i := 538) (by decide +kernel)) rfl
theorem ml_X6_183 : Cond.methodLink RX6 183 yX5_putIn ∈ ev_tbl := ev_in (List.mem_of_getElem? (i := 542) (by decide +kernel)) rfl
theorem ml_X5_110 : Cond.methodLink RX5 110 yX5_isThing ∈ ev_tbl := ev_in (List.mem_of_getElem? (i := 546) (by decide +kernel)) rfl
theorem ml_X5_113 : Cond.methodLink RX5 113 yX5_whereIs ∈ ev_tbl := ev_in (List.mem_of_getElem? (i := 547) (by decide +kernel)) rfl
theorem ml_X5_116 : Cond.methodLink RX5 116 yX5_isAfloat ∈ ev_tbl := ev_in (List.mem_of_getElem? (i := 548) (by decide +kernel)) rfl
theorem ml_X5_119 : Cond.methodLink RX5 119 yX5_filledOf ∈ ev_tbl := ev_in (List.mem_of_getElem? (i := 552) (by decide +kernel)) rfl
theorem ml_L_69 : Cond.methodLink RL 69 yX6_fetch ∈ ev_tbl := ev_in (List.mem_of_getElem? (i := 553) (by decide +kernel)) rfl
theorem ml_X6_186 : Cond.methodLink RX6 186 yX5_takeOut ∈ ev_tbl := ev_in (List.mem_of_getElem? (i := 557) (by decide +kernel)) rfl
theorem ml_X5_122 : Cond.methodLink RX5 122 Lib.Math.max.name ∈ ev_tbl := ev_in (List.mem_of_getElem? (i := 561) (by decide +kernel)) rfl
theorem ml_L_73 : Cond.methodLink RL 73 yX6_days ∈ ev_tbl := ev_in (List.mem_of_getElem? (i := 564) (by decide +kernel)) rfl
theorem ml_X6_189 : Cond.methodLink RX6 189 yX5_passDays ∈ ev_tbl := ev_in (List.mem_of_getElem? (i := 568) (by decide +kernel)) rfl
theorem ml_X5_128 : Cond.methodLink RX5 128 yX5_riseToday ∈ ev_tbl := ev_in (List.mem_of_getElem? (i := 572) (by decide +kernel)) rfl
theorem ml_X5_125 : Cond.methodLink RX5 125 yJ9_floorMod_7cf53 ∈ ev_tbl := ev_in (List.mem_of_getElem? (i := 576) (by decide +kernel)) rfl
theorem ml_X5_132 : Cond.methodLink RX5 132 yX5_passDay ∈ ev_tbl := ev_in (List.mem_of_getElem? (i := 579) (by decide +kernel)) rfl
theorem ml_X6_333 : Cond.methodLink RX6 333 Lib.Math.min.name ∈ ev_tbl := ev_in (List.mem_of_getElem? (i := 586) (by decide +kernel)) rfl
theorem ml_X6_200 : Cond.methodLink RX6 200 Lib.Math.max.name ∈ ev_tbl := ev_in (List.mem_of_getElem? (i := 587) (by decide +kernel)) rfl
theorem ml_X5_139 : Cond.methodLink RX5 139 yX5_passHouse ∈ ev_tbl := ev_in (List.mem_of_getElem? (i := 588) (by decide +kernel)) rfl
theorem ml_X5_142 : Cond.methodLink RX5 142 yX5_loseWhatIsOut ∈ ev_tbl := ev_in (List.mem_of_getElem? (i := 592) (by decide +kernel)) rfl
theorem ml_X5_149 : Cond.methodLink RX5 149 yX5_loseThing ∈ ev_tbl := ev_in (List.mem_of_getElem? (i := 596) (by decide +kernel)) rfl
theorem ml_X5_107 : Cond.methodLink RX5 107 yX5_costOf ∈ ev_tbl := ev_in (List.mem_of_getElem? (i := 600) (by decide +kernel)) rfl
theorem ml_X5_146 : Cond.methodLink RX5 146 yX5_loseWhatIsOver ∈ ev_tbl := ev_in (List.mem_of_getElem? (i := 601) (by decide +kernel)) rfl
theorem ml_L_77 : Cond.methodLink RL 77 yX6_runs ∈ ev_tbl := ev_in (List.mem_of_getElem? (i := 605) (by decide +kernel)) rfl
theorem ml_X6_193 : Cond.methodLink RX6 193 yX6_isAhead ∈ ev_tbl := ev_in (List.mem_of_getElem? (i := 609) (by decide +kernel)) rfl
theorem ml_X6_196 : Cond.methodLink RX6 196 yX6_copyOfNow ∈ ev_tbl := ev_in (List.mem_of_getElem? (i := 612) (by decide +kernel)) rfl
theorem ml_L_81 : Cond.methodLink RL 81 yX6_ahead ∈ ev_tbl := ev_in (List.mem_of_getElem? (i := 616) (by decide +kernel)) rfl
theorem ml_L_85 : Cond.methodLink RL 85 yX6_lost ∈ ev_tbl := ev_in (List.mem_of_getElem? (i := 620) (by decide +kernel)) rfl
theorem ml_X6_212 : Cond.methodLink RX6 212 yX5_isGone ∈ ev_tbl := ev_in (List.mem_of_getElem? (i := 624) (by decide +kernel)) rfl
theorem ml_L_89 : Cond.methodLink RL 89 yX6_meet ∈ ev_tbl := ev_in (List.mem_of_getElem? (i := 625) (by decide +kernel)) rfl
theorem ml_X6_215 : Cond.methodLink RX6 215 yX5_isAfloat ∈ ev_tbl := ev_in (List.mem_of_getElem? (i := 629) (by decide +kernel)) rfl
theorem ml_L_93 : Cond.methodLink RL 93 yX6_pack ∈ ev_tbl := ev_in (List.mem_of_getElem? (i := 630) (by decide +kernel)) rfl
theorem ml_X6_218 : Cond.methodLink RX6 218 yX6_dearestSet ∈ ev_tbl := ev_in (List.mem_of_getElem? (i := 634) (by decide +kernel)) rfl
theorem ml_X6_224 : Cond.methodLink RX6 224 yX5_fillOfSet ∈ ev_tbl := ev_in (List.mem_of_getElem? (i := 638) (by decide +kernel)) rfl
theorem ml_X6_221 : Cond.methodLink RX6 221 yX5_costOfSet ∈ ev_tbl := ev_in (List.mem_of_getElem? (i := 642) (by decide +kernel)) rfl
theorem ml_L_97 : Cond.methodLink RL 97 yX6_need ∈ ev_tbl := ev_in (List.mem_of_getElem? (i := 646) (by decide +kernel)) rfl
theorem ml_X6_227 : Cond.methodLink RX6 227 yX6_losesNoneOf ∈ ev_tbl := ev_in (List.mem_of_getElem? (i := 650) (by decide +kernel)) rfl
theorem ml_L_101 : Cond.methodLink RL 101 yX6_high ∈ ev_tbl := ev_in (List.mem_of_getElem? (i := 653) (by decide +kernel)) rfl
theorem ml_L_105 : Cond.methodLink RL 105 yX6_leak ∈ ev_tbl := ev_in (List.mem_of_getElem? (i := 657) (by decide +kernel)) rfl
theorem ml_X6_234 : Cond.methodLink RX6 234 yX6_sorrowBehind ∈ ev_tbl := ev_in (List.mem_of_getElem? (i := 661) (by decide +kernel)) rfl
theorem ml_L_109 : Cond.methodLink RL 109 yX6_swap ∈ ev_tbl := ev_in (List.mem_of_getElem? (i := 664) (by decide +kernel)) rfl
theorem ml_X6_241 : Cond.methodLink RX6 241 yX5_mayChangeHomes ∈ ev_tbl := ev_in (List.mem_of_getElem? (i := 668) (by decide +kernel)) rfl
theorem ml_X6_245 : Cond.methodLink RX6 245 yX5_changeHomes ∈ ev_tbl := ev_in (List.mem_of_getElem? (i := 672) (by decide +kernel)) rfl
theorem ml_X6_249 : Cond.methodLink RX6 249 yX6_bestOrSorrow ∈ ev_tbl := ev_in (List.mem_of_getElem? (i := 676) (by decide +kernel)) rfl
theorem ml_L_113 : Cond.methodLink RL 113 yX6_save ∈ ev_tbl := ev_in (List.mem_of_getElem? (i := 680) (by decide +kernel)) rfl
theorem ml_L_117 : Cond.methodLink RL 117 yX6_kind ∈ ev_tbl := ev_in (List.mem_of_getElem? (i := 684) (by decide +kernel)) rfl
theorem ml_L_121 : Cond.methodLink RL 121 yX6_luck ∈ ev_tbl := ev_in (List.mem_of_getElem? (i := 688) (by decide +kernel)) rfl
theorem ml_X6_255 : Cond.methodLink RX6 255 yX6_weightOf ∈ ev_tbl := ev_in (List.mem_of_getElem? (i := 693) (by decide +kernel)) rfl
theorem ml_X6_291 : Cond.methodLink RX6 291 yJ6_bitCount_0f7a4 ∈ ev_tbl := ev_in (List.mem_of_getElem? (i := 696) (by decide +kernel)) rfl
theorem ml_X6_263 : Cond.methodLink RX6 263 yX6_power ∈ ev_tbl := ev_in (List.mem_of_getElem? (i := 702) (by decide +kernel)) rfl
theorem ml_X6_259 : Cond.methodLink RX6 259 yX6_behindStorms ∈ ev_tbl := ev_in (List.mem_of_getElem? (i := 705) (by decide +kernel)) rfl
theorem ml_X6_336 : Cond.methodLink RX6 336 yX5_riseToday ∈ ev_tbl := ev_in (List.mem_of_getElem? (i := 709) (by decide +kernel)) rfl
theorem ml_X6_300 : Cond.methodLink RX6 300 yX5_passDay ∈ ev_tbl := ev_in (List.mem_of_getElem? (i := 710) (by decide +kernel)) rfl
theorem ml_X6_267 : Cond.methodLink RX6 267 yX6_fractionPart ∈ ev_tbl := ev_in (List.mem_of_getElem? (i := 711) (by decide +kernel)) rfl
theorem ml_X6_339 : Cond.methodLink RX6 339 yX6_commonDivisor ∈ ev_tbl := ev_in (List.mem_of_getElem? (i := 714) (by decide +kernel)) rfl
theorem ml_L_126 : Cond.methodLink RL 126 yX6_mean ∈ ev_tbl := ev_in (List.mem_of_getElem? (i := 717) (by decide +kernel)) rfl
theorem ml_L_131 : Cond.methodLink RL 131 yX6_see ∈ ev_tbl := ev_in (List.mem_of_getElem? (i := 721) (by decide +kernel)) rfl
theorem ml_X6_271 : Cond.methodLink RX6 271 yX3_addSighting ∈ ev_tbl := ev_in (List.mem_of_getElem? (i := 725) (by decide +kernel)) rfl
theorem ml_L_135 : Cond.methodLink RL 135 yX6_forget ∈ ev_tbl := ev_in (List.mem_of_getElem? (i := 729) (by decide +kernel)) rfl
theorem ml_L_139 : Cond.methodLink RL 139 yX6_kinds ∈ ev_tbl := ev_in (List.mem_of_getElem? (i := 733) (by decide +kernel)) rfl
theorem ml_X6_274 : Cond.methodLink RX6 274 yX0_empty ∈ ev_tbl := ev_in (List.mem_of_getElem? (i := 737) (by decide +kernel)) rfl
theorem ml_X6_277 : Cond.methodLink RX6 277 yX3_latestDay ∈ ev_tbl := ev_in (List.mem_of_getElem? (i := 741) (by decide +kernel)) rfl
theorem ml_X3_22 : Cond.methodLink RX3 22 Lib.Math.max.name ∈ ev_tbl := ev_in (List.mem_of_getElem? (i := 745) (by decide +kernel)) rfl
theorem ml_X6_280 : Cond.methodLink RX6 280 yX0_addRow ∈ ev_tbl := ev_in (List.mem_of_getElem? (i := 746) (by decide +kernel)) rfl
theorem ml_X0_24 : Cond.methodLink RX0 24 yX5_riseToday ∈ ev_tbl := ev_in (List.mem_of_getElem? (i := 750) (by decide +kernel)) rfl
theorem ml_X0_31 : Cond.methodLink RX0 31 yX5_passDay ∈ ev_tbl := ev_in (List.mem_of_getElem? (i := 751) (by decide +kernel)) rfl
theorem ml_X6_284 : Cond.methodLink RX6 284 yX3_rowsAsSeen ∈ ev_tbl := ev_in (List.mem_of_getElem? (i := 752) (by decide +kernel)) rfl
theorem ml_X3_33 : Cond.methodLink RX3 33 yX3_agreeWith ∈ ev_tbl := ev_in (List.mem_of_getElem? (i := 756) (by decide +kernel)) rfl
theorem ml_X3_37 : Cond.methodLink RX3 37 yX0_sorrowOf ∈ ev_tbl := ev_in (List.mem_of_getElem? (i := 760) (by decide +kernel)) rfl
theorem ml_L_143 : Cond.methodLink RL 143 yX6_leaks ∈ ev_tbl := ev_in (List.mem_of_getElem? (i := 764) (by decide +kernel)) rfl
theorem ml_L_147 : Cond.methodLink RL 147 yX6_rooms ∈ ev_tbl := ev_in (List.mem_of_getElem? (i := 768) (by decide +kernel)) rfl
theorem ml_X6_288 : Cond.methodLink RX6 288 yX6_tellRooms ∈ ev_tbl := ev_in (List.mem_of_getElem? (i := 772) (by decide +kernel)) rfl
theorem ml_L_151 : Cond.methodLink RL 151 yX6_ask ∈ ev_tbl := ev_in (List.mem_of_getElem? (i := 776) (by decide +kernel)) rfl
theorem ml_X6_296 : Cond.methodLink RX6 296 yX0_leftAtWorst ∈ ev_tbl := ev_in (List.mem_of_getElem? (i := 780) (by decide +kernel)) rfl
theorem ml_X0_35 : Cond.methodLink RX0 35 yX0_alikeFrom ∈ ev_tbl := ev_in (List.mem_of_getElem? (i := 784) (by decide +kernel)) rfl
theorem ml_X0_45 : Cond.methodLink RX0 45 yX0_sorrowOf ∈ ev_tbl := ev_in (List.mem_of_getElem? (i := 788) (by decide +kernel)) rfl
theorem ml_X0_39 : Cond.methodLink RX0 39 Lib.Math.max.name ∈ ev_tbl := ev_in (List.mem_of_getElem? (i := 789) (by decide +kernel)) rfl
theorem ml_L_155 : Cond.methodLink RL 155 yX6_drift ∈ ev_tbl := ev_in (List.mem_of_getElem? (i := 790) (by decide +kernel)) rfl
theorem ml_L_159 : Cond.methodLink RL 159 yX6_keep ∈ ev_tbl := ev_in (List.mem_of_getElem? (i := 795) (by decide +kernel)) rfl
theorem ml_L_163 : Cond.methodLink RL 163 yX6_back ∈ ev_tbl := ev_in (List.mem_of_getElem? (i := 799) (by decide +kernel)) rfl
theorem ml_L_167 : Cond.methodLink RL 167 yX6_sheet ∈ ev_tbl := ev_in (List.mem_of_getElem? (i := 803) (by decide +kernel)) rfl
theorem ml_X6_303 : Cond.methodLink RX6 303 yX6_isSheet ∈ ev_tbl := ev_in (List.mem_of_getElem? (i := 807) (by decide +kernel)) rfl
theorem ml_X6_306 : Cond.methodLink RX6 306 yX2_renew ∈ ev_tbl := ev_in (List.mem_of_getElem? (i := 810) (by decide +kernel)) rfl
theorem ml_X2_26 : Cond.methodLink RX2 26 yJ7_fill_53178 ∈ ev_tbl := ev_in (List.mem_of_getElem? (i := 814) (by decide +kernel)) rfl
theorem ml_L_171 : Cond.methodLink RL 171 yX6_lay ∈ ev_tbl := ev_in (List.mem_of_getElem? (i := 815) (by decide +kernel)) rfl
theorem ml_X6_312 : Cond.methodLink RX6 312 yX2_faultAt ∈ ev_tbl := ev_in (List.mem_of_getElem? (i := 819) (by decide +kernel)) rfl
theorem ml_X6_318 : Cond.methodLink RX6 318 yX2_lowestBits ∈ ev_tbl := ev_in (List.mem_of_getElem? (i := 824) (by decide +kernel)) rfl
theorem ml_L_175 : Cond.methodLink RL 175 yX6_read ∈ ev_tbl := ev_in (List.mem_of_getElem? (i := 828) (by decide +kernel)) rfl
theorem ml_L_180 : Cond.methodLink RL 180 yX6_torn ∈ ev_tbl := ev_in (List.mem_of_getElem? (i := 832) (by decide +kernel)) rfl
theorem ml_L_184 : Cond.methodLink RL 184 yX6_count ∈ ev_tbl := ev_in (List.mem_of_getElem? (i := 836) (by decide +kernel)) rfl
theorem ml_X6_329 : Cond.methodLink RX6 329 yX6_sumOf ∈ ev_tbl := ev_in (List.mem_of_getElem? (i := 840) (by decide +kernel)) rfl
theorem ml_L_12 : Cond.methodLink RL 12 yX7_init ∈ ev_tbl := ev_in (List.mem_of_getElem? (i := 845) (by decide +kernel)) rfl
theorem ml_X7_1 : Cond.methodLink RX7 1 objectInit ∈ ev_tbl := ev_in (List.mem_of_getElem? (i := 848) (by decide +kernel)) rfl
theorem ml_L_17 : Cond.methodLink RL 17 yX7_feed ∈ ev_tbl := ev_in (List.mem_of_getElem? (i := 938) (by decide +kernel)) rfl
theorem ml_X7_46 : Cond.methodLink RX7 46 yX7_in ∈ ev_tbl := ev_in (List.mem_of_getElem? (i := 943) (by decide +kernel)) rfl
theorem ml_L_21 : Cond.methodLink RL 21 yX7_end ∈ ev_tbl := ev_in (List.mem_of_getElem? (i := 946) (by decide +kernel)) rfl
theorem ml_L_26 : Cond.methodLink RL 26 yX7_text ∈ ev_tbl := ev_in (List.mem_of_getElem? (i := 950) (by decide +kernel)) rfl
theorem ml_X7_88 : Cond.methodLink RX7 88 yX7_step ∈ ev_tbl := ev_in (List.mem_of_getElem? (i := 954) (by decide +kernel)) rfl
theorem ml_X7_69 : Cond.methodLink RX7 69 yX7_byteAt ∈ ev_tbl := ev_in (List.mem_of_getElem? (i := 958) (by decide +kernel)) rfl
theorem ml_X7_84 : Cond.methodLink RX7 84 yX7_fails ∈ ev_tbl := ev_in (List.mem_of_getElem? (i := 966) (by decide +kernel)) rfl
theorem ml_X7_130 : Cond.methodLink RX7 130 yX7_readLine ∈ ev_tbl := ev_in (List.mem_of_getElem? (i := 970) (by decide +kernel)) rfl
theorem ml_X7_118 : Cond.methodLink RX7 118 yX7_nameHere ∈ ev_tbl := ev_in (List.mem_of_getElem? (i := 974) (by decide +kernel)) rfl
theorem ml_X7_127 : Cond.methodLink RX7 127 yX7_readMore ∈ ev_tbl := ev_in (List.mem_of_getElem? (i := 979) (by decide +kernel)) rfl
theorem ml_X7_109 : Cond.methodLink RX7 109 yX7_readThing ∈ ev_tbl := ev_in (List.mem_of_getElem? (i := 983) (by decide +kernel)) rfl
theorem ml_X7_91 : Cond.methodLink RX7 91 yX7_number ∈ ev_tbl := ev_in (List.mem_of_getElem? (i := 987) (by decide +kernel)) rfl
theorem ml_X7_112 : Cond.methodLink RX7 112 yX7_readHouse ∈ ev_tbl := ev_in (List.mem_of_getElem? (i := 991) (by decide +kernel)) rfl
theorem ml_X7_115 : Cond.methodLink RX7 115 yX7_readRise ∈ ev_tbl := ev_in (List.mem_of_getElem? (i := 995) (by decide +kernel)) rfl
theorem ml_L_30 : Cond.methodLink RL 30 yX7_fault ∈ ev_tbl := ev_in (List.mem_of_getElem? (i := 1000) (by decide +kernel)) rfl
theorem ml_L_34 : Cond.methodLink RL 34 yX7_rule ∈ ev_tbl := ev_in (List.mem_of_getElem? (i := 1004) (by decide +kernel)) rfl
theorem ml_X7_161 : Cond.methodLink RX7 161 yX7_afloatOn ∈ ev_tbl := ev_in (List.mem_of_getElem? (i := 1008) (by decide +kernel)) rfl
theorem ml_X7_164 : Cond.methodLink RX7 164 yX7_thoseOn ∈ ev_tbl := ev_in (List.mem_of_getElem? (i := 1012) (by decide +kernel)) rfl
theorem ml_L_39 : Cond.methodLink RL 39 yX7_house ∈ ev_tbl := ev_in (List.mem_of_getElem? (i := 1016) (by decide +kernel)) rfl
theorem ml_X7_167 : Cond.methodLink RX7 167 yX7_isHouse ∈ ev_tbl := ev_in (List.mem_of_getElem? (i := 1020) (by decide +kernel)) rfl
theorem ml_X7_151 : Cond.methodLink RX7 151 yX7_filledOn ∈ ev_tbl := ev_in (List.mem_of_getElem? (i := 1025) (by decide +kernel)) rfl
theorem ml_X7_145 : Cond.methodLink RX7 145 yX7_fillsOn ∈ ev_tbl := ev_in (List.mem_of_getElem? (i := 1029) (by decide +kernel)) rfl
theorem ml_X7_173 : Cond.methodLink RX7 173 yX7_ofHouse ∈ ev_tbl := ev_in (List.mem_of_getElem? (i := 1033) (by decide +kernel)) rfl
theorem ml_L_43 : Cond.methodLink RL 43 yX7_thing ∈ ev_tbl := ev_in (List.mem_of_getElem? (i := 1037) (by decide +kernel)) rfl
theorem ml_X7_176 : Cond.methodLink RX7 176 yX7_isThing ∈ ev_tbl := ev_in (List.mem_of_getElem? (i := 1041) (by decide +kernel)) rfl
theorem ml_X7_148 : Cond.methodLink RX7 148 yX7_costsOn ∈ ev_tbl := ev_in (List.mem_of_getElem? (i := 1045) (by decide +kernel)) rfl
theorem ml_L_47 : Cond.methodLink RL 47 yX7_rise ∈ ev_tbl := ev_in (List.mem_of_getElem? (i := 1049) (by decide +kernel)) rfl
theorem ml_L_52 : Cond.methodLink RL 52 yX7_build ∈ ev_tbl := ev_in (List.mem_of_getElem? (i := 1053) (by decide +kernel)) rfl
theorem ml_X7_181 : Cond.methodLink RX7 181 yX7_puts ∈ ev_tbl := ev_in (List.mem_of_getElem? (i := 1058) (by decide +kernel)) rfl
theorem ml_L_56 : Cond.methodLink RL 56 yX7_alter ∈ ev_tbl := ev_in (List.mem_of_getElem? (i := 1062) (by decide +kernel)) rfl
theorem ml_L_60 : Cond.methodLink RL 60 yX7_tide ∈ ev_tbl := ev_in (List.mem_of_getElem? (i := 1067) (by decide +kernel)) rfl
theorem ml_L_64 : Cond.methodLink RL 64 yX7_blow ∈ ev_tbl := ev_in (List.mem_of_getElem? (i := 1072) (by decide +kernel)) rfl
theorem ml_L_68 : Cond.methodLink RL 68 yX7_stow ∈ ev_tbl := ev_in (List.mem_of_getElem? (i := 1076) (by decide +kernel)) rfl
theorem ml_X7_189 : Cond.methodLink RX7 189 yX7_stowsOn ∈ ev_tbl := ev_in (List.mem_of_getElem? (i := 1080) (by decide +kernel)) rfl
theorem ml_L_72 : Cond.methodLink RL 72 yX7_fetch ∈ ev_tbl := ev_in (List.mem_of_getElem? (i := 1084) (by decide +kernel)) rfl
theorem ml_L_76 : Cond.methodLink RL 76 yX7_days ∈ ev_tbl := ev_in (List.mem_of_getElem? (i := 1088) (by decide +kernel)) rfl
theorem ml_X7_194 : Cond.methodLink RX7 194 yX7_riseOn ∈ ev_tbl := ev_in (List.mem_of_getElem? (i := 1093) (by decide +kernel)) rfl
theorem ml_X7_197 : Cond.methodLink RX7 197 yX7_dayOn ∈ ev_tbl := ev_in (List.mem_of_getElem? (i := 1097) (by decide +kernel)) rfl
theorem ml_X7_154 : Cond.methodLink RX7 154 yX7_losesOn ∈ ev_tbl := ev_in (List.mem_of_getElem? (i := 1101) (by decide +kernel)) rfl
theorem ml_X7_158 : Cond.methodLink RX7 158 yX7_floatsOn ∈ ev_tbl := ev_in (List.mem_of_getElem? (i := 1105) (by decide +kernel)) rfl
theorem ml_L_80 : Cond.methodLink RL 80 yX7_runs ∈ ev_tbl := ev_in (List.mem_of_getElem? (i := 1109) (by decide +kernel)) rfl
theorem ml_X7_208 : Cond.methodLink RX7 208 yX7_daysGo ∈ ev_tbl := ev_in (List.mem_of_getElem? (i := 1114) (by decide +kernel)) rfl
theorem ml_X7_200 : Cond.methodLink RX7 200 yX7_copies ∈ ev_tbl := ev_in (List.mem_of_getElem? (i := 1118) (by decide +kernel)) rfl
theorem ml_L_84 : Cond.methodLink RL 84 yX7_ahead ∈ ev_tbl := ev_in (List.mem_of_getElem? (i := 1122) (by decide +kernel)) rfl
theorem ml_L_88 : Cond.methodLink RL 88 yX7_lost ∈ ev_tbl := ev_in (List.mem_of_getElem? (i := 1126) (by decide +kernel)) rfl
theorem ml_L_92 : Cond.methodLink RL 92 yX7_meet ∈ ev_tbl := ev_in (List.mem_of_getElem? (i := 1130) (by decide +kernel)) rfl
theorem ml_L_96 : Cond.methodLink RL 96 yX7_pack ∈ ev_tbl := ev_in (List.mem_of_getElem? (i := 1134) (by decide +kernel)) rfl
theorem ml_L_100 : Cond.methodLink RL 100 yX7_need ∈ ev_tbl := ev_in (List.mem_of_getElem? (i := 1139) (by decide +kernel)) rfl
theorem ml_L_104 : Cond.methodLink RL 104 yX7_high ∈ ev_tbl := ev_in (List.mem_of_getElem? (i := 1143) (by decide +kernel)) rfl
theorem ml_L_108 : Cond.methodLink RL 108 yX7_leak ∈ ev_tbl := ev_in (List.mem_of_getElem? (i := 1147) (by decide +kernel)) rfl
theorem ml_L_112 : Cond.methodLink RL 112 yX7_swap ∈ ev_tbl := ev_in (List.mem_of_getElem? (i := 1151) (by decide +kernel)) rfl
theorem ml_L_116 : Cond.methodLink RL 116 yX7_save ∈ ev_tbl := ev_in (List.mem_of_getElem? (i := 1155) (by decide +kernel)) rfl
theorem ml_L_120 : Cond.methodLink RL 120 yX7_kind ∈ ev_tbl := ev_in (List.mem_of_getElem? (i := 1159) (by decide +kernel)) rfl
theorem ml_L_125 : Cond.methodLink RL 125 yX7_luck ∈ ev_tbl := ev_in (List.mem_of_getElem? (i := 1163) (by decide +kernel)) rfl
theorem ml_X7_219 : Cond.methodLink RX7 219 yX7_byStorm ∈ ev_tbl := ev_in (List.mem_of_getElem? (i := 1168) (by decide +kernel)) rfl
theorem ml_X7_215 : Cond.methodLink RX7 215 yX7_lowest ∈ ev_tbl := ev_in (List.mem_of_getElem? (i := 1172) (by decide +kernel)) rfl
theorem ml_L_130 : Cond.methodLink RL 130 yX7_mean ∈ ev_tbl := ev_in (List.mem_of_getElem? (i := 1176) (by decide +kernel)) rfl
theorem ml_L_134 : Cond.methodLink RL 134 yX7_see ∈ ev_tbl := ev_in (List.mem_of_getElem? (i := 1180) (by decide +kernel)) rfl
theorem ml_L_138 : Cond.methodLink RL 138 yX7_forget ∈ ev_tbl := ev_in (List.mem_of_getElem? (i := 1186) (by decide +kernel)) rfl
theorem ml_L_142 : Cond.methodLink RL 142 yX7_kinds ∈ ev_tbl := ev_in (List.mem_of_getElem? (i := 1190) (by decide +kernel)) rfl
theorem ml_X7_232 : Cond.methodLink RX7 232 yX7_numbersAt ∈ ev_tbl := ev_in (List.mem_of_getElem? (i := 1194) (by decide +kernel)) rfl
theorem ml_X7_229 : Cond.methodLink RX7 229 yX7_isAsSeen ∈ ev_tbl := ev_in (List.mem_of_getElem? (i := 1198) (by decide +kernel)) rfl
theorem ml_L_146 : Cond.methodLink RL 146 yX7_leaks ∈ ev_tbl := ev_in (List.mem_of_getElem? (i := 1202) (by decide +kernel)) rfl
theorem ml_L_150 : Cond.methodLink RL 150 yX7_rooms ∈ ev_tbl := ev_in (List.mem_of_getElem? (i := 1206) (by decide +kernel)) rfl
theorem ml_L_154 : Cond.methodLink RL 154 yX7_ask ∈ ev_tbl := ev_in (List.mem_of_getElem? (i := 1210) (by decide +kernel)) rfl
theorem ml_X7_235 : Cond.methodLink RX7 235 yX7_bitsOf ∈ ev_tbl := ev_in (List.mem_of_getElem? (i := 1214) (by decide +kernel)) rfl
theorem ml_L_158 : Cond.methodLink RL 158 yX7_drift ∈ ev_tbl := ev_in (List.mem_of_getElem? (i := 1217) (by decide +kernel)) rfl
theorem ml_L_162 : Cond.methodLink RL 162 yX7_keep ∈ ev_tbl := ev_in (List.mem_of_getElem? (i := 1222) (by decide +kernel)) rfl
theorem ml_L_166 : Cond.methodLink RL 166 yX7_back ∈ ev_tbl := ev_in (List.mem_of_getElem? (i := 1226) (by decide +kernel)) rfl
theorem ml_L_170 : Cond.methodLink RL 170 yX7_sheet ∈ ev_tbl := ev_in (List.mem_of_getElem? (i := 1230) (by decide +kernel)) rfl
theorem ml_L_174 : Cond.methodLink RL 174 yX7_lay ∈ ev_tbl := ev_in (List.mem_of_getElem? (i := 1234) (by decide +kernel)) rfl
theorem ml_L_179 : Cond.methodLink RL 179 yX7_read ∈ ev_tbl := ev_in (List.mem_of_getElem? (i := 1238) (by decide +kernel)) rfl
theorem ml_L_183 : Cond.methodLink RL 183 yX7_torn ∈ ev_tbl := ev_in (List.mem_of_getElem? (i := 1243) (by decide +kernel)) rfl
theorem ml_L_187 : Cond.methodLink RL 187 yX7_count ∈ ev_tbl := ev_in (List.mem_of_getElem? (i := 1247) (by decide +kernel)) rfl
theorem ml_X6_25 : (RX6, 25, yX1_init) ∈ ev_nw := by decide +kernel
theorem ml_X1_11 : (RX1, 11, yX4_init) ∈ ev_nw := by decide +kernel
theorem ml_X6_32 : (RX6, 32, yX3_init) ∈ ev_nw := by decide +kernel
theorem ml_X6_39 : (RX6, 39, yX0_init) ∈ ev_nw := by decide +kernel
theorem ml_X6_50 : (RX6, 50, yX2_init) ∈ ev_nw := by decide +kernel
theorem ml_X1_109 : (RX1, 109, yX6_within) ∈ ev_nw := by decide +kernel
theorem ml_X5_89 : (RX5, 89, yX6_within) ∈ ev_nw := by decide +kernel
theorem ml_X5_136 : (RX5, 136, yX6_bounded) ∈ ev_nw := by decide +kernel
theorem ml_X2_32 : (RX2, 32, yX6_within) ∈ ev_nw := by decide +kernel
theorem cn_J6_265 : Cond.constant RJ6 265 (1431655765) ∈ ev_tbl := ev_in (List.mem_of_getElem? (i := 699) (by decide +kernel)) rfl
theorem cn_J6_266 : Cond.constant RJ6 266 (858993459) ∈ ev_tbl := ev_in (List.mem_of_getElem? (i := 700) (by decide +kernel)) rfl
theorem cn_J6_267 : Cond.constant RJ6 267 (252645135) ∈ ev_tbl := ev_in (List.mem_of_getElem? (i := 701) (by decide +kernel)) rfl
theorem cn_X6_299 : Cond.constant RX6 299 (1103515245) ∈ ev_tbl := ev_in (List.mem_of_getElem? (i := 794) (by decide +kernel)) rfl
theorem cn_X7_238 : Cond.constant RX7 238 (1103515245) ∈ ev_tbl := ev_in (List.mem_of_getElem? (i := 1221) (by decide +kernel)) rfl
theorem cn_X6_253 : Cond.constantLong RX6 253 (-1) ∈ ev_tbl := ev_in (List.mem_of_getElem? (i := 692) (by decide +kernel)) rfl
theorem cn_X7_44 : Cond.constantLong RX7 44 (127) ∈ ev_tbl := ev_in (List.mem_of_getElem? (i := 942) (by decide +kernel)) rfl
theorem cn_X7_76 : Cond.constantLong RX7 76 (97) ∈ ev_tbl := ev_in (List.mem_of_getElem? (i := 962) (by decide +kernel)) rfl
theorem cn_X7_78 : Cond.constantLong RX7 78 (122) ∈ ev_tbl := ev_in (List.mem_of_getElem? (i := 963) (by decide +kernel)) rfl
theorem cn_X7_80 : Cond.constantLong RX7 80 (48) ∈ ev_tbl := ev_in (List.mem_of_getElem? (i := 964) (by decide +kernel)) rfl
theorem cn_X7_82 : Cond.constantLong RX7 82 (57) ∈ ev_tbl := ev_in (List.mem_of_getElem? (i := 965) (by decide +kernel)) rfl
theorem cn_X7_122 : Cond.constantLong RX7 122 (7) ∈ ev_tbl := ev_in (List.mem_of_getElem? (i := 978) (by decide +kernel)) rfl
theorem cn_X7_104 : Cond.constantLong RX7 104 (6) ∈ ev_tbl := ev_in (List.mem_of_getElem? (i := 999) (by decide +kernel)) rfl
theorem cn_X7_171 : Cond.constantLong RX7 171 (5) ∈ ev_tbl := ev_in (List.mem_of_getElem? (i := 1024) (by decide +kernel)) rfl
theorem cn_X7_179 : Cond.constantLong RX7 179 (3) ∈ ev_tbl := ev_in (List.mem_of_getElem? (i := 1057) (by decide +kernel)) rfl
theorem cn_X7_185 : Cond.constantLong RX7 185 (9) ∈ ev_tbl := ev_in (List.mem_of_getElem? (i := 1066) (by decide +kernel)) rfl
theorem cn_X7_187 : Cond.constantLong RX7 187 (8) ∈ ev_tbl := ev_in (List.mem_of_getElem? (i := 1071) (by decide +kernel)) rfl
theorem cn_X7_192 : Cond.constantLong RX7 192 (30) ∈ ev_tbl := ev_in (List.mem_of_getElem? (i := 1092) (by decide +kernel)) rfl
theorem cn_X7_206 : Cond.constantLong RX7 206 (60) ∈ ev_tbl := ev_in (List.mem_of_getElem? (i := 1113) (by decide +kernel)) rfl
theorem cn_X7_211 : Cond.constantLong RX7 211 (2) ∈ ev_tbl := ev_in (List.mem_of_getElem? (i := 1138) (by decide +kernel)) rfl
theorem cn_X7_213 : Cond.constantLong RX7 213 (10) ∈ ev_tbl := ev_in (List.mem_of_getElem? (i := 1167) (by decide +kernel)) rfl
theorem cn_X7_223 : Cond.constantLong RX7 223 (-1) ∈ ev_tbl := ev_in (List.mem_of_getElem? (i := 1175) (by decide +kernel)) rfl
theorem cn_X7_225 : Cond.constantLong RX7 225 (20) ∈ ev_tbl := ev_in (List.mem_of_getElem? (i := 1184) (by decide +kernel)) rfl
theorem cn_X7_227 : Cond.constantLong RX7 227 (999) ∈ ev_tbl := ev_in (List.mem_of_getElem? (i := 1185) (by decide +kernel)) rfl
theorem cn_X7_239 : Cond.constantLong RX7 239 (40) ∈ ev_tbl := ev_in (List.mem_of_getElem? (i := 1242) (by decide +kernel)) rfl
theorem cl_L_7 : Cond.classLink RL 7 RX6 ∈ ev_tbl := ev_in (List.mem_of_getElem? (i := 17) (by decide +kernel)) rfl
theorem cl_X6_7 : Cond.classLink RX6 7 RX5 ∈ ev_tbl := ev_in (List.mem_of_getElem? (i := 25) (by decide +kernel)) rfl
theorem cl_X6_23 : Cond.classLink RX6 23 RX1 ∈ ev_tbl := ev_in (List.mem_of_getElem? (i := 116) (by decide +kernel)) rfl
theorem cl_X1_9 : Cond.classLink RX1 9 RX4 ∈ ev_tbl := ev_in (List.mem_of_getElem? (i := 122) (by decide +kernel)) rfl
theorem cl_X1_18 : Cond.classLink RX1 18 RX5 ∈ ev_tbl := ev_in (List.mem_of_getElem? (i := 139) (by decide +kernel)) rfl
theorem cl_X6_30 : Cond.classLink RX6 30 RX3 ∈ ev_tbl := ev_in (List.mem_of_getElem? (i := 182) (by decide +kernel)) rfl
theorem cl_X6_37 : Cond.classLink RX6 37 RX0 ∈ ev_tbl := ev_in (List.mem_of_getElem? (i := 199) (by decide +kernel)) rfl
theorem cl_X6_44 : Cond.classLink RX6 44 RX2 ∈ ev_tbl := ev_in (List.mem_of_getElem? (i := 213) (by decide +kernel)) rfl
theorem cl_L_10 : Cond.classLink RL 10 RX7 ∈ ev_tbl := ev_in (List.mem_of_getElem? (i := 843) (by decide +kernel)) rfl
theorem is_X0 : Cond.instantiable RX0 2 ∈ ev_tbl := ev_in (List.mem_of_getElem? (i := 200) (by decide +kernel)) rfl
theorem iz_X0 : Cond.initialized RX0 ∈ ev_tbl := ev_in (List.mem_of_getElem? (i := 7) (by decide +kernel)) rfl
theorem is_X1 : Cond.instantiable RX1 12 ∈ ev_tbl := ev_in (List.mem_of_getElem? (i := 117) (by decide +kernel)) rfl
theorem iz_X1 : Cond.initialized RX1 ∈ ev_tbl := ev_in (List.mem_of_getElem? (i := 4) (by decide +kernel)) rfl
theorem is_X2 : Cond.instantiable RX2 4 ∈ ev_tbl := ev_in (List.mem_of_getElem? (i := 215) (by decide +kernel)) rfl
theorem iz_X2 : Cond.initialized RX2 ∈ ev_tbl := ev_in (List.mem_of_getElem? (i := 8) (by decide +kernel)) rfl
theorem is_X3 : Cond.instantiable RX3 3 ∈ ev_tbl := ev_in (List.mem_of_getElem? (i := 183) (by decide +kernel)) rfl
theorem iz_X3 : Cond.initialized RX3 ∈ ev_tbl := ev_in (List.mem_of_getElem? (i := 6) (by decide +kernel)) rfl
theorem is_X4 : Cond.instantiable RX4 2 ∈ ev_tbl := ev_in (List.mem_of_getElem? (i := 123) (by decide +kernel)) rfl
theorem iz_X4 : Cond.initialized RX4 ∈ ev_tbl := ev_in (List.mem_of_getElem? (i := 5) (by decide +kernel)) rfl
theorem is_X5 : Cond.instantiable RX5 18 ∈ ev_tbl := ev_in (List.mem_of_getElem? (i := 26) (by decide +kernel)) rfl
theorem iz_X5 : Cond.initialized RX5 ∈ ev_tbl := ev_in (List.mem_of_getElem? (i := 2) (by decide +kernel)) rfl
theorem is_X6 : Cond.instantiable RX6 10 ∈ ev_tbl := ev_in (List.mem_of_getElem? (i := 18) (by decide +kernel)) rfl
theorem iz_X6 : Cond.initialized RX6 ∈ ev_tbl := ev_in (List.mem_of_getElem? (i := 1) (by decide +kernel)) rfl
theorem is_X7 : Cond.instantiable RX7 29 ∈ ev_tbl := ev_in (List.mem_of_getElem? (i := 844) (by decide +kernel)) rfl
theorem iz_X7 : Cond.initialized RX7 ∈ ev_tbl := ev_in (List.mem_of_getElem? (i := 9) (by decide +kernel)) rfl
theorem ac_int : Cond.arrayClass .int ∈ ev_tbl := ev_in (List.mem_of_getElem? (i := 114) (by decide +kernel)) rfl
theorem ac_byte : Cond.arrayClass .byte ∈ ev_tbl := ev_in (List.mem_of_getElem? (i := 138) (by decide +kernel)) rfl
theorem ac_boolean : Cond.arrayClass .boolean ∈ ev_tbl := ev_in (List.mem_of_getElem? (i := 937) (by decide +kernel)) rfl
theorem jm_max_s : Cond.static Lib.Math.max.name ∈ ev_tbl := ev_in (List.mem_of_getElem? (i := 562) (by decide +kernel)) rfl
theorem jm_max_c : Cond.code Lib.Math.max.name Lib.Math.max.code 2 (some .int) ∈ ev_tbl := ev_in (List.mem_of_getElem? (i := 563) (by decide +kernel)) rfl
theorem jm_min_s : Cond.static Lib.Math.min.name ∈ ev_tbl := ev_in (List.mem_of_getElem? (i := 443) (by decide +kernel)) rfl
theorem jm_min_c : Cond.code Lib.Math.min.name Lib.Math.min.code 2 (some .int) ∈ ev_tbl := ev_in (List.mem_of_getElem? (i := 444) (by decide +kernel)) rfl
theorem jm_i : Cond.initialized "java/lang/Math" ∈ ev_tbl := ev_in (List.mem_of_getElem? (i := 14) (by decide +kernel)) rfl
theorem jc_n : Cond.native arraycopyName ∈ ev_tbl := ev_in (List.mem_of_getElem? (i := 447) (by decide +kernel)) rfl
theorem jc_s : Cond.static arraycopyName ∈ ev_tbl := ev_in (List.mem_of_getElem? (i := 446) (by decide +kernel)) rfl
theorem jc_i : Cond.initialized "java/lang/System" ∈ ev_tbl := ev_in (List.mem_of_getElem? (i := 15) (by decide +kernel)) rfl
theorem jo_i : Cond.instanceMethod objectInit ∈ ev_tbl := ev_in (List.mem_of_getElem? (i := 23) (by decide +kernel)) rfl
theorem jo_c : Cond.code objectInit ⟨#[0xb1]⟩ 1 none ∈ ev_tbl := ev_in (List.mem_of_getElem? (i := 24) (by decide +kernel)) rfl
