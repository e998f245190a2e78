theorem f_X7_10 : zfw RX7 10 6 0 (.object "SeatedByDebts$Party") 1 := ⟨RX7, TX7, 9, rfl, by decide, gt_tab (List.mem_of_getElem? (i := 215) (by decide +kernel)) (by decide +kernel), by decide +kernel, (fun h => by cases h), fun _ => ⟨rfl, rfl⟩⟩
theorem f_X7_16 : zfw RX7 16 6 1 (.object "SeatedByDebts$Party") 1 := ⟨RX7, TX7, 9, rfl, by decide, gt_tab (List.mem_of_getElem? (i := 216) (by decide +kernel)) (by decide +kernel), by decide +kernel, (fun h => by cases h), fun _ => ⟨rfl, rfl⟩⟩
theorem f_X7_19 : zfw RX7 19 6 2 (.object "SeatedByDebts$Party") 1 := ⟨RX7, TX7, 9, rfl, by decide, gt_tab (List.mem_of_getElem? (i := 217) (by decide +kernel)) (by decide +kernel), by decide +kernel, (fun h => by cases h), fun _ => ⟨rfl, rfl⟩⟩
theorem f_X7_25 : zfw RX7 25 6 3 (.object "SeatedByDebts$Manners") 1 := ⟨RX7, TX7, 9, rfl, by decide, gt_tab (List.mem_of_getElem? (i := 218) (by decide +kernel)) (by decide +kernel), by decide +kernel, (fun h => by cases h), fun _ => ⟨rfl, rfl⟩⟩
theorem f_X7_32 : zfw RX7 32 6 4 (.object "SeatedByDebts$Seating") 1 := ⟨RX7, TX7, 9, rfl, by decide, gt_tab (List.mem_of_getElem? (i := 219) (by decide +kernel)) (by decide +kernel), by decide +kernel, (fun h => by cases h), fun _ => ⟨rfl, rfl⟩⟩
theorem f_X7_39 : zfw RX7 39 6 5 (.object "SeatedByDebts$Reader") 1 := ⟨RX7, TX7, 9, rfl, by decide, gt_tab (List.mem_of_getElem? (i := 220) (by decide +kernel)) (by decide +kernel), by decide +kernel, (fun h => by cases h), fun _ => ⟨rfl, rfl⟩⟩
theorem f_X7_45 : zfw RX7 45 6 6 (.array (.object "SeatedByDebts$Sheet")) 1 := ⟨RX7, TX7, 9, rfl, by decide, gt_tab (List.mem_of_getElem? (i := 221) (by decide +kernel)) (by decide +kernel), by decide +kernel, (fun h => by cases h), fun _ => ⟨rfl, rfl⟩⟩
theorem f_X7_49 : zfw RX7 49 6 7 .int 0 := ⟨RX7, TX7, 9, rfl, by decide, gt_tab (List.mem_of_getElem? (i := 222) (by decide +kernel)) (by decide +kernel), by decide +kernel, fun _ => rfl, (fun h => by cases h)⟩
theorem f_X7_53 : zfw RX7 53 6 8 .boolean 0 := ⟨RX7, TX7, 9, rfl, by decide, gt_tab (List.mem_of_getElem? (i := 223) (by decide +kernel)) (by decide +kernel), by decide +kernel, fun _ => rfl, (fun h => by cases h)⟩
theorem f_X7_76 : zfw RX7 76 1 0 .int 0 := ⟨RX2, TX2, 8, rfl, by decide, gt_tab (List.mem_of_getElem? (i := 34) (by decide +kernel)) (by decide +kernel), by decide +kernel, fun _ => rfl, (fun h => by cases h)⟩
theorem f_X7_79 : zfw RX7 79 1 1 .int 0 := ⟨RX2, TX2, 8, rfl, by decide, gt_tab (List.mem_of_getElem? (i := 36) (by decide +kernel)) (by decide +kernel), by decide +kernel, fun _ => rfl, (fun h => by cases h)⟩
theorem f_X7_86 : zfw RX7 86 1 5 (.array .int) 2 := ⟨RX2, TX2, 8, rfl, by decide, gt_tab (List.mem_of_getElem? (i := 48) (by decide +kernel)) (by decide +kernel), by decide +kernel, (fun h => by cases h), (fun h => by cases h)⟩
theorem f_X7_90 : zfw RX7 90 1 6 (.array .int) 2 := ⟨RX2, TX2, 8, rfl, by decide, gt_tab (List.mem_of_getElem? (i := 51) (by decide +kernel)) (by decide +kernel), by decide +kernel, (fun h => by cases h), (fun h => by cases h)⟩
theorem f_X7_98 : zfw RX7 98 1 3 .int 0 := ⟨RX2, TX2, 8, rfl, by decide, gt_tab (List.mem_of_getElem? (i := 41) (by decide +kernel)) (by decide +kernel), by decide +kernel, fun _ => rfl, (fun h => by cases h)⟩
theorem f_X7_118 : zfw RX7 118 1 4 (.array .int) 2 := ⟨RX2, TX2, 8, rfl, by decide, gt_tab (List.mem_of_getElem? (i := 45) (by decide +kernel)) (by decide +kernel), by decide +kernel, (fun h => by cases h), (fun h => by cases h)⟩
theorem f_X7_137 : zfw RX7 137 2 1 .int 0 := ⟨RX3, TX3, 11, rfl, by decide, gt_tab (List.mem_of_getElem? (i := 162) (by decide +kernel)) (by decide +kernel), by decide +kernel, fun _ => rfl, (fun h => by cases h)⟩
theorem f_X7_143 : zfw RX7 143 0 0 (.array (.object "SeatedByDebts$Rule")) 2 := ⟨RX1, TX1, 2, rfl, by decide, gt_tab (List.mem_of_getElem? (i := 98) (by decide +kernel)) (by decide +kernel), by decide +kernel, (fun h => by cases h), (fun h => by cases h)⟩
theorem f_X7_151 : zfw RX7 151 1 2 .int 0 := ⟨RX2, TX2, 8, rfl, by decide, gt_tab (List.mem_of_getElem? (i := 39) (by decide +kernel)) (by decide +kernel), by decide +kernel, fun _ => rfl, (fun h => by cases h)⟩
theorem f_X7_179 : zfw RX7 179 5 0 .int 0 := ⟨RX6, TX6, 3, rfl, by decide, gt_tab (List.mem_of_getElem? (i := 203) (by decide +kernel)) (by decide +kernel), by decide +kernel, fun _ => rfl, (fun h => by cases h)⟩
theorem f_X7_182 : zfw RX7 182 5 1 .int 0 := ⟨RX6, TX6, 3, rfl, by decide, gt_tab (List.mem_of_getElem? (i := 205) (by decide +kernel)) (by decide +kernel), by decide +kernel, fun _ => rfl, (fun h => by cases h)⟩
theorem f_X7_183 : zfw RX7 183 5 2 (.array .int) 2 := ⟨RX6, TX6, 3, rfl, by decide, gt_tab (List.mem_of_getElem? (i := 207) (by decide +kernel)) (by decide +kernel), by decide +kernel, (fun h => by cases h), (fun h => by cases h)⟩
theorem f_X7_189 : zfw RX7 189 4 0 (.array .int) 2 := ⟨RX5, TX5, 12, rfl, by decide, gt_tab (List.mem_of_getElem? (i := 112) (by decide +kernel)) (by decide +kernel), by decide +kernel, (fun h => by cases h), (fun h => by cases h)⟩
theorem f_X7_207 : zfw RX7 207 4 3 .int 0 := ⟨RX5, TX5, 12, rfl, by decide, gt_tab (List.mem_of_getElem? (i := 118) (by decide +kernel)) (by decide +kernel), by decide +kernel, fun _ => rfl, (fun h => by cases h)⟩
theorem f_X7_251 : zfw RX7 251 4 5 .int 0 := ⟨RX5, TX5, 12, rfl, by decide, gt_tab (List.mem_of_getElem? (i := 122) (by decide +kernel)) (by decide +kernel), by decide +kernel, fun _ => rfl, (fun h => by cases h)⟩
theorem f_X7_267 : zfw RX7 267 4 1 (.array .int) 2 := ⟨RX5, TX5, 12, rfl, by decide, gt_tab (List.mem_of_getElem? (i := 114) (by decide +kernel)) (by decide +kernel), by decide +kernel, (fun h => by cases h), (fun h => by cases h)⟩
theorem f_X7_270 : zfw RX7 270 4 4 .int 0 := ⟨RX5, TX5, 12, rfl, by decide, gt_tab (List.mem_of_getElem? (i := 120) (by decide +kernel)) (by decide +kernel), by decide +kernel, fun _ => rfl, (fun h => by cases h)⟩
theorem f_X7_276 : zfw RX7 276 4 2 (.array .int) 2 := ⟨RX5, TX5, 12, rfl, by decide, gt_tab (List.mem_of_getElem? (i := 116) (by decide +kernel)) (by decide +kernel), by decide +kernel, (fun h => by cases h), (fun h => by cases h)⟩
theorem g_X0_19 : Cond.fieldLink RX0 19 RX0 "ABOVE" "[I" ∈ gtb := gt_tab (List.mem_of_getElem? (i := 829) (by decide +kernel)) (by decide +kernel)
theorem f_X1_11 : zfw RX1 11 0 0 (.array (.object "SeatedByDebts$Rule")) 1 := ⟨RX1, TX1, 2, rfl, by decide, gt_tab (List.mem_of_getElem? (i := 97) (by decide +kernel)) (by decide +kernel), by decide +kernel, (fun h => by cases h), fun _ => ⟨rfl, rfl⟩⟩
theorem f_X1_17 : zfw RX1 17 0 1 (.array .int) 1 := ⟨RX1, TX1, 2, rfl, by decide, gt_tab (List.mem_of_getElem? (i := 99) (by decide +kernel)) (by decide +kernel), by decide +kernel, (fun h => by cases h), fun _ => ⟨rfl, rfl⟩⟩
theorem f_X1_30 : zfw RX1 30 1 5 (.array .int) 2 := ⟨RX2, TX2, 8, rfl, by decide, gt_tab (List.mem_of_getElem? (i := 47) (by decide +kernel)) (by decide +kernel), by decide +kernel, (fun h => by cases h), (fun h => by cases h)⟩
theorem f_X1_33 : zfw RX1 33 1 6 (.array .int) 2 := ⟨RX2, TX2, 8, rfl, by decide, gt_tab (List.mem_of_getElem? (i := 50) (by decide +kernel)) (by decide +kernel), by decide +kernel, (fun h => by cases h), (fun h => by cases h)⟩
theorem f_X1_36 : zfw RX1 36 1 2 .int 0 := ⟨RX2, TX2, 8, rfl, by decide, gt_tab (List.mem_of_getElem? (i := 38) (by decide +kernel)) (by decide +kernel), by decide +kernel, fun _ => rfl, (fun h => by cases h)⟩
theorem f_X1_48 : zfw RX1 48 1 4 (.array .int) 2 := ⟨RX2, TX2, 8, rfl, by decide, gt_tab (List.mem_of_getElem? (i := 44) (by decide +kernel)) (by decide +kernel), by decide +kernel, (fun h => by cases h), (fun h => by cases h)⟩
theorem f_X2_9 : zfw RX2 9 1 0 .int 0 := ⟨RX2, TX2, 8, rfl, by decide, gt_tab (List.mem_of_getElem? (i := 32) (by decide +kernel)) (by decide +kernel), by decide +kernel, fun _ => rfl, (fun h => by cases h)⟩
theorem f_X2_15 : zfw RX2 15 1 1 .int 0 := ⟨RX2, TX2, 8, rfl, by decide, gt_tab (List.mem_of_getElem? (i := 35) (by decide +kernel)) (by decide +kernel), by decide +kernel, fun _ => rfl, (fun h => by cases h)⟩
theorem f_X2_18 : zfw RX2 18 1 2 .int 0 := ⟨RX2, TX2, 8, rfl, by decide, gt_tab (List.mem_of_getElem? (i := 37) (by decide +kernel)) (by decide +kernel), by decide +kernel, fun _ => rfl, (fun h => by cases h)⟩
theorem f_X2_21 : zfw RX2 21 1 3 .int 0 := ⟨RX2, TX2, 8, rfl, by decide, gt_tab (List.mem_of_getElem? (i := 40) (by decide +kernel)) (by decide +kernel), by decide +kernel, fun _ => rfl, (fun h => by cases h)⟩
theorem f_X2_24 : zfw RX2 24 1 4 (.array .int) 1 := ⟨RX2, TX2, 8, rfl, by decide, gt_tab (List.mem_of_getElem? (i := 43) (by decide +kernel)) (by decide +kernel), by decide +kernel, (fun h => by cases h), fun _ => ⟨rfl, rfl⟩⟩
theorem f_X2_28 : zfw RX2 28 1 5 (.array .int) 1 := ⟨RX2, TX2, 8, rfl, by decide, gt_tab (List.mem_of_getElem? (i := 46) (by decide +kernel)) (by decide +kernel), by decide +kernel, (fun h => by cases h), fun _ => ⟨rfl, rfl⟩⟩
theorem f_X2_31 : zfw RX2 31 1 6 (.array .int) 1 := ⟨RX2, TX2, 8, rfl, by decide, gt_tab (List.mem_of_getElem? (i := 49) (by decide +kernel)) (by decide +kernel), by decide +kernel, (fun h => by cases h), fun _ => ⟨rfl, rfl⟩⟩
theorem f_X2_34 : zfw RX2 34 1 7 (.array .int) 1 := ⟨RX2, TX2, 8, rfl, by decide, gt_tab (List.mem_of_getElem? (i := 52) (by decide +kernel)) (by decide +kernel), by decide +kernel, (fun h => by cases h), fun _ => ⟨rfl, rfl⟩⟩
theorem f_X3_11 : zfw RX3 11 2 0 (.array .int) 1 := ⟨RX3, TX3, 11, rfl, by decide, gt_tab (List.mem_of_getElem? (i := 160) (by decide +kernel)) (by decide +kernel), by decide +kernel, (fun h => by cases h), fun _ => ⟨rfl, rfl⟩⟩
theorem f_X3_15 : zfw RX3 15 2 1 .int 0 := ⟨RX3, TX3, 11, rfl, by decide, gt_tab (List.mem_of_getElem? (i := 161) (by decide +kernel)) (by decide +kernel), by decide +kernel, fun _ => rfl, (fun h => by cases h)⟩
theorem f_X3_19 : zfw RX3 19 2 7 (.array .int) 1 := ⟨RX3, TX3, 11, rfl, by decide, gt_tab (List.mem_of_getElem? (i := 168) (by decide +kernel)) (by decide +kernel), by decide +kernel, (fun h => by cases h), fun _ => ⟨rfl, rfl⟩⟩
theorem f_X3_22 : zfw RX3 22 2 2 .int 0 := ⟨RX3, TX3, 11, rfl, by decide, gt_tab (List.mem_of_getElem? (i := 163) (by decide +kernel)) (by decide +kernel), by decide +kernel, fun _ => rfl, (fun h => by cases h)⟩
theorem f_X3_25 : zfw RX3 25 2 8 .int 0 := ⟨RX3, TX3, 11, rfl, by decide, gt_tab (List.mem_of_getElem? (i := 169) (by decide +kernel)) (by decide +kernel), by decide +kernel, fun _ => rfl, (fun h => by cases h)⟩
theorem f_X3_28 : zfw RX3 28 2 6 .int 0 := ⟨RX3, TX3, 11, rfl, by decide, gt_tab (List.mem_of_getElem? (i := 167) (by decide +kernel)) (by decide +kernel), by decide +kernel, fun _ => rfl, (fun h => by cases h)⟩
theorem f_X3_41 : zfw RX3 41 2 9 .int 0 := ⟨RX3, TX3, 11, rfl, by decide, gt_tab (List.mem_of_getElem? (i := 170) (by decide +kernel)) (by decide +kernel), by decide +kernel, fun _ => rfl, (fun h => by cases h)⟩
theorem f_X3_44 : zfw RX3 44 2 10 .int 0 := ⟨RX3, TX3, 11, rfl, by decide, gt_tab (List.mem_of_getElem? (i := 171) (by decide +kernel)) (by decide +kernel), by decide +kernel, fun _ => rfl, (fun h => by cases h)⟩
theorem f_X3_47 : zfw RX3 47 2 3 .int 0 := ⟨RX3, TX3, 11, rfl, by decide, gt_tab (List.mem_of_getElem? (i := 164) (by decide +kernel)) (by decide +kernel), by decide +kernel, fun _ => rfl, (fun h => by cases h)⟩
theorem f_X3_86 : zfw RX3 86 2 5 .int 0 := ⟨RX3, TX3, 11, rfl, by decide, gt_tab (List.mem_of_getElem? (i := 166) (by decide +kernel)) (by decide +kernel), by decide +kernel, fun _ => rfl, (fun h => by cases h)⟩
theorem f_X3_89 : zfw RX3 89 2 4 .int 0 := ⟨RX3, TX3, 11, rfl, by decide, gt_tab (List.mem_of_getElem? (i := 165) (by decide +kernel)) (by decide +kernel), by decide +kernel, fun _ => rfl, (fun h => by cases h)⟩
theorem f_X4_7 : zfw RX4 7 3 0 (.array .int) 1 := ⟨RX4, TX4, 4, rfl, by decide, gt_tab (List.mem_of_getElem? (i := 84) (by decide +kernel)) (by decide +kernel), by decide +kernel, (fun h => by cases h), fun _ => ⟨rfl, rfl⟩⟩
theorem f_X4_13 : zfw RX4 13 3 1 .int 1 := ⟨RX4, TX4, 4, rfl, by decide, gt_tab (List.mem_of_getElem? (i := 85) (by decide +kernel)) (by decide +kernel), by decide +kernel, (fun h => by cases h), fun _ => ⟨rfl, rfl⟩⟩
theorem f_X4_17 : zfw RX4 17 3 2 .int 1 := ⟨RX4, TX4, 4, rfl, by decide, gt_tab (List.mem_of_getElem? (i := 86) (by decide +kernel)) (by decide +kernel), by decide +kernel, (fun h => by cases h), fun _ => ⟨rfl, rfl⟩⟩
theorem f_X4_20 : zfw RX4 20 3 3 (.array .int) 1 := ⟨RX4, TX4, 4, rfl, by decide, gt_tab (List.mem_of_getElem? (i := 87) (by decide +kernel)) (by decide +kernel), by decide +kernel, (fun h => by cases h), fun _ => ⟨rfl, rfl⟩⟩
theorem f_X5_9 : zfw RX5 9 4 0 (.array .int) 1 := ⟨RX5, TX5, 12, rfl, by decide, gt_tab (List.mem_of_getElem? (i := 111) (by decide +kernel)) (by decide +kernel), by decide +kernel, (fun h => by cases h), fun _ => ⟨rfl, rfl⟩⟩
theorem f_X5_15 : zfw RX5 15 4 1 (.array .int) 1 := ⟨RX5, TX5, 12, rfl, by decide, gt_tab (List.mem_of_getElem? (i := 113) (by decide +kernel)) (by decide +kernel), by decide +kernel, (fun h => by cases h), fun _ => ⟨rfl, rfl⟩⟩
theorem f_X5_18 : zfw RX5 18 4 2 (.array .int) 1 := ⟨RX5, TX5, 12, rfl, by decide, gt_tab (List.mem_of_getElem? (i := 115) (by decide +kernel)) (by decide +kernel), by decide +kernel, (fun h => by cases h), fun _ => ⟨rfl, rfl⟩⟩
theorem f_X5_21 : zfw RX5 21 4 10 (.array .int) 1 := ⟨RX5, TX5, 12, rfl, by decide, gt_tab (List.mem_of_getElem? (i := 127) (by decide +kernel)) (by decide +kernel), by decide +kernel, (fun h => by cases h), fun _ => ⟨rfl, rfl⟩⟩
theorem f_X5_24 : zfw RX5 24 4 11 (.array .int) 1 := ⟨RX5, TX5, 12, rfl, by decide, gt_tab (List.mem_of_getElem? (i := 128) (by decide +kernel)) (by decide +kernel), by decide +kernel, (fun h => by cases h), fun _ => ⟨rfl, rfl⟩⟩
theorem f_X5_27 : zfw RX5 27 4 4 .int 0 := ⟨RX5, TX5, 12, rfl, by decide, gt_tab (List.mem_of_getElem? (i := 119) (by decide +kernel)) (by decide +kernel), by decide +kernel, fun _ => rfl, (fun h => by cases h)⟩
theorem f_X5_37 : zfw RX5 37 4 5 .int 0 := ⟨RX5, TX5, 12, rfl, by decide, gt_tab (List.mem_of_getElem? (i := 121) (by decide +kernel)) (by decide +kernel), by decide +kernel, fun _ => rfl, (fun h => by cases h)⟩
theorem f_X5_40 : zfw RX5 40 1 0 .int 0 := ⟨RX2, TX2, 8, rfl, by decide, gt_tab (List.mem_of_getElem? (i := 33) (by decide +kernel)) (by decide +kernel), by decide +kernel, fun _ => rfl, (fun h => by cases h)⟩
theorem f_X5_45 : zfw RX5 45 4 6 .boolean 0 := ⟨RX5, TX5, 12, rfl, by decide, gt_tab (List.mem_of_getElem? (i := 123) (by decide +kernel)) (by decide +kernel), by decide +kernel, fun _ => rfl, (fun h => by cases h)⟩
theorem f_X5_82 : zfw RX5 82 4 7 .boolean 0 := ⟨RX5, TX5, 12, rfl, by decide, gt_tab (List.mem_of_getElem? (i := 124) (by decide +kernel)) (by decide +kernel), by decide +kernel, fun _ => rfl, (fun h => by cases h)⟩
theorem f_X5_85 : zfw RX5 85 4 8 .int 0 := ⟨RX5, TX5, 12, rfl, by decide, gt_tab (List.mem_of_getElem? (i := 125) (by decide +kernel)) (by decide +kernel), by decide +kernel, fun _ => rfl, (fun h => by cases h)⟩
theorem f_X5_88 : zfw RX5 88 4 9 .int 0 := ⟨RX5, TX5, 12, rfl, by decide, gt_tab (List.mem_of_getElem? (i := 126) (by decide +kernel)) (by decide +kernel), by decide +kernel, fun _ => rfl, (fun h => by cases h)⟩
theorem f_X5_96 : zfw RX5 96 4 3 .int 0 := ⟨RX5, TX5, 12, rfl, by decide, gt_tab (List.mem_of_getElem? (i := 117) (by decide +kernel)) (by decide +kernel), by decide +kernel, fun _ => rfl, (fun h => by cases h)⟩
theorem f_X5_126 : zfw RX5 126 1 3 .int 0 := ⟨RX2, TX2, 8, rfl, by decide, gt_tab (List.mem_of_getElem? (i := 42) (by decide +kernel)) (by decide +kernel), by decide +kernel, fun _ => rfl, (fun h => by cases h)⟩
theorem f_X6_9 : zfw RX6 9 5 0 .int 0 := ⟨RX6, TX6, 3, rfl, by decide, gt_tab (List.mem_of_getElem? (i := 202) (by decide +kernel)) (by decide +kernel), by decide +kernel, fun _ => rfl, (fun h => by cases h)⟩
theorem f_X6_15 : zfw RX6 15 5 1 .int 0 := ⟨RX6, TX6, 3, rfl, by decide, gt_tab (List.mem_of_getElem? (i := 204) (by decide +kernel)) (by decide +kernel), by decide +kernel, fun _ => rfl, (fun h => by cases h)⟩
theorem f_X6_18 : zfw RX6 18 5 2 (.array .int) 1 := ⟨RX6, TX6, 3, rfl, by decide, gt_tab (List.mem_of_getElem? (i := 206) (by decide +kernel)) (by decide +kernel), by decide +kernel, (fun h => by cases h), fun _ => ⟨rfl, rfl⟩⟩
theorem f_X8_13 : zfw RX8 13 7 1 (.array .int) 1 := ⟨RX8, TX8, 52, rfl, by decide, gt_tab (List.mem_of_getElem? (i := 841) (by decide +kernel)) (by decide +kernel), by decide +kernel, (fun h => by cases h), fun _ => ⟨rfl, rfl⟩⟩
theorem f_X8_17 : zfw RX8 17 7 2 (.array .int) 1 := ⟨RX8, TX8, 52, rfl, by decide, gt_tab (List.mem_of_getElem? (i := 842) (by decide +kernel)) (by decide +kernel), by decide +kernel, (fun h => by cases h), fun _ => ⟨rfl, rfl⟩⟩
theorem f_X8_20 : zfw RX8 20 7 5 (.array .int) 1 := ⟨RX8, TX8, 52, rfl, by decide, gt_tab (List.mem_of_getElem? (i := 845) (by decide +kernel)) (by decide +kernel), by decide +kernel, (fun h => by cases h), fun _ => ⟨rfl, rfl⟩⟩
theorem f_X8_23 : zfw RX8 23 7 7 .int 0 := ⟨RX8, TX8, 52, rfl, by decide, gt_tab (List.mem_of_getElem? (i := 847) (by decide +kernel)) (by decide +kernel), by decide +kernel, fun _ => rfl, (fun h => by cases h)⟩
theorem f_X8_26 : zfw RX8 26 7 9 (.array .int) 1 := ⟨RX8, TX8, 52, rfl, by decide, gt_tab (List.mem_of_getElem? (i := 849) (by decide +kernel)) (by decide +kernel), by decide +kernel, (fun h => by cases h), fun _ => ⟨rfl, rfl⟩⟩
theorem f_X8_29 : zfw RX8 29 7 10 (.array .int) 1 := ⟨RX8, TX8, 52, rfl, by decide, gt_tab (List.mem_of_getElem? (i := 850) (by decide +kernel)) (by decide +kernel), by decide +kernel, (fun h => by cases h), fun _ => ⟨rfl, rfl⟩⟩
theorem f_X8_32 : zfw RX8 32 7 11 (.array .int) 1 := ⟨RX8, TX8, 52, rfl, by decide, gt_tab (List.mem_of_getElem? (i := 851) (by decide +kernel)) (by decide +kernel), by decide +kernel, (fun h => by cases h), fun _ => ⟨rfl, rfl⟩⟩
theorem f_X8_35 : zfw RX8 35 7 12 (.array .int) 1 := ⟨RX8, TX8, 52, rfl, by decide, gt_tab (List.mem_of_getElem? (i := 852) (by decide +kernel)) (by decide +kernel), by decide +kernel, (fun h => by cases h), fun _ => ⟨rfl, rfl⟩⟩
theorem f_X8_38 : zfw RX8 38 7 14 .int 0 := ⟨RX8, TX8, 52, rfl, by decide, gt_tab (List.mem_of_getElem? (i := 854) (by decide +kernel)) (by decide +kernel), by decide +kernel, fun _ => rfl, (fun h => by cases h)⟩
theorem f_X8_41 : zfw RX8 41 7 30 (.array .int) 1 := ⟨RX8, TX8, 52, rfl, by decide, gt_tab (List.mem_of_getElem? (i := 870) (by decide +kernel)) (by decide +kernel), by decide +kernel, (fun h => by cases h), fun _ => ⟨rfl, rfl⟩⟩
theorem f_X8_44 : zfw RX8 44 7 32 (.array .int) 1 := ⟨RX8, TX8, 52, rfl, by decide, gt_tab (List.mem_of_getElem? (i := 872) (by decide +kernel)) (by decide +kernel), by decide +kernel, (fun h => by cases h), fun _ => ⟨rfl, rfl⟩⟩
theorem f_X8_47 : zfw RX8 47 7 40 (.array .int) 1 := ⟨RX8, TX8, 52, rfl, by decide, gt_tab (List.mem_of_getElem? (i := 880) (by decide +kernel)) (by decide +kernel), by decide +kernel, (fun h => by cases h), fun _ => ⟨rfl, rfl⟩⟩
theorem f_X8_50 : zfw RX8 50 7 41 (.array .int) 1 := ⟨RX8, TX8, 52, rfl, by decide, gt_tab (List.mem_of_getElem? (i := 881) (by decide +kernel)) (by decide +kernel), by decide +kernel, (fun h => by cases h), fun _ => ⟨rfl, rfl⟩⟩
theorem f_X8_53 : zfw RX8 53 7 42 (.array .int) 1 := ⟨RX8, TX8, 52, rfl, by decide, gt_tab (List.mem_of_getElem? (i := 882) (by decide +kernel)) (by decide +kernel), by decide +kernel, (fun h => by cases h), fun _ => ⟨rfl, rfl⟩⟩
theorem f_X8_56 : zfw RX8 56 7 43 (.array .int) 1 := ⟨RX8, TX8, 52, rfl, by decide, gt_tab (List.mem_of_getElem? (i := 883) (by decide +kernel)) (by decide +kernel), by decide +kernel, (fun h => by cases h), fun _ => ⟨rfl, rfl⟩⟩
theorem f_X8_59 : zfw RX8 59 7 44 .int 0 := ⟨RX8, TX8, 52, rfl, by decide, gt_tab (List.mem_of_getElem? (i := 884) (by decide +kernel)) (by decide +kernel), by decide +kernel, fun _ => rfl, (fun h => by cases h)⟩
theorem f_X8_62 : zfw RX8 62 7 48 (.array .boolean) 1 := ⟨RX8, TX8, 52, rfl, by decide, gt_tab (List.mem_of_getElem? (i := 888) (by decide +kernel)) (by decide +kernel), by decide +kernel, (fun h => by cases h), fun _ => ⟨rfl, rfl⟩⟩
theorem f_X8_66 : zfw RX8 66 7 49 (.array .int) 1 := ⟨RX8, TX8, 52, rfl, by decide, gt_tab (List.mem_of_getElem? (i := 889) (by decide +kernel)) (by decide +kernel), by decide +kernel, (fun h => by cases h), fun _ => ⟨rfl, rfl⟩⟩
theorem f_X8_69 : zfw RX8 69 7 50 (.array .int) 1 := ⟨RX8, TX8, 52, rfl, by decide, gt_tab (List.mem_of_getElem? (i := 890) (by decide +kernel)) (by decide +kernel), by decide +kernel, (fun h => by cases h), fun _ => ⟨rfl, rfl⟩⟩
theorem f_X8_72 : zfw RX8 72 7 51 (.array .int) 1 := ⟨RX8, TX8, 52, rfl, by decide, gt_tab (List.mem_of_getElem? (i := 891) (by decide +kernel)) (by decide +kernel), by decide +kernel, (fun h => by cases h), fun _ => ⟨rfl, rfl⟩⟩
theorem f_X8_79 : zfw RX8 79 7 3 .int 0 := ⟨RX8, TX8, 52, rfl, by decide, gt_tab (List.mem_of_getElem? (i := 843) (by decide +kernel)) (by decide +kernel), by decide +kernel, fun _ => rfl, (fun h => by cases h)⟩
theorem f_X8_82 : zfw RX8 82 7 13 .int 0 := ⟨RX8, TX8, 52, rfl, by decide, gt_tab (List.mem_of_getElem? (i := 853) (by decide +kernel)) (by decide +kernel), by decide +kernel, fun _ => rfl, (fun h => by cases h)⟩
theorem f_X8_111 : zfw RX8 111 7 8 .int 0 := ⟨RX8, TX8, 52, rfl, by decide, gt_tab (List.mem_of_getElem? (i := 848) (by decide +kernel)) (by decide +kernel), by decide +kernel, fun _ => rfl, (fun h => by cases h)⟩
theorem f_X8_138 : zfw RX8 138 7 6 .int 0 := ⟨RX8, TX8, 52, rfl, by decide, gt_tab (List.mem_of_getElem? (i := 846) (by decide +kernel)) (by decide +kernel), by decide +kernel, fun _ => rfl, (fun h => by cases h)⟩
theorem f_X8_141 : zfw RX8 141 7 22 .int 0 := ⟨RX8, TX8, 52, rfl, by decide, gt_tab (List.mem_of_getElem? (i := 862) (by decide +kernel)) (by decide +kernel), by decide +kernel, fun _ => rfl, (fun h => by cases h)⟩
theorem f_X8_144 : zfw RX8 144 7 21 .int 0 := ⟨RX8, TX8, 52, rfl, by decide, gt_tab (List.mem_of_getElem? (i := 861) (by decide +kernel)) (by decide +kernel), by decide +kernel, fun _ => rfl, (fun h => by cases h)⟩
theorem f_X8_147 : zfw RX8 147 7 23 .int 0 := ⟨RX8, TX8, 52, rfl, by decide, gt_tab (List.mem_of_getElem? (i := 863) (by decide +kernel)) (by decide +kernel), by decide +kernel, fun _ => rfl, (fun h => by cases h)⟩
theorem f_X8_153 : zfw RX8 153 7 25 .int 0 := ⟨RX8, TX8, 52, rfl, by decide, gt_tab (List.mem_of_getElem? (i := 865) (by decide +kernel)) (by decide +kernel), by decide +kernel, fun _ => rfl, (fun h => by cases h)⟩
theorem f_X8_156 : zfw RX8 156 7 24 .int 0 := ⟨RX8, TX8, 52, rfl, by decide, gt_tab (List.mem_of_getElem? (i := 864) (by decide +kernel)) (by decide +kernel), by decide +kernel, fun _ => rfl, (fun h => by cases h)⟩
theorem f_X8_167 : zfw RX8 167 7 26 .long 0 := ⟨RX8, TX8, 52, rfl, by decide, gt_tab (List.mem_of_getElem? (i := 866) (by decide +kernel)) (by decide +kernel), by decide +kernel, fun _ => rfl, (fun h => by cases h)⟩
theorem f_X8_171 : zfw RX8 171 7 28 .boolean 0 := ⟨RX8, TX8, 52, rfl, by decide, gt_tab (List.mem_of_getElem? (i := 868) (by decide +kernel)) (by decide +kernel), by decide +kernel, fun _ => rfl, (fun h => by cases h)⟩
theorem f_X8_175 : zfw RX8 175 7 29 .int 0 := ⟨RX8, TX8, 52, rfl, by decide, gt_tab (List.mem_of_getElem? (i := 869) (by decide +kernel)) (by decide +kernel), by decide +kernel, fun _ => rfl, (fun h => by cases h)⟩
theorem f_X8_181 : zfw RX8 181 7 27 .int 0 := ⟨RX8, TX8, 52, rfl, by decide, gt_tab (List.mem_of_getElem? (i := 867) (by decide +kernel)) (by decide +kernel), by decide +kernel, fun _ => rfl, (fun h => by cases h)⟩
theorem f_X8_194 : zfw RX8 194 7 15 .int 0 := ⟨RX8, TX8, 52, rfl, by decide, gt_tab (List.mem_of_getElem? (i := 855) (by decide +kernel)) (by decide +kernel), by decide +kernel, fun _ => rfl, (fun h => by cases h)⟩
theorem f_X8_197 : zfw RX8 197 7 16 .int 0 := ⟨RX8, TX8, 52, rfl, by decide, gt_tab (List.mem_of_getElem? (i := 856) (by decide +kernel)) (by decide +kernel), by decide +kernel, fun _ => rfl, (fun h => by cases h)⟩
theorem f_X8_200 : zfw RX8 200 7 17 .int 0 := ⟨RX8, TX8, 52, rfl, by decide, gt_tab (List.mem_of_getElem? (i := 857) (by decide +kernel)) (by decide +kernel), by decide +kernel, fun _ => rfl, (fun h => by cases h)⟩
theorem f_X8_203 : zfw RX8 203 7 18 .int 0 := ⟨RX8, TX8, 52, rfl, by decide, gt_tab (List.mem_of_getElem? (i := 858) (by decide +kernel)) (by decide +kernel), by decide +kernel, fun _ => rfl, (fun h => by cases h)⟩
theorem f_X8_206 : zfw RX8 206 7 19 .int 0 := ⟨RX8, TX8, 52, rfl, by decide, gt_tab (List.mem_of_getElem? (i := 859) (by decide +kernel)) (by decide +kernel), by decide +kernel, fun _ => rfl, (fun h => by cases h)⟩
theorem f_X8_209 : zfw RX8 209 7 20 .int 0 := ⟨RX8, TX8, 52, rfl, by decide, gt_tab (List.mem_of_getElem? (i := 860) (by decide +kernel)) (by decide +kernel), by decide +kernel, fun _ => rfl, (fun h => by cases h)⟩
theorem f_X8_252 : zfw RX8 252 7 4 .int 0 := ⟨RX8, TX8, 52, rfl, by decide, gt_tab (List.mem_of_getElem? (i := 844) (by decide +kernel)) (by decide +kernel), by decide +kernel, fun _ => rfl, (fun h => by cases h)⟩
theorem f_X8_255 : zfw RX8 255 7 31 .int 0 := ⟨RX8, TX8, 52, rfl, by decide, gt_tab (List.mem_of_getElem? (i := 871) (by decide +kernel)) (by decide +kernel), by decide +kernel, fun _ => rfl, (fun h => by cases h)⟩
theorem f_X8_317 : zfw RX8 317 7 33 .int 0 := ⟨RX8, TX8, 52, rfl, by decide, gt_tab (List.mem_of_getElem? (i := 873) (by decide +kernel)) (by decide +kernel), by decide +kernel, fun _ => rfl, (fun h => by cases h)⟩
theorem f_X8_320 : zfw RX8 320 7 34 .int 0 := ⟨RX8, TX8, 52, rfl, by decide, gt_tab (List.mem_of_getElem? (i := 874) (by decide +kernel)) (by decide +kernel), by decide +kernel, fun _ => rfl, (fun h => by cases h)⟩
theorem f_X8_323 : zfw RX8 323 7 35 .int 0 := ⟨RX8, TX8, 52, rfl, by decide, gt_tab (List.mem_of_getElem? (i := 875) (by decide +kernel)) (by decide +kernel), by decide +kernel, fun _ => rfl, (fun h => by cases h)⟩
theorem f_X8_326 : zfw RX8 326 7 36 .int 0 := ⟨RX8, TX8, 52, rfl, by decide, gt_tab (List.mem_of_getElem? (i := 876) (by decide +kernel)) (by decide +kernel), by decide +kernel, fun _ => rfl, (fun h => by cases h)⟩
theorem f_X8_329 : zfw RX8 329 7 37 .int 0 := ⟨RX8, TX8, 52, rfl, by decide, gt_tab (List.mem_of_getElem? (i := 877) (by decide +kernel)) (by decide +kernel), by decide +kernel, fun _ => rfl, (fun h => by cases h)⟩
theorem f_X8_332 : zfw RX8 332 7 38 .boolean 0 := ⟨RX8, TX8, 52, rfl, by decide, gt_tab (List.mem_of_getElem? (i := 878) (by decide +kernel)) (by decide +kernel), by decide +kernel, fun _ => rfl, (fun h => by cases h)⟩
theorem f_X8_335 : zfw RX8 335 7 39 .boolean 0 := ⟨RX8, TX8, 52, rfl, by decide, gt_tab (List.mem_of_getElem? (i := 879) (by decide +kernel)) (by decide +kernel), by decide +kernel, fun _ => rfl, (fun h => by cases h)⟩
theorem f_X8_396 : zfw RX8 396 7 45 .int 0 := ⟨RX8, TX8, 52, rfl, by decide, gt_tab (List.mem_of_getElem? (i := 885) (by decide +kernel)) (by decide +kernel), by decide +kernel, fun _ => rfl, (fun h => by cases h)⟩
theorem f_X8_399 : zfw RX8 399 7 46 .int 0 := ⟨RX8, TX8, 52, rfl, by decide, gt_tab (List.mem_of_getElem? (i := 886) (by decide +kernel)) (by decide +kernel), by decide +kernel, fun _ => rfl, (fun h => by cases h)⟩
theorem f_X8_402 : zfw RX8 402 7 47 .int 0 := ⟨RX8, TX8, 52, rfl, by decide, gt_tab (List.mem_of_getElem? (i := 887) (by decide +kernel)) (by decide +kernel), by decide +kernel, fun _ => rfl, (fun h => by cases h)⟩
theorem g_J0_9 : Cond.fieldLink RJ0 9 RJ0 "value" "[B" ∈ gtb := gt_tab (List.mem_of_getElem? (i := 1351) (by decide +kernel)) (by decide +kernel)
theorem g_J0_15 : Cond.fieldLink RJ0 15 RJ0 "coder" "B" ∈ gtb := gt_tab (List.mem_of_getElem? (i := 1352) (by decide +kernel)) (by decide +kernel)
theorem g_J0_38 : Cond.fieldLink RJ0 38 RJ0 "COMPACT_STRINGS" "Z" ∈ gtb := gt_tab (List.mem_of_getElem? (i := 389) (by decide +kernel)) (by decide +kernel)
theorem g_J0_1053 : Cond.fieldLink RJ0 1053 RJ3 "SIOOBE_FORMATTER" "Ljava/util/function/BiFunction;" ∈ gtb := gt_tab (List.mem_of_getElem? (i := 405) (by decide +kernel)) (by decide +kernel)
theorem g_J2_44 : Cond.fieldLink RJ2 44 RJ2 "$assertionsDisabled" "Z" ∈ gtb := gt_tab (List.mem_of_getElem? (i := 423) (by decide +kernel)) (by decide +kernel)
theorem g_J2_59 : Cond.fieldLink RJ2 59 RJ2 "HI_BYTE_SHIFT" "I" ∈ gtb := gt_tab (List.mem_of_getElem? (i := 425) (by decide +kernel)) (by decide +kernel)
theorem g_J2_63 : Cond.fieldLink RJ2 63 RJ2 "LO_BYTE_SHIFT" "I" ∈ gtb := gt_tab (List.mem_of_getElem? (i := 427) (by decide +kernel)) (by decide +kernel)
theorem l_X7_1 : Cond.methodLink RX7 1 Lib.objectInit ∈ gtb := gt_tab (List.mem_of_getElem? (i := 23) (by decide +kernel)) (by decide +kernel)
theorem l_X7_24 : Cond.methodLink RX7 24 yX1_init ∈ gtb := gt_tab (List.mem_of_getElem? (i := 73) (by decide +kernel)) (by decide +kernel)
theorem l_X7_58 : Cond.methodLink RX7 58 yX7_setRound ∈ gtb := gt_tab (List.mem_of_getElem? (i := 247) (by decide +kernel)) (by decide +kernel)
theorem l_X7_62 : Cond.methodLink RX7 62 yX7_setDinners ∈ gtb := gt_tab (List.mem_of_getElem? (i := 254) (by decide +kernel)) (by decide +kernel)
theorem l_X7_65 : Cond.methodLink RX7 65 yX7_setNumber ∈ gtb := gt_tab (List.mem_of_getElem? (i := 258) (by decide +kernel)) (by decide +kernel)
theorem l_X7_69 : Cond.methodLink RX7 69 yX7_setWanted ∈ gtb := gt_tab (List.mem_of_getElem? (i := 266) (by decide +kernel)) (by decide +kernel)
theorem l_X7_72 : Cond.methodLink RX7 72 yX7_isWithin ∈ gtb := gt_tab (List.mem_of_getElem? (i := 251) (by decide +kernel)) (by decide +kernel)
theorem l_X7_82 : Cond.methodLink RX7 82 yX2_has ∈ gtb := gt_tab (List.mem_of_getElem? (i := 262) (by decide +kernel)) (by decide +kernel)
theorem l_X7_93 : Cond.methodLink RX7 93 yX0_isKind ∈ gtb := gt_tab (List.mem_of_getElem? (i := 274) (by decide +kernel)) (by decide +kernel)
theorem l_X7_101 : Cond.methodLink RX7 101 yX2_welcome ∈ gtb := gt_tab (List.mem_of_getElem? (i := 278) (by decide +kernel)) (by decide +kernel)
theorem l_X7_104 : Cond.methodLink RX7 104 yX2_hasBoth ∈ gtb := gt_tab (List.mem_of_getElem? (i := 290) (by decide +kernel)) (by decide +kernel)
theorem l_X7_108 : Cond.methodLink RX7 108 yX2_debt ∈ gtb := gt_tab (List.mem_of_getElem? (i := 295) (by decide +kernel)) (by decide +kernel)
theorem l_X7_111 : Cond.methodLink RX7 111 yX2_setDebt ∈ gtb := gt_tab (List.mem_of_getElem? (i := 299) (by decide +kernel)) (by decide +kernel)
theorem l_X7_115 : Cond.methodLink RX7 115 yX7_toldOfOne ∈ gtb := gt_tab (List.mem_of_getElem? (i := 304) (by decide +kernel)) (by decide +kernel)
theorem l_X7_121 : Cond.methodLink RX7 121 yX2_everybody ∈ gtb := gt_tab (List.mem_of_getElem? (i := 308) (by decide +kernel)) (by decide +kernel)
theorem l_X7_125 : Cond.methodLink RX7 125 yX2_creditor ∈ gtb := gt_tab (List.mem_of_getElem? (i := 312) (by decide +kernel)) (by decide +kernel)
theorem l_X7_128 : Cond.methodLink RX7 128 yX2_wish ∈ gtb := gt_tab (List.mem_of_getElem? (i := 320) (by decide +kernel)) (by decide +kernel)
theorem l_X7_131 : Cond.methodLink RX7 131 yX2_owesInAll ∈ gtb := gt_tab (List.mem_of_getElem? (i := 328) (by decide +kernel)) (by decide +kernel)
theorem l_X7_134 : Cond.methodLink RX7 134 yX3_take ∈ gtb := gt_tab (List.mem_of_getElem? (i := 336) (by decide +kernel)) (by decide +kernel)
theorem l_X7_140 : Cond.methodLink RX7 140 yX3_read ∈ gtb := gt_tab (List.mem_of_getElem? (i := 344) (by decide +kernel)) (by decide +kernel)
theorem l_X7_147 : Cond.methodLink RX7 147 yX3_rule ∈ gtb := gt_tab (List.mem_of_getElem? (i := 479) (by decide +kernel)) (by decide +kernel)
theorem l_X7_153 : Cond.methodLink RX7 153 yX7_isSheet ∈ gtb := gt_tab (List.mem_of_getElem? (i := 510) (by decide +kernel)) (by decide +kernel)
theorem l_X7_156 : Cond.methodLink RX7 156 yX7_isTable ∈ gtb := gt_tab (List.mem_of_getElem? (i := 513) (by decide +kernel)) (by decide +kernel)
theorem l_X7_161 : Cond.methodLink RX7 161 yX5_firstWronged ∈ gtb := gt_tab (List.mem_of_getElem? (i := 531) (by decide +kernel)) (by decide +kernel)
theorem l_X7_164 : Cond.methodLink RX7 164 yX5_joy ∈ gtb := gt_tab (List.mem_of_getElem? (i := 543) (by decide +kernel)) (by decide +kernel)
theorem l_X7_168 : Cond.methodLink RX7 168 yX2_become ∈ gtb := gt_tab (List.mem_of_getElem? (i := 583) (by decide +kernel)) (by decide +kernel)
theorem l_X7_172 : Cond.methodLink RX7 172 yX5_hold ∈ gtb := gt_tab (List.mem_of_getElem? (i := 588) (by decide +kernel)) (by decide +kernel)
theorem l_X7_176 : Cond.methodLink RX7 176 yX2_owed ∈ gtb := gt_tab (List.mem_of_getElem? (i := 612) (by decide +kernel)) (by decide +kernel)
theorem l_X7_186 : Cond.methodLink RX7 186 yX2_isIn ∈ gtb := gt_tab (List.mem_of_getElem? (i := 517) (by decide +kernel)) (by decide +kernel)
theorem l_X7_192 : Cond.methodLink RX7 192 yX5_invite ∈ gtb := gt_tab (List.mem_of_getElem? (i := 518) (by decide +kernel)) (by decide +kernel)
theorem l_X7_196 : Cond.methodLink RX7 196 yX7_lawfulTables ∈ gtb := gt_tab (List.mem_of_getElem? (i := 625) (by decide +kernel)) (by decide +kernel)
theorem l_X7_200 : Cond.methodLink RX7 200 yX7_isGladdest ∈ gtb := gt_tab (List.mem_of_getElem? (i := 654) (by decide +kernel)) (by decide +kernel)
theorem l_X7_204 : Cond.methodLink RX7 204 yX5_digits ∈ gtb := gt_tab (List.mem_of_getElem? (i := 676) (by decide +kernel)) (by decide +kernel)
theorem l_X7_210 : Cond.methodLink RX7 210 yX7_isClearest ∈ gtb := gt_tab (List.mem_of_getElem? (i := 680) (by decide +kernel)) (by decide +kernel)
theorem l_X7_217 : Cond.methodLink RX7 217 yX5_countUpTo ∈ gtb := gt_tab (List.mem_of_getElem? (i := 630) (by decide +kernel)) (by decide +kernel)
theorem l_X7_220 : Cond.methodLink RX7 220 yX5_weigh ∈ gtb := gt_tab (List.mem_of_getElem? (i := 658) (by decide +kernel)) (by decide +kernel)
theorem l_X7_224 : Cond.methodLink RX7 224 yX5_findBest ∈ gtb := gt_tab (List.mem_of_getElem? (i := 671) (by decide +kernel)) (by decide +kernel)
theorem l_X7_227 : Cond.methodLink RX7 227 yX7_isAnyTable ∈ gtb := gt_tab (List.mem_of_getElem? (i := 688) (by decide +kernel)) (by decide +kernel)
theorem l_X7_231 : Cond.methodLink RX7 231 yJ9_max_7cf53 ∈ gtb := gt_tab (List.mem_of_getElem? (i := 696) (by decide +kernel)) (by decide +kernel)
theorem l_X7_236 : Cond.methodLink RX7 236 yX7_largestCompany ∈ gtb := gt_tab (List.mem_of_getElem? (i := 701) (by decide +kernel)) (by decide +kernel)
theorem l_X7_239 : Cond.methodLink RX7 239 yJ6_bitCount_0f7a4 ∈ gtb := gt_tab (List.mem_of_getElem? (i := 705) (by decide +kernel)) (by decide +kernel)
theorem l_X7_242 : Cond.methodLink RX7 242 yX5_layBest ∈ gtb := gt_tab (List.mem_of_getElem? (i := 710) (by decide +kernel)) (by decide +kernel)
theorem l_X7_245 : Cond.methodLink RX7 245 yX2_ruined ∈ gtb := gt_tab (List.mem_of_getElem? (i := 714) (by decide +kernel)) (by decide +kernel)
theorem l_X7_248 : Cond.methodLink RX7 248 yX7_isTellable ∈ gtb := gt_tab (List.mem_of_getElem? (i := 722) (by decide +kernel)) (by decide +kernel)
theorem l_X7_252 : Cond.methodLink RX7 252 yX7_fittingKinds ∈ gtb := gt_tab (List.mem_of_getElem? (i := 726) (by decide +kernel)) (by decide +kernel)
theorem l_X7_255 : Cond.methodLink RX7 255 yX7_fittingNumbers ∈ gtb := gt_tab (List.mem_of_getElem? (i := 734) (by decide +kernel)) (by decide +kernel)
theorem l_X7_258 : Cond.methodLink RX7 258 yX7_fittingDebts ∈ gtb := gt_tab (List.mem_of_getElem? (i := 738) (by decide +kernel)) (by decide +kernel)
theorem l_X7_261 : Cond.methodLink RX7 261 yX7_greatestDebt ∈ gtb := gt_tab (List.mem_of_getElem? (i := 742) (by decide +kernel)) (by decide +kernel)
theorem l_X7_264 : Cond.methodLink RX7 264 yX7_wouldFit ∈ gtb := gt_tab (List.mem_of_getElem? (i := 730) (by decide +kernel)) (by decide +kernel)
theorem l_X7_273 : Cond.methodLink RX7 273 yX6_become ∈ gtb := gt_tab (List.mem_of_getElem? (i := 750) (by decide +kernel)) (by decide +kernel)
theorem l_X7_279 : Cond.methodLink RX7 279 yX6_put ∈ gtb := gt_tab (List.mem_of_getElem? (i := 755) (by decide +kernel)) (by decide +kernel)
theorem l_X7_282 : Cond.methodLink RX7 282 yX2_drawDebts ∈ gtb := gt_tab (List.mem_of_getElem? (i := 763) (by decide +kernel)) (by decide +kernel)
theorem l_X7_288 : Cond.methodLink RX7 288 yX7_commonDivisor ∈ gtb := gt_tab (List.mem_of_getElem? (i := 773) (by decide +kernel)) (by decide +kernel)
theorem l_X7_291 : Cond.methodLink RX7 291 yX7_isSort ∈ gtb := gt_tab (List.mem_of_getElem? (i := 792) (by decide +kernel)) (by decide +kernel)
theorem l_X7_294 : Cond.methodLink RX7 294 yX6_hasItem ∈ gtb := gt_tab (List.mem_of_getElem? (i := 799) (by decide +kernel)) (by decide +kernel)
theorem l_X7_297 : Cond.methodLink RX7 297 yX6_hasItems ∈ gtb := gt_tab (List.mem_of_getElem? (i := 807) (by decide +kernel)) (by decide +kernel)
theorem l_X7_300 : Cond.methodLink RX7 300 arraycopyName ∈ gtb := gt_tab (List.mem_of_getElem? (i := 811) (by decide +kernel)) (by decide +kernel)
theorem l_X7_306 : Cond.methodLink RX7 306 yX7_welcomeAll ∈ gtb := gt_tab (List.mem_of_getElem? (i := 816) (by decide +kernel)) (by decide +kernel)
theorem l_X7_310 : Cond.methodLink RX7 310 yX7_guest ∈ gtb := gt_tab (List.mem_of_getElem? (i := 820) (by decide +kernel)) (by decide +kernel)
theorem l_X7_313 : Cond.methodLink RX7 313 yX0_isUnder ∈ gtb := gt_tab (List.mem_of_getElem? (i := 825) (by decide +kernel)) (by decide +kernel)
theorem l_X0_15 : Cond.methodLink RX0 15 yX0_isKind ∈ gtb := gt_tab (List.mem_of_getElem? (i := 828) (by decide +kernel)) (by decide +kernel)
theorem l_X1_3 : Cond.methodLink RX1 3 Lib.objectInit ∈ gtb := gt_tab (List.mem_of_getElem? (i := 76) (by decide +kernel)) (by decide +kernel)
theorem l_X1_21 : Cond.methodLink RX1 21 yX4_init ∈ gtb := gt_tab (List.mem_of_getElem? (i := 80) (by decide +kernel)) (by decide +kernel)
theorem l_X1_24 : Cond.methodLink RX1 24 yX2_debt ∈ gtb := gt_tab (List.mem_of_getElem? (i := 566) (by decide +kernel)) (by decide +kernel)
theorem l_X1_40 : Cond.methodLink RX1 40 yX1_factsOf ∈ gtb := gt_tab (List.mem_of_getElem? (i := 562) (by decide +kernel)) (by decide +kernel)
theorem l_X1_44 : Cond.methodLink RX1 44 yX4_tell ∈ gtb := gt_tab (List.mem_of_getElem? (i := 567) (by decide +kernel)) (by decide +kernel)
theorem l_X1_51 : Cond.methodLink RX1 51 yX0_letsGo ∈ gtb := gt_tab (List.mem_of_getElem? (i := 600) (by decide +kernel)) (by decide +kernel)
theorem l_X1_61 : Cond.methodLink RX1 61 yX2_setDebt ∈ gtb := gt_tab (List.mem_of_getElem? (i := 604) (by decide +kernel)) (by decide +kernel)
theorem l_X1_65 : Cond.methodLink RX1 65 yX0_lends ∈ gtb := gt_tab (List.mem_of_getElem? (i := 609) (by decide +kernel)) (by decide +kernel)
theorem l_X1_68 : Cond.methodLink RX1 68 yX1_forgive ∈ gtb := gt_tab (List.mem_of_getElem? (i := 596) (by decide +kernel)) (by decide +kernel)
theorem l_X1_72 : Cond.methodLink RX1 72 yX1_lend ∈ gtb := gt_tab (List.mem_of_getElem? (i := 605) (by decide +kernel)) (by decide +kernel)
theorem l_X1_75 : Cond.methodLink RX1 75 yX0_glad ∈ gtb := gt_tab (List.mem_of_getElem? (i := 580) (by decide +kernel)) (by decide +kernel)
theorem l_X1_79 : Cond.methodLink RX1 79 yX1_glad ∈ gtb := gt_tab (List.mem_of_getElem? (i := 558) (by decide +kernel)) (by decide +kernel)
theorem l_X1_82 : Cond.methodLink RX1 82 yX1_meet ∈ gtb := gt_tab (List.mem_of_getElem? (i := 670) (by decide +kernel)) (by decide +kernel)
theorem l_X2_3 : Cond.methodLink RX2 3 Lib.objectInit ∈ gtb := gt_tab (List.mem_of_getElem? (i := 31) (by decide +kernel)) (by decide +kernel)
theorem l_X2_37 : Cond.methodLink RX2 37 arraycopyName ∈ gtb := gt_tab (List.mem_of_getElem? (i := 587) (by decide +kernel)) (by decide +kernel)
theorem l_X2_43 : Cond.methodLink RX2 43 yX2_setDebt ∈ gtb := gt_tab (List.mem_of_getElem? (i := 282) (by decide +kernel)) (by decide +kernel)
theorem l_X2_47 : Cond.methodLink RX2 47 yX2_has ∈ gtb := gt_tab (List.mem_of_getElem? (i := 294) (by decide +kernel)) (by decide +kernel)
theorem l_X2_51 : Cond.methodLink RX2 51 yX2_isIn ∈ gtb := gt_tab (List.mem_of_getElem? (i := 316) (by decide +kernel)) (by decide +kernel)
theorem l_X2_55 : Cond.methodLink RX2 55 yX2_debt ∈ gtb := gt_tab (List.mem_of_getElem? (i := 319) (by decide +kernel)) (by decide +kernel)
theorem l_X2_59 : Cond.methodLink RX2 59 yX2_creditor ∈ gtb := gt_tab (List.mem_of_getElem? (i := 324) (by decide +kernel)) (by decide +kernel)
theorem l_X2_62 : Cond.methodLink RX2 62 yX0_must ∈ gtb := gt_tab (List.mem_of_getElem? (i := 325) (by decide +kernel)) (by decide +kernel)
theorem l_X2_68 : Cond.methodLink RX2 68 yX2_owesInAll ∈ gtb := gt_tab (List.mem_of_getElem? (i := 616) (by decide +kernel)) (by decide +kernel)
theorem l_X3_3 : Cond.methodLink RX3 3 Lib.objectInit ∈ gtb := gt_tab (List.mem_of_getElem? (i := 159) (by decide +kernel)) (by decide +kernel)
theorem l_X3_31 : Cond.methodLink RX3 31 yX3_next ∈ gtb := gt_tab (List.mem_of_getElem? (i := 348) (by decide +kernel)) (by decide +kernel)
theorem l_X3_34 : Cond.methodLink RX3 34 yX3_expect ∈ gtb := gt_tab (List.mem_of_getElem? (i := 439) (by decide +kernel)) (by decide +kernel)
theorem l_X3_38 : Cond.methodLink RX3 38 yX3_readEither ∈ gtb := gt_tab (List.mem_of_getElem? (i := 447) (by decide +kernel)) (by decide +kernel)
theorem l_X3_50 : Cond.methodLink RX3 50 yX3_fail ∈ gtb := gt_tab (List.mem_of_getElem? (i := 443) (by decide +kernel)) (by decide +kernel)
theorem l_X3_55 : Cond.methodLink RX3 55 yJ7_copyOf_59c91 ∈ gtb := gt_tab (List.mem_of_getElem? (i := 484) (by decide +kernel)) (by decide +kernel)
theorem l_X3_61 : Cond.methodLink RX3 61 yX4_init ∈ gtb := gt_tab (List.mem_of_getElem? (i := 500) (by decide +kernel)) (by decide +kernel)
theorem l_X3_64 : Cond.methodLink RX3 64 yX3_readBoth ∈ gtb := gt_tab (List.mem_of_getElem? (i := 451) (by decide +kernel)) (by decide +kernel)
theorem l_X3_67 : Cond.methodLink RX3 67 yX3_add ∈ gtb := gt_tab (List.mem_of_getElem? (i := 463) (by decide +kernel)) (by decide +kernel)
theorem l_X3_70 : Cond.methodLink RX3 70 yX3_readNot ∈ gtb := gt_tab (List.mem_of_getElem? (i := 455) (by decide +kernel)) (by decide +kernel)
theorem l_X3_73 : Cond.methodLink RX3 73 yX3_opens ∈ gtb := gt_tab (List.mem_of_getElem? (i := 459) (by decide +kernel)) (by decide +kernel)
theorem l_X3_77 : Cond.methodLink RX3 77 yX3_readSum ∈ gtb := gt_tab (List.mem_of_getElem? (i := 467) (by decide +kernel)) (by decide +kernel)
theorem l_X3_80 : Cond.methodLink RX3 80 yX3_readTerm ∈ gtb := gt_tab (List.mem_of_getElem? (i := 471) (by decide +kernel)) (by decide +kernel)
theorem l_X3_83 : Cond.methodLink RX3 83 yX3_readOne ∈ gtb := gt_tab (List.mem_of_getElem? (i := 475) (by decide +kernel)) (by decide +kernel)
theorem l_X3_92 : Cond.methodLink RX3 92 yX3_isBlank ∈ gtb := gt_tab (List.mem_of_getElem? (i := 352) (by decide +kernel)) (by decide +kernel)
theorem l_X3_95 : Cond.methodLink RX3 95 yX3_isSmallLetter ∈ gtb := gt_tab (List.mem_of_getElem? (i := 355) (by decide +kernel)) (by decide +kernel)
theorem l_X3_98 : Cond.methodLink RX3 98 yX3_readWord ∈ gtb := gt_tab (List.mem_of_getElem? (i := 358) (by decide +kernel)) (by decide +kernel)
theorem l_X3_101 : Cond.methodLink RX3 101 yX3_isDigit ∈ gtb := gt_tab (List.mem_of_getElem? (i := 429) (by decide +kernel)) (by decide +kernel)
theorem l_X3_104 : Cond.methodLink RX3 104 yX3_readNumeral ∈ gtb := gt_tab (List.mem_of_getElem? (i := 432) (by decide +kernel)) (by decide +kernel)
theorem l_X3_107 : Cond.methodLink RX3 107 yX3_isSign ∈ gtb := gt_tab (List.mem_of_getElem? (i := 436) (by decide +kernel)) (by decide +kernel)
theorem l_X3_110 : Cond.methodLink RX3 110 yX3_spelling ∈ gtb := gt_tab (List.mem_of_getElem? (i := 362) (by decide +kernel)) (by decide +kernel)
theorem l_X3_114 : Cond.methodLink RX3 114 yX3_isSpelled ∈ gtb := gt_tab (List.mem_of_getElem? (i := 377) (by decide +kernel)) (by decide +kernel)
theorem l_X3_118 : Cond.methodLink RX3 118 yJ0_length_8abf5 ∈ gtb := gt_tab (List.mem_of_getElem? (i := 381) (by decide +kernel)) (by decide +kernel)
theorem l_X3_124 : Cond.methodLink RX3 124 yJ0_charAt_5068e ∈ gtb := gt_tab (List.mem_of_getElem? (i := 391) (by decide +kernel)) (by decide +kernel)
theorem l_X4_1 : Cond.methodLink RX4 1 Lib.objectInit ∈ gtb := gt_tab (List.mem_of_getElem? (i := 83) (by decide +kernel)) (by decide +kernel)
theorem l_X4_25 : Cond.methodLink RX4 25 yX4_turned ∈ gtb := gt_tab (List.mem_of_getElem? (i := 571) (by decide +kernel)) (by decide +kernel)
theorem l_X4_29 : Cond.methodLink RX4 29 yX4_joined ∈ gtb := gt_tab (List.mem_of_getElem? (i := 574) (by decide +kernel)) (by decide +kernel)
theorem l_X5_3 : Cond.methodLink RX5 3 Lib.objectInit ∈ gtb := gt_tab (List.mem_of_getElem? (i := 110) (by decide +kernel)) (by decide +kernel)
theorem l_X5_31 : Cond.methodLink RX5 31 yJ6_bitCount_0f7a4 ∈ gtb := gt_tab (List.mem_of_getElem? (i := 522) (by decide +kernel)) (by decide +kernel)
theorem l_X5_48 : Cond.methodLink RX5 48 yX2_isIn ∈ gtb := gt_tab (List.mem_of_getElem? (i := 528) (by decide +kernel)) (by decide +kernel)
theorem l_X5_52 : Cond.methodLink RX5 52 yX2_wish ∈ gtb := gt_tab (List.mem_of_getElem? (i := 529) (by decide +kernel)) (by decide +kernel)
theorem l_X5_56 : Cond.methodLink RX5 56 yJ9_max_7cf53 ∈ gtb := gt_tab (List.mem_of_getElem? (i := 551) (by decide +kernel)) (by decide +kernel)
theorem l_X5_61 : Cond.methodLink RX5 61 yX5_seatBehind ∈ gtb := gt_tab (List.mem_of_getElem? (i := 539) (by decide +kernel)) (by decide +kernel)
theorem l_X5_64 : Cond.methodLink RX5 64 yX5_isContent ∈ gtb := gt_tab (List.mem_of_getElem? (i := 535) (by decide +kernel)) (by decide +kernel)
theorem l_X5_68 : Cond.methodLink RX5 68 yX5_pairs ∈ gtb := gt_tab (List.mem_of_getElem? (i := 547) (by decide +kernel)) (by decide +kernel)
theorem l_X5_72 : Cond.methodLink RX5 72 yX1_joyOfPair ∈ gtb := gt_tab (List.mem_of_getElem? (i := 554) (by decide +kernel)) (by decide +kernel)
theorem l_X5_78 : Cond.methodLink RX5 78 yX1_meet ∈ gtb := gt_tab (List.mem_of_getElem? (i := 592) (by decide +kernel)) (by decide +kernel)
theorem l_X5_91 : Cond.methodLink RX5 91 yX5_place ∈ gtb := gt_tab (List.mem_of_getElem? (i := 634) (by decide +kernel)) (by decide +kernel)
theorem l_X5_99 : Cond.methodLink RX5 99 yX5_close ∈ gtb := gt_tab (List.mem_of_getElem? (i := 638) (by decide +kernel)) (by decide +kernel)
theorem l_X5_103 : Cond.methodLink RX5 103 yX5_isBearable ∈ gtb := gt_tab (List.mem_of_getElem? (i := 646) (by decide +kernel)) (by decide +kernel)
theorem l_X5_106 : Cond.methodLink RX5 106 yX5_added ∈ gtb := gt_tab (List.mem_of_getElem? (i := 650) (by decide +kernel)) (by decide +kernel)
theorem l_X5_109 : Cond.methodLink RX5 109 yX5_worthPlace ∈ gtb := gt_tab (List.mem_of_getElem? (i := 642) (by decide +kernel)) (by decide +kernel)
theorem l_X5_113 : Cond.methodLink RX5 113 arraycopyName ∈ gtb := gt_tab (List.mem_of_getElem? (i := 645) (by decide +kernel)) (by decide +kernel)
theorem l_X5_119 : Cond.methodLink RX5 119 yJ7_fill_53178 ∈ gtb := gt_tab (List.mem_of_getElem? (i := 662) (by decide +kernel)) (by decide +kernel)
theorem l_X5_129 : Cond.methodLink RX5 129 yX1_clearedByPair ∈ gtb := gt_tab (List.mem_of_getElem? (i := 666) (by decide +kernel)) (by decide +kernel)
theorem l_X6_3 : Cond.methodLink RX6 3 Lib.objectInit ∈ gtb := gt_tab (List.mem_of_getElem? (i := 201) (by decide +kernel)) (by decide +kernel)
theorem l_X6_22 : Cond.methodLink RX6 22 yJ7_fill_53178 ∈ gtb := gt_tab (List.mem_of_getElem? (i := 754) (by decide +kernel)) (by decide +kernel)
theorem l_L_9 : Cond.methodLink RL 9 yX7_init ∈ gtb := gt_tab (List.mem_of_getElem? (i := 20) (by decide +kernel)) (by decide +kernel)
theorem l_L_12 : Cond.methodLink RL 12 yX8_init ∈ gtb := gt_tab (List.mem_of_getElem? (i := 833) (by decide +kernel)) (by decide +kernel)
theorem l_L_13 : Cond.methodLink RL 13 yX7_set ∈ gtb := gt_tab (List.mem_of_getElem? (i := 243) (by decide +kernel)) (by decide +kernel)
theorem l_L_17 : Cond.methodLink RL 17 yX8_set ∈ gtb := gt_tab (List.mem_of_getElem? (i := 998) (by decide +kernel)) (by decide +kernel)
theorem l_L_18 : Cond.methodLink RL 18 yX7_guest ∈ gtb := gt_tab (List.mem_of_getElem? (i := 270) (by decide +kernel)) (by decide +kernel)
theorem l_L_22 : Cond.methodLink RL 22 yX8_guest ∈ gtb := gt_tab (List.mem_of_getElem? (i := 1039) (by decide +kernel)) (by decide +kernel)
theorem l_L_23 : Cond.methodLink RL 23 yX7_owe ∈ gtb := gt_tab (List.mem_of_getElem? (i := 286) (by decide +kernel)) (by decide +kernel)
theorem l_L_26 : Cond.methodLink RL 26 yX8_owe ∈ gtb := gt_tab (List.mem_of_getElem? (i := 1044) (by decide +kernel)) (by decide +kernel)
theorem l_L_27 : Cond.methodLink RL 27 yX7_told ∈ gtb := gt_tab (List.mem_of_getElem? (i := 300) (by decide +kernel)) (by decide +kernel)
theorem l_L_30 : Cond.methodLink RL 30 yX8_told ∈ gtb := gt_tab (List.mem_of_getElem? (i := 1052) (by decide +kernel)) (by decide +kernel)
theorem l_L_31 : Cond.methodLink RL 31 yX7_feed ∈ gtb := gt_tab (List.mem_of_getElem? (i := 332) (by decide +kernel)) (by decide +kernel)
theorem l_L_35 : Cond.methodLink RL 35 yX8_feed ∈ gtb := gt_tab (List.mem_of_getElem? (i := 1053) (by decide +kernel)) (by decide +kernel)
theorem l_L_36 : Cond.methodLink RL 36 yX7_text ∈ gtb := gt_tab (List.mem_of_getElem? (i := 340) (by decide +kernel)) (by decide +kernel)
theorem l_L_40 : Cond.methodLink RL 40 yX8_text ∈ gtb := gt_tab (List.mem_of_getElem? (i := 1058) (by decide +kernel)) (by decide +kernel)
theorem l_L_41 : Cond.methodLink RL 41 yX7_force ∈ gtb := gt_tab (List.mem_of_getElem? (i := 502) (by decide +kernel)) (by decide +kernel)
theorem l_L_44 : Cond.methodLink RL 44 yX8_force ∈ gtb := gt_tab (List.mem_of_getElem? (i := 1132) (by decide +kernel)) (by decide +kernel)
theorem l_L_45 : Cond.methodLink RL 45 yX7_table ∈ gtb := gt_tab (List.mem_of_getElem? (i := 506) (by decide +kernel)) (by decide +kernel)
theorem l_L_48 : Cond.methodLink RL 48 yX8_table ∈ gtb := gt_tab (List.mem_of_getElem? (i := 1136) (by decide +kernel)) (by decide +kernel)
theorem l_L_49 : Cond.methodLink RL 49 yX7_dine ∈ gtb := gt_tab (List.mem_of_getElem? (i := 617) (by decide +kernel)) (by decide +kernel)
theorem l_L_52 : Cond.methodLink RL 52 yX8_dine ∈ gtb := gt_tab (List.mem_of_getElem? (i := 1212) (by decide +kernel)) (by decide +kernel)
theorem l_L_53 : Cond.methodLink RL 53 yX7_tables ∈ gtb := gt_tab (List.mem_of_getElem? (i := 621) (by decide +kernel)) (by decide +kernel)
theorem l_L_56 : Cond.methodLink RL 56 yX8_tables ∈ gtb := gt_tab (List.mem_of_getElem? (i := 1216) (by decide +kernel)) (by decide +kernel)
theorem l_L_57 : Cond.methodLink RL 57 yX7_bars ∈ gtb := gt_tab (List.mem_of_getElem? (i := 684) (by decide +kernel)) (by decide +kernel)
theorem l_L_60 : Cond.methodLink RL 60 yX8_bars ∈ gtb := gt_tab (List.mem_of_getElem? (i := 1248) (by decide +kernel)) (by decide +kernel)
theorem l_L_61 : Cond.methodLink RL 61 yX7_borrow ∈ gtb := gt_tab (List.mem_of_getElem? (i := 692) (by decide +kernel)) (by decide +kernel)
theorem l_L_64 : Cond.methodLink RL 64 yX8_borrow ∈ gtb := gt_tab (List.mem_of_getElem? (i := 1256) (by decide +kernel)) (by decide +kernel)
theorem l_L_65 : Cond.methodLink RL 65 yX7_company ∈ gtb := gt_tab (List.mem_of_getElem? (i := 697) (by decide +kernel)) (by decide +kernel)
theorem l_L_68 : Cond.methodLink RL 68 yX8_company ∈ gtb := gt_tab (List.mem_of_getElem? (i := 1260) (by decide +kernel)) (by decide +kernel)
theorem l_L_69 : Cond.methodLink RL 69 yX7_run ∈ gtb := gt_tab (List.mem_of_getElem? (i := 706) (by decide +kernel)) (by decide +kernel)
theorem l_L_72 : Cond.methodLink RL 72 yX8_run ∈ gtb := gt_tab (List.mem_of_getElem? (i := 1264) (by decide +kernel)) (by decide +kernel)
theorem l_L_73 : Cond.methodLink RL 73 yX7_tells ∈ gtb := gt_tab (List.mem_of_getElem? (i := 718) (by decide +kernel)) (by decide +kernel)
theorem l_L_76 : Cond.methodLink RL 76 yX8_tells ∈ gtb := gt_tab (List.mem_of_getElem? (i := 1277) (by decide +kernel)) (by decide +kernel)
theorem l_L_77 : Cond.methodLink RL 77 yX7_film ∈ gtb := gt_tab (List.mem_of_getElem? (i := 746) (by decide +kernel)) (by decide +kernel)
theorem l_L_80 : Cond.methodLink RL 80 yX8_film ∈ gtb := gt_tab (List.mem_of_getElem? (i := 1290) (by decide +kernel)) (by decide +kernel)
theorem l_L_81 : Cond.methodLink RL 81 yX7_drawn ∈ gtb := gt_tab (List.mem_of_getElem? (i := 759) (by decide +kernel)) (by decide +kernel)
theorem l_L_84 : Cond.methodLink RL 84 yX8_drawn ∈ gtb := gt_tab (List.mem_of_getElem? (i := 1299) (by decide +kernel)) (by decide +kernel)
theorem l_L_85 : Cond.methodLink RL 85 yX7_chance ∈ gtb := gt_tab (List.mem_of_getElem? (i := 768) (by decide +kernel)) (by decide +kernel)
theorem l_L_89 : Cond.methodLink RL 89 yX8_chance ∈ gtb := gt_tab (List.mem_of_getElem? (i := 1312) (by decide +kernel)) (by decide +kernel)
theorem l_L_90 : Cond.methodLink RL 90 yX7_image ∈ gtb := gt_tab (List.mem_of_getElem? (i := 776) (by decide +kernel)) (by decide +kernel)
theorem l_L_93 : Cond.methodLink RL 93 yX8_image ∈ gtb := gt_tab (List.mem_of_getElem? (i := 1317) (by decide +kernel)) (by decide +kernel)
theorem l_L_94 : Cond.methodLink RL 94 yX7_back ∈ gtb := gt_tab (List.mem_of_getElem? (i := 780) (by decide +kernel)) (by decide +kernel)
theorem l_L_97 : Cond.methodLink RL 97 yX8_back ∈ gtb := gt_tab (List.mem_of_getElem? (i := 1321) (by decide +kernel)) (by decide +kernel)
theorem l_L_98 : Cond.methodLink RL 98 yX7_count ∈ gtb := gt_tab (List.mem_of_getElem? (i := 784) (by decide +kernel)) (by decide +kernel)
theorem l_L_101 : Cond.methodLink RL 101 yX8_count ∈ gtb := gt_tab (List.mem_of_getElem? (i := 1325) (by decide +kernel)) (by decide +kernel)
theorem l_L_102 : Cond.methodLink RL 102 yX7_sheet ∈ gtb := gt_tab (List.mem_of_getElem? (i := 788) (by decide +kernel)) (by decide +kernel)
theorem l_L_105 : Cond.methodLink RL 105 yX8_sheet ∈ gtb := gt_tab (List.mem_of_getElem? (i := 1330) (by decide +kernel)) (by decide +kernel)
theorem l_L_106 : Cond.methodLink RL 106 yX7_cell ∈ gtb := gt_tab (List.mem_of_getElem? (i := 795) (by decide +kernel)) (by decide +kernel)
theorem l_L_109 : Cond.methodLink RL 109 yX8_cell ∈ gtb := gt_tab (List.mem_of_getElem? (i := 1331) (by decide +kernel)) (by decide +kernel)
theorem l_L_110 : Cond.methodLink RL 110 yX7_copy ∈ gtb := gt_tab (List.mem_of_getElem? (i := 803) (by decide +kernel)) (by decide +kernel)
theorem l_L_114 : Cond.methodLink RL 114 yX8_copy ∈ gtb := gt_tab (List.mem_of_getElem? (i := 1335) (by decide +kernel)) (by decide +kernel)
theorem l_L_115 : Cond.methodLink RL 115 yX7_guests ∈ gtb := gt_tab (List.mem_of_getElem? (i := 812) (by decide +kernel)) (by decide +kernel)
theorem l_L_119 : Cond.methodLink RL 119 yX8_guests ∈ gtb := gt_tab (List.mem_of_getElem? (i := 1339) (by decide +kernel)) (by decide +kernel)
theorem l_L_120 : Cond.methodLink RL 120 yX7_taken ∈ gtb := gt_tab (List.mem_of_getElem? (i := 821) (by decide +kernel)) (by decide +kernel)
theorem l_L_123 : Cond.methodLink RL 123 yX8_taken ∈ gtb := gt_tab (List.mem_of_getElem? (i := 1344) (by decide +kernel)) (by decide +kernel)
theorem l_X8_7 : Cond.methodLink RX8 7 Lib.objectInit ∈ gtb := gt_tab (List.mem_of_getElem? (i := 836) (by decide +kernel)) (by decide +kernel)
theorem l_X8_75 : Cond.methodLink RX8 75 yX8_spell ∈ gtb := gt_tab (List.mem_of_getElem? (i := 837) (by decide +kernel)) (by decide +kernel)
theorem l_X8_85 : Cond.methodLink RX8 85 yX8_in ∈ gtb := gt_tab (List.mem_of_getElem? (i := 1003) (by decide +kernel)) (by decide +kernel)
theorem l_X8_89 : Cond.methodLink RX8 89 yX8_isOne ∈ gtb := gt_tab (List.mem_of_getElem? (i := 1006) (by decide +kernel)) (by decide +kernel)
theorem l_X8_99 : Cond.methodLink RX8 99 yX8_isValue ∈ gtb := gt_tab (List.mem_of_getElem? (i := 1010) (by decide +kernel)) (by decide +kernel)
theorem l_X8_103 : Cond.methodLink RX8 103 yX8_told ∈ gtb := gt_tab (List.mem_of_getElem? (i := 1016) (by decide +kernel)) (by decide +kernel)
theorem l_X8_107 : Cond.methodLink RX8 107 yX8_lays ∈ gtb := gt_tab (List.mem_of_getElem? (i := 1035) (by decide +kernel)) (by decide +kernel)
theorem l_X8_116 : Cond.methodLink RX8 116 yX8_areTwo ∈ gtb := gt_tab (List.mem_of_getElem? (i := 1048) (by decide +kernel)) (by decide +kernel)
theorem l_X8_126 : Cond.methodLink RX8 126 yX8_creditor ∈ gtb := gt_tab (List.mem_of_getElem? (i := 1023) (by decide +kernel)) (by decide +kernel)
theorem l_X8_129 : Cond.methodLink RX8 129 yX8_must ∈ gtb := gt_tab (List.mem_of_getElem? (i := 1027) (by decide +kernel)) (by decide +kernel)
theorem l_X8_132 : Cond.methodLink RX8 132 yX8_owesAll ∈ gtb := gt_tab (List.mem_of_getElem? (i := 1031) (by decide +kernel)) (by decide +kernel)
theorem l_X8_150 : Cond.methodLink RX8 150 yX8_byteAt ∈ gtb := gt_tab (List.mem_of_getElem? (i := 1070) (by decide +kernel)) (by decide +kernel)
theorem l_X8_178 : Cond.methodLink RX8 178 yX8_isLetter ∈ gtb := gt_tab (List.mem_of_getElem? (i := 1082) (by decide +kernel)) (by decide +kernel)
theorem l_X8_184 : Cond.methodLink RX8 184 yX8_fail ∈ gtb := gt_tab (List.mem_of_getElem? (i := 1090) (by decide +kernel)) (by decide +kernel)
theorem l_X8_187 : Cond.methodLink RX8 187 yX8_next ∈ gtb := gt_tab (List.mem_of_getElem? (i := 1066) (by decide +kernel)) (by decide +kernel)
theorem l_X8_190 : Cond.methodLink RX8 190 yX8_isWord ∈ gtb := gt_tab (List.mem_of_getElem? (i := 1078) (by decide +kernel)) (by decide +kernel)
theorem l_X8_212 : Cond.methodLink RX8 212 yX8_isSign ∈ gtb := gt_tab (List.mem_of_getElem? (i := 1122) (by decide +kernel)) (by decide +kernel)
theorem l_X8_215 : Cond.methodLink RX8 215 yX8_opens ∈ gtb := gt_tab (List.mem_of_getElem? (i := 1106) (by decide +kernel)) (by decide +kernel)
theorem l_X8_219 : Cond.methodLink RX8 219 yX8_atom ∈ gtb := gt_tab (List.mem_of_getElem? (i := 1118) (by decide +kernel)) (by decide +kernel)
theorem l_X8_223 : Cond.methodLink RX8 223 yX8_either ∈ gtb := gt_tab (List.mem_of_getElem? (i := 1094) (by decide +kernel)) (by decide +kernel)
theorem l_X8_226 : Cond.methodLink RX8 226 yX8_name ∈ gtb := gt_tab (List.mem_of_getElem? (i := 1126) (by decide +kernel)) (by decide +kernel)
theorem l_X8_229 : Cond.methodLink RX8 229 yX8_term ∈ gtb := gt_tab (List.mem_of_getElem? (i := 1114) (by decide +kernel)) (by decide +kernel)
theorem l_X8_234 : Cond.methodLink RX8 234 yX8_not ∈ gtb := gt_tab (List.mem_of_getElem? (i := 1102) (by decide +kernel)) (by decide +kernel)
theorem l_X8_237 : Cond.methodLink RX8 237 yX8_added ∈ gtb := gt_tab (List.mem_of_getElem? (i := 1110) (by decide +kernel)) (by decide +kernel)
theorem l_X8_242 : Cond.methodLink RX8 242 yX8_both ∈ gtb := gt_tab (List.mem_of_getElem? (i := 1098) (by decide +kernel)) (by decide +kernel)
theorem l_X8_245 : Cond.methodLink RX8 245 yX8_part ∈ gtb := gt_tab (List.mem_of_getElem? (i := 1086) (by decide +kernel)) (by decide +kernel)
theorem l_X8_249 : Cond.methodLink RX8 249 yX8_read ∈ gtb := gt_tab (List.mem_of_getElem? (i := 1062) (by decide +kernel)) (by decide +kernel)
theorem l_X8_258 : Cond.methodLink RX8 258 yX8_within ∈ gtb := gt_tab (List.mem_of_getElem? (i := 1173) (by decide +kernel)) (by decide +kernel)
theorem l_X8_262 : Cond.methodLink RX8 262 yX8_asks ∈ gtb := gt_tab (List.mem_of_getElem? (i := 1169) (by decide +kernel)) (by decide +kernel)
theorem l_X8_265 : Cond.methodLink RX8 265 yX8_seatedSet ∈ gtb := gt_tab (List.mem_of_getElem? (i := 1153) (by decide +kernel)) (by decide +kernel)
theorem l_X8_268 : Cond.methodLink RX8 268 yX8_beside ∈ gtb := gt_tab (List.mem_of_getElem? (i := 1157) (by decide +kernel)) (by decide +kernel)
theorem l_X8_271 : Cond.methodLink RX8 271 yX8_gladOf ∈ gtb := gt_tab (List.mem_of_getElem? (i := 1165) (by decide +kernel)) (by decide +kernel)
theorem l_X8_274 : Cond.methodLink RX8 274 yX8_letsGo ∈ gtb := gt_tab (List.mem_of_getElem? (i := 1192) (by decide +kernel)) (by decide +kernel)
theorem l_X8_277 : Cond.methodLink RX8 277 yX8_lessens ∈ gtb := gt_tab (List.mem_of_getElem? (i := 1196) (by decide +kernel)) (by decide +kernel)
theorem l_X8_280 : Cond.methodLink RX8 280 yX8_lendsOf ∈ gtb := gt_tab (List.mem_of_getElem? (i := 1200) (by decide +kernel)) (by decide +kernel)
theorem l_X8_283 : Cond.methodLink RX8 283 yX8_settles ∈ gtb := gt_tab (List.mem_of_getElem? (i := 1188) (by decide +kernel)) (by decide +kernel)
theorem l_X8_287 : Cond.methodLink RX8 287 yX8_laysAside ∈ gtb := gt_tab (List.mem_of_getElem? (i := 1180) (by decide +kernel)) (by decide +kernel)
theorem l_X8_290 : Cond.methodLink RX8 290 yX8_dines ∈ gtb := gt_tab (List.mem_of_getElem? (i := 1184) (by decide +kernel)) (by decide +kernel)
theorem l_X8_293 : Cond.methodLink RX8 293 yX8_owed ∈ gtb := gt_tab (List.mem_of_getElem? (i := 1204) (by decide +kernel)) (by decide +kernel)
theorem l_X8_296 : Cond.methodLink RX8 296 yX8_laysBack ∈ gtb := gt_tab (List.mem_of_getElem? (i := 1208) (by decide +kernel)) (by decide +kernel)
theorem l_X8_299 : Cond.methodLink RX8 299 yX8_isSheet ∈ gtb := gt_tab (List.mem_of_getElem? (i := 1140) (by decide +kernel)) (by decide +kernel)
theorem l_X8_304 : Cond.methodLink RX8 304 yX8_sits ∈ gtb := gt_tab (List.mem_of_getElem? (i := 1144) (by decide +kernel)) (by decide +kernel)
theorem l_X8_308 : Cond.methodLink RX8 308 yX8_unlawful ∈ gtb := gt_tab (List.mem_of_getElem? (i := 1149) (by decide +kernel)) (by decide +kernel)
theorem l_X8_311 : Cond.methodLink RX8 311 yX8_joy ∈ gtb := gt_tab (List.mem_of_getElem? (i := 1161) (by decide +kernel)) (by decide +kernel)
theorem l_X8_314 : Cond.methodLink RX8 314 yX8_owedBehind ∈ gtb := gt_tab (List.mem_of_getElem? (i := 1176) (by decide +kernel)) (by decide +kernel)
theorem l_X8_338 : Cond.methodLink RX8 338 yX8_digits ∈ gtb := gt_tab (List.mem_of_getElem? (i := 1244) (by decide +kernel)) (by decide +kernel)
theorem l_X8_341 : Cond.methodLink RX8 341 yX8_looks ∈ gtb := gt_tab (List.mem_of_getElem? (i := 1240) (by decide +kernel)) (by decide +kernel)
theorem l_X8_344 : Cond.methodLink RX8 344 yX8_seeks ∈ gtb := gt_tab (List.mem_of_getElem? (i := 1236) (by decide +kernel)) (by decide +kernel)
theorem l_X8_347 : Cond.methodLink RX8 347 yX8_begins ∈ gtb := gt_tab (List.mem_of_getElem? (i := 1229) (by decide +kernel)) (by decide +kernel)
theorem l_X8_351 : Cond.methodLink RX8 351 yX8_bitsOf ∈ gtb := gt_tab (List.mem_of_getElem? (i := 1233) (by decide +kernel)) (by decide +kernel)
theorem l_X8_356 : Cond.methodLink RX8 356 yX8_everybody ∈ gtb := gt_tab (List.mem_of_getElem? (i := 1221) (by decide +kernel)) (by decide +kernel)
theorem l_X8_359 : Cond.methodLink RX8 359 yX8_seeksAll ∈ gtb := gt_tab (List.mem_of_getElem? (i := 1225) (by decide +kernel)) (by decide +kernel)
theorem l_X8_363 : Cond.methodLink RX8 363 yX8_isAny ∈ gtb := gt_tab (List.mem_of_getElem? (i := 1252) (by decide +kernel)) (by decide +kernel)
theorem l_X8_368 : Cond.methodLink RX8 368 yX8_sitsBy ∈ gtb := gt_tab (List.mem_of_getElem? (i := 1269) (by decide +kernel)) (by decide +kernel)
theorem l_X8_372 : Cond.methodLink RX8 372 yX8_ruined ∈ gtb := gt_tab (List.mem_of_getElem? (i := 1273) (by decide +kernel)) (by decide +kernel)
theorem l_X8_377 : Cond.methodLink RX8 377 yX8_toldBy ∈ gtb := gt_tab (List.mem_of_getElem? (i := 1282) (by decide +kernel)) (by decide +kernel)
theorem l_X8_380 : Cond.methodLink RX8 380 yX8_owedBy ∈ gtb := gt_tab (List.mem_of_getElem? (i := 1286) (by decide +kernel)) (by decide +kernel)
theorem l_X8_384 : Cond.methodLink RX8 384 yX8_sheet ∈ gtb := gt_tab (List.mem_of_getElem? (i := 1294) (by decide +kernel)) (by decide +kernel)
theorem l_X8_388 : Cond.methodLink RX8 388 yX8_counts ∈ gtb := gt_tab (List.mem_of_getElem? (i := 1308) (by decide +kernel)) (by decide +kernel)
theorem l_X8_391 : Cond.methodLink RX8 391 yX8_lawfulBy ∈ gtb := gt_tab (List.mem_of_getElem? (i := 1303) (by decide +kernel)) (by decide +kernel)
theorem l_X8_409 : Cond.methodLink RX8 409 yX8_guest ∈ gtb := gt_tab (List.mem_of_getElem? (i := 1343) (by decide +kernel)) (by decide +kernel)
theorem l_X8_412 : Cond.methodLink RX8 412 yX8_over ∈ gtb := gt_tab (List.mem_of_getElem? (i := 1348) (by decide +kernel)) (by decide +kernel)
theorem l_J0_335 : Cond.methodLink RJ0 335 yJ0_coder_7d493 ∈ gtb := gt_tab (List.mem_of_getElem? (i := 385) (by decide +kernel)) (by decide +kernel)
theorem l_J0_492 : Cond.methodLink RJ0 492 yJ0_isLatin1_aae02 ∈ gtb := gt_tab (List.mem_of_getElem? (i := 395) (by decide +kernel)) (by decide +kernel)
theorem l_J0_495 : Cond.methodLink RJ0 495 yJ1_charAt_3b067 ∈ gtb := gt_tab (List.mem_of_getElem? (i := 399) (by decide +kernel)) (by decide +kernel)
theorem l_J0_498 : Cond.methodLink RJ0 498 yJ2_charAt_3b067 ∈ gtb := gt_tab (List.mem_of_getElem? (i := 410) (by decide +kernel)) (by decide +kernel)
theorem l_J0_1059 : Cond.methodLink RJ0 1059 yJ3_checkIndex_8e157 ∈ gtb := gt_tab (List.mem_of_getElem? (i := 407) (by decide +kernel)) (by decide +kernel)
theorem l_J1_9 : Cond.methodLink RJ1 9 yJ0_checkIndex_df160 ∈ gtb := gt_tab (List.mem_of_getElem? (i := 402) (by decide +kernel)) (by decide +kernel)
theorem l_J2_48 : Cond.methodLink RJ2 48 yJ2_length_9d52b ∈ gtb := gt_tab (List.mem_of_getElem? (i := 416) (by decide +kernel)) (by decide +kernel)
theorem l_J2_67 : Cond.methodLink RJ2 67 yJ2_checkIndex_2214a ∈ gtb := gt_tab (List.mem_of_getElem? (i := 413) (by decide +kernel)) (by decide +kernel)
theorem l_J2_71 : Cond.methodLink RJ2 71 yJ2_getChar_3b067 ∈ gtb := gt_tab (List.mem_of_getElem? (i := 420) (by decide +kernel)) (by decide +kernel)
theorem l_J2_414 : Cond.methodLink RJ2 414 yJ0_checkIndex_df160 ∈ gtb := gt_tab (List.mem_of_getElem? (i := 419) (by decide +kernel)) (by decide +kernel)
theorem l_J7_150 : Cond.methodLink RJ7 150 arraycopyName ∈ gtb := gt_tab (List.mem_of_getElem? (i := 497) (by decide +kernel)) (by decide +kernel)
theorem l_J7_304 : Cond.methodLink RJ7 304 yJ9_min_7cf53 ∈ gtb := gt_tab (List.mem_of_getElem? (i := 494) (by decide +kernel)) (by decide +kernel)
theorem n_X7_9 : Cond.methodLinkNest RX7 9 yX2_init RX7 ∈ znest := List.mem_of_getElem? (i := 0) rfl
theorem n_X7_31 : Cond.methodLinkNest RX7 31 yX5_init RX7 ∈ znest := List.mem_of_getElem? (i := 1) rfl
theorem n_X7_38 : Cond.methodLinkNest RX7 38 yX3_init RX7 ∈ znest := List.mem_of_getElem? (i := 2) rfl
theorem n_X7_57 : Cond.methodLinkNest RX7 57 yX6_init RX7 ∈ znest := List.mem_of_getElem? (i := 3) rfl
theorem n_X0_11 : Cond.methodLinkNest RX0 11 yX7_isWithin RX7 ∈ znest := List.mem_of_getElem? (i := 4) rfl
theorem n_X1_57 : Cond.methodLinkNest RX1 57 yX7_bounded RX7 ∈ znest := List.mem_of_getElem? (i := 6) rfl
theorem n_X4_33 : Cond.methodLinkNest RX4 33 yX7_bounded RX7 ∈ znest := List.mem_of_getElem? (i := 5) rfl
theorem c_X7_160 : Cond.constant RX7 160 (-100000) ∈ gtb := gt_tab (List.mem_of_getElem? (i := 530) (by decide +kernel)) (by decide +kernel)
theorem c_X7_216 : Cond.constant RX7 216 (2147483647) ∈ gtb := gt_tab (List.mem_of_getElem? (i := 629) (by decide +kernel)) (by decide +kernel)
theorem c_X2_72 : Cond.constant RX2 72 (1103515245) ∈ gtb := gt_tab (List.mem_of_getElem? (i := 767) (by decide +kernel)) (by decide +kernel)
theorem c_X5_95 : Cond.constant RX5 95 (2147483647) ∈ gtb := gt_tab (List.mem_of_getElem? (i := 675) (by decide +kernel)) (by decide +kernel)
theorem c_X5_125 : Cond.constant RX5 125 (-2147483648) ∈ gtb := gt_tab (List.mem_of_getElem? (i := 665) (by decide +kernel)) (by decide +kernel)
theorem c_X8_307 : Cond.constant RX8 307 (-100000) ∈ gtb := gt_tab (List.mem_of_getElem? (i := 1148) (by decide +kernel)) (by decide +kernel)
theorem c_X8_387 : Cond.constant RX8 387 (1103515245) ∈ gtb := gt_tab (List.mem_of_getElem? (i := 1307) (by decide +kernel)) (by decide +kernel)
theorem c_J6_265 : Cond.constant RJ6 265 (1431655765) ∈ gtb := gt_tab (List.mem_of_getElem? (i := 525) (by decide +kernel)) (by decide +kernel)
theorem c_J6_266 : Cond.constant RJ6 266 (858993459) ∈ gtb := gt_tab (List.mem_of_getElem? (i := 526) (by decide +kernel)) (by decide +kernel)
theorem c_J6_267 : Cond.constant RJ6 267 (252645135) ∈ gtb := gt_tab (List.mem_of_getElem? (i := 527) (by decide +kernel)) (by decide +kernel)
theorem cl_X7_286 : Cond.constantLong RX7 286 (-4611686018427387904) ∈ gtb := gt_tab (List.mem_of_getElem? (i := 772) (by decide +kernel)) (by decide +kernel)
theorem cl_X8_93 : Cond.constantLong RX8 93 (999) ∈ gtb := gt_tab (List.mem_of_getElem? (i := 1014) (by decide +kernel)) (by decide +kernel)
theorem cl_X8_95 : Cond.constantLong RX8 95 (9) ∈ gtb := gt_tab (List.mem_of_getElem? (i := 1015) (by decide +kernel)) (by decide +kernel)
theorem cl_X8_97 : Cond.constantLong RX8 97 (3) ∈ gtb := gt_tab (List.mem_of_getElem? (i := 1002) (by decide +kernel)) (by decide +kernel)
theorem cl_X8_114 : Cond.constantLong RX8 114 (5) ∈ gtb := gt_tab (List.mem_of_getElem? (i := 1043) (by decide +kernel)) (by decide +kernel)
theorem cl_X8_120 : Cond.constantLong RX8 120 (10) ∈ gtb := gt_tab (List.mem_of_getElem? (i := 1020) (by decide +kernel)) (by decide +kernel)
theorem cl_X8_122 : Cond.constantLong RX8 122 (16) ∈ gtb := gt_tab (List.mem_of_getElem? (i := 1021) (by decide +kernel)) (by decide +kernel)
theorem cl_X8_124 : Cond.constantLong RX8 124 (7) ∈ gtb := gt_tab (List.mem_of_getElem? (i := 1022) (by decide +kernel)) (by decide +kernel)
theorem cl_X8_136 : Cond.constantLong RX8 136 (255) ∈ gtb := gt_tab (List.mem_of_getElem? (i := 1057) (by decide +kernel)) (by decide +kernel)
theorem cl_X8_159 : Cond.constantLong RX8 159 (97) ∈ gtb := gt_tab (List.mem_of_getElem? (i := 1074) (by decide +kernel)) (by decide +kernel)
theorem cl_X8_161 : Cond.constantLong RX8 161 (122) ∈ gtb := gt_tab (List.mem_of_getElem? (i := 1075) (by decide +kernel)) (by decide +kernel)
theorem cl_X8_163 : Cond.constantLong RX8 163 (48) ∈ gtb := gt_tab (List.mem_of_getElem? (i := 1076) (by decide +kernel)) (by decide +kernel)
theorem cl_X8_165 : Cond.constantLong RX8 165 (57) ∈ gtb := gt_tab (List.mem_of_getElem? (i := 1077) (by decide +kernel)) (by decide +kernel)
theorem cl_X8_232 : Cond.constantLong RX8 232 (43) ∈ gtb := gt_tab (List.mem_of_getElem? (i := 1130) (by decide +kernel)) (by decide +kernel)
theorem cl_X8_240 : Cond.constantLong RX8 240 (60) ∈ gtb := gt_tab (List.mem_of_getElem? (i := 1131) (by decide +kernel)) (by decide +kernel)
theorem cl_X8_302 : Cond.constantLong RX8 302 (2) ∈ gtb := gt_tab (List.mem_of_getElem? (i := 1143) (by decide +kernel)) (by decide +kernel)
theorem cl_X8_354 : Cond.constantLong RX8 354 (4) ∈ gtb := gt_tab (List.mem_of_getElem? (i := 1220) (by decide +kernel)) (by decide +kernel)
theorem cl_X8_366 : Cond.constantLong RX8 366 (20) ∈ gtb := gt_tab (List.mem_of_getElem? (i := 1268) (by decide +kernel)) (by decide +kernel)
theorem cl_X8_375 : Cond.constantLong RX8 375 (29) ∈ gtb := gt_tab (List.mem_of_getElem? (i := 1281) (by decide +kernel)) (by decide +kernel)
theorem cl_X8_394 : Cond.constantLong RX8 394 (-4611686018427387904) ∈ gtb := gt_tab (List.mem_of_getElem? (i := 1316) (by decide +kernel)) (by decide +kernel)
theorem cl_X8_405 : Cond.constantLong RX8 405 (6) ∈ gtb := gt_tab (List.mem_of_getElem? (i := 1329) (by decide +kernel)) (by decide +kernel)
theorem cl_X8_407 : Cond.constantLong RX8 407 (-1) ∈ gtb := gt_tab (List.mem_of_getElem? (i := 1298) (by decide +kernel)) (by decide +kernel)
theorem k_X7_7 : zmk RX7 7 1 [.int 0, .int 0, .int 0, .int 0, .null, .null, .null, .null] := ⟨RX2, TX2, 8, tyX2, rfl, rfl, rfl, by decide +kernel, rfl, gt_tab (List.mem_of_getElem? (i := 26) (by decide +kernel)) (by decide +kernel), gt_tab (List.mem_of_getElem? (i := 27) (by decide +kernel)) (by decide +kernel), gt_tab (List.mem_of_getElem? (i := 2) (by decide +kernel)) (by decide +kernel)⟩
theorem kc_X7_7 : Cond.classLink RX7 7 RX2 ∈ gtb := gt_tab (List.mem_of_getElem? (i := 26) (by decide +kernel)) (by decide +kernel)
theorem k_X7_22 : zmk RX7 22 0 [.null, .null] := ⟨RX1, TX1, 2, tyX1, rfl, rfl, rfl, by decide +kernel, rfl, gt_tab (List.mem_of_getElem? (i := 71) (by decide +kernel)) (by decide +kernel), gt_tab (List.mem_of_getElem? (i := 72) (by decide +kernel)) (by decide +kernel), gt_tab (List.mem_of_getElem? (i := 3) (by decide +kernel)) (by decide +kernel)⟩
theorem kc_X7_22 : Cond.classLink RX7 22 RX1 ∈ gtb := gt_tab (List.mem_of_getElem? (i := 71) (by decide +kernel)) (by decide +kernel)
theorem k_X7_29 : zmk RX7 29 4 [.null, .null, .null, .int 0, .int 0, .int 0, .int 0, .int 0, .int 0, .int 0, .null, .null] := ⟨RX5, TX5, 12, tyX5, rfl, rfl, rfl, by decide +kernel, rfl, gt_tab (List.mem_of_getElem? (i := 105) (by decide +kernel)) (by decide +kernel), gt_tab (List.mem_of_getElem? (i := 106) (by decide +kernel)) (by decide +kernel), gt_tab (List.mem_of_getElem? (i := 5) (by decide +kernel)) (by decide +kernel)⟩
theorem kc_X7_29 : Cond.classLink RX7 29 RX5 ∈ gtb := gt_tab (List.mem_of_getElem? (i := 105) (by decide +kernel)) (by decide +kernel)
theorem k_X7_36 : zmk RX7 36 2 [.null, .int 0, .int 0, .int 0, .int 0, .int 0, .int 0, .null, .int 0, .int 0, .int 0] := ⟨RX3, TX3, 11, tyX3, rfl, rfl, rfl, by decide +kernel, rfl, gt_tab (List.mem_of_getElem? (i := 154) (by decide +kernel)) (by decide +kernel), gt_tab (List.mem_of_getElem? (i := 155) (by decide +kernel)) (by decide +kernel), gt_tab (List.mem_of_getElem? (i := 6) (by decide +kernel)) (by decide +kernel)⟩
theorem kc_X7_36 : Cond.classLink RX7 36 RX3 ∈ gtb := gt_tab (List.mem_of_getElem? (i := 154) (by decide +kernel)) (by decide +kernel)
theorem k_X7_43 : zmk RX7 43 5 [.int 0, .int 0, .null] := ⟨RX6, TX6, 3, tyX6, rfl, rfl, rfl, by decide +kernel, rfl, gt_tab (List.mem_of_getElem? (i := 195) (by decide +kernel)) (by decide +kernel), gt_tab (List.mem_of_getElem? (i := 197) (by decide +kernel)) (by decide +kernel), gt_tab (List.mem_of_getElem? (i := 7) (by decide +kernel)) (by decide +kernel)⟩
theorem kc_X7_43 : Cond.classLink RX7 43 RX6 ∈ gtb := gt_tab (List.mem_of_getElem? (i := 195) (by decide +kernel)) (by decide +kernel)
theorem k_X1_9 : zmk RX1 9 3 [.null, .int 0, .int 0, .null] := ⟨RX4, TX4, 4, tyX4, rfl, rfl, rfl, by decide +kernel, rfl, gt_tab (List.mem_of_getElem? (i := 77) (by decide +kernel)) (by decide +kernel), gt_tab (List.mem_of_getElem? (i := 79) (by decide +kernel)) (by decide +kernel), gt_tab (List.mem_of_getElem? (i := 4) (by decide +kernel)) (by decide +kernel)⟩
theorem kc_X1_9 : Cond.classLink RX1 9 RX4 ∈ gtb := gt_tab (List.mem_of_getElem? (i := 77) (by decide +kernel)) (by decide +kernel)
theorem k_X3_53 : zmk RX3 53 3 [.null, .int 0, .int 0, .null] := ⟨RX4, TX4, 4, tyX4, rfl, rfl, rfl, by decide +kernel, rfl, gt_tab (List.mem_of_getElem? (i := 483) (by decide +kernel)) (by decide +kernel), gt_tab (List.mem_of_getElem? (i := 79) (by decide +kernel)) (by decide +kernel), gt_tab (List.mem_of_getElem? (i := 4) (by decide +kernel)) (by decide +kernel)⟩
theorem kc_X3_53 : Cond.classLink RX3 53 RX4 ∈ gtb := gt_tab (List.mem_of_getElem? (i := 483) (by decide +kernel)) (by decide +kernel)
theorem k_L_7 : zmk RL 7 6 [.null, .null, .null, .null, .null, .null, .null, .int 0, .int 0] := ⟨RX7, TX7, 9, tyX7, rfl, rfl, rfl, by decide +kernel, rfl, gt_tab (List.mem_of_getElem? (i := 18) (by decide +kernel)) (by decide +kernel), gt_tab (List.mem_of_getElem? (i := 19) (by decide +kernel)) (by decide +kernel), gt_tab (List.mem_of_getElem? (i := 1) (by decide +kernel)) (by decide +kernel)⟩
theorem kc_L_7 : Cond.classLink RL 7 RX7 ∈ gtb := gt_tab (List.mem_of_getElem? (i := 18) (by decide +kernel)) (by decide +kernel)
theorem k_L_10 : zmk RL 10 7 [.int 0, .null, .null, .int 0, .int 0, .null, .int 0, .int 0, .int 0, .null, .null, .null, .null, .int 0, .int 0, .int 0, .int 0, .int 0, .int 0, .int 0, .int 0, .int 0, .int 0, .int 0, .int 0, .int 0, .long 0, .int 0, .int 0, .int 0, .null, .int 0, .null, .int 0, .int 0, .int 0, .int 0, .int 0, .int 0, .int 0, .null, .null, .null, .null, .int 0, .int 0, .int 0, .int 0, .null, .null, .null, .null] := ⟨RX8, TX8, 52, tyX8, rfl, rfl, rfl, by decide +kernel, rfl, gt_tab (List.mem_of_getElem? (i := 831) (by decide +kernel)) (by decide +kernel), gt_tab (List.mem_of_getElem? (i := 832) (by decide +kernel)) (by decide +kernel), gt_tab (List.mem_of_getElem? (i := 8) (by decide +kernel)) (by decide +kernel)⟩
theorem kc_L_10 : Cond.classLink RL 10 RX8 ∈ gtb := gt_tab (List.mem_of_getElem? (i := 831) (by decide +kernel)) (by decide +kernel)
theorem w_oi : Cond.instanceMethod Lib.objectInit ∈ gtb := gt_tab (List.mem_of_getElem? (i := 24) (by decide +kernel)) (by decide +kernel)
theorem w_oc : Cond.code Lib.objectInit ⟨#[0xb1]⟩ 1 none ∈ gtb := gt_tab (List.mem_of_getElem? (i := 25) (by decide +kernel)) (by decide +kernel)
theorem w_ac : Cond.native arraycopyName ∈ gtb ∧ Cond.static arraycopyName ∈ gtb ∧ Cond.initialized "java/lang/System" ∈ gtb := ⟨gt_tab (List.mem_of_getElem? (i := 499) (by decide +kernel)) (by decide +kernel), gt_tab (List.mem_of_getElem? (i := 498) (by decide +kernel)) (by decide +kernel), gt_tab (List.mem_of_getElem? (i := 16) (by decide +kernel)) (by decide +kernel)⟩
theorem w_ai : Cond.arrayClass .int ∈ gtb := gt_tab (List.mem_of_getElem? (i := 70) (by decide +kernel)) (by decide +kernel)
theorem w_az : Cond.arrayClass .boolean ∈ gtb := gt_tab (List.mem_of_getElem? (i := 997) (by decide +kernel)) (by decide +kernel)
