set_option maxRecDepth 100000 in
theorem ok_X0_keep : OkV yX0_keep cX0_keep 4 none 3 := ⟨tb_5 (List.mem_of_getElem? (i := 130) rfl) rfl, tb_5 (List.mem_of_getElem? (i := 131) rfl) rfl, tb_1 (List.mem_of_getElem? (i := 7) rfl) rfl, tb_5 (List.mem_of_getElem? (i := 132) rfl) rfl, ⟨by decide +kernel, by decide +kernel, by decide +kernel⟩⟩
set_option maxRecDepth 100000 in
theorem ok_X0_takeBack : OkV yX0_takeBack cX0_takeBack 3 none 1 := ⟨tb_2 (List.mem_of_getElem? (i := 237) rfl) rfl, tb_2 (List.mem_of_getElem? (i := 238) rfl) rfl, tb_1 (List.mem_of_getElem? (i := 7) rfl) rfl, tb_2 (List.mem_of_getElem? (i := 239) rfl) rfl, ⟨by decide +kernel, by decide +kernel, by decide +kernel⟩⟩
set_option maxRecDepth 100000 in
theorem ok_X1_clear : OkV yX1_clear cX1_clear 2 none 0 := ⟨tb_3 (List.mem_of_getElem? (i := 237) rfl) rfl, tb_3 (List.mem_of_getElem? (i := 238) rfl) rfl, tb_1 (List.mem_of_getElem? (i := 2) rfl) rfl, tb_3 (List.mem_of_getElem? (i := 239) rfl) rfl, ⟨by decide +kernel, by decide +kernel, by decide +kernel⟩⟩
set_option maxRecDepth 100000 in
theorem ok_X1_costOf : OkV yX1_costOf cX1_costOf 4 (some .int) 2 := ⟨tb_3 (List.mem_of_getElem? (i := 9) rfl) rfl, tb_3 (List.mem_of_getElem? (i := 10) rfl) rfl, tb_1 (List.mem_of_getElem? (i := 2) rfl) rfl, tb_3 (List.mem_of_getElem? (i := 11) rfl) rfl, ⟨by decide +kernel, by decide +kernel, by decide +kernel⟩⟩
set_option maxRecDepth 100000 in
theorem ok_X1_workOut : OkV yX1_workOut cX1_workOut 4 none 1 := ⟨tb_3 (List.mem_of_getElem? (i := 5) rfl) rfl, tb_3 (List.mem_of_getElem? (i := 6) rfl) rfl, tb_1 (List.mem_of_getElem? (i := 2) rfl) rfl, tb_3 (List.mem_of_getElem? (i := 7) rfl) rfl, ⟨by decide +kernel, by decide +kernel, by decide +kernel⟩⟩
set_option maxRecDepth 100000 in
theorem ok_X1_workOutAll : OkV yX1_workOutAll cX1_workOutAll 2 none 0 := ⟨tb_4 (List.mem_of_getElem? (i := 185) rfl) rfl, tb_4 (List.mem_of_getElem? (i := 186) rfl) rfl, tb_1 (List.mem_of_getElem? (i := 2) rfl) rfl, tb_4 (List.mem_of_getElem? (i := 187) rfl) rfl, ⟨by decide +kernel, by decide +kernel, by decide +kernel⟩⟩
set_option maxRecDepth 100000 in
theorem ok_X1_tellPrice : OkV yX1_tellPrice cX1_tellPrice 3 none 2 := ⟨tb_3 (List.mem_of_getElem? (i := 1) rfl) rfl, tb_3 (List.mem_of_getElem? (i := 2) rfl) rfl, tb_1 (List.mem_of_getElem? (i := 2) rfl) rfl, tb_3 (List.mem_of_getElem? (i := 3) rfl) rfl, ⟨by decide +kernel, by decide +kernel, by decide +kernel⟩⟩
set_option maxRecDepth 100000 in
theorem ok_X1_tellCost : OkV yX1_tellCost cX1_tellCost 4 none 2 := ⟨tb_3 (List.mem_of_getElem? (i := 41) rfl) rfl, tb_3 (List.mem_of_getElem? (i := 42) rfl) rfl, tb_1 (List.mem_of_getElem? (i := 2) rfl) rfl, tb_3 (List.mem_of_getElem? (i := 43) rfl) rfl, ⟨by decide +kernel, by decide +kernel, by decide +kernel⟩⟩
set_option maxRecDepth 100000 in
theorem ok_X1_isZeroing : OkV yX1_isZeroing cX1_isZeroing 1 (some .boolean) 0 := ⟨tb_3 (List.mem_of_getElem? (i := 156) rfl) rfl, tb_3 (List.mem_of_getElem? (i := 157) rfl) rfl, tb_1 (List.mem_of_getElem? (i := 2) rfl) rfl, tb_3 (List.mem_of_getElem? (i := 158) rfl) rfl, ⟨by decide +kernel, by decide +kernel, by decide +kernel⟩⟩
set_option maxRecDepth 100000 in
theorem ok_X1_methodOwed : OkV yX1_methodOwed cX1_methodOwed 1 (some .int) 0 := ⟨tb_6 (List.mem_of_getElem? (i := 102) rfl) rfl, tb_6 (List.mem_of_getElem? (i := 103) rfl) rfl, tb_1 (List.mem_of_getElem? (i := 2) rfl) rfl, tb_6 (List.mem_of_getElem? (i := 104) rfl) rfl, ⟨by decide +kernel, by decide +kernel, by decide +kernel⟩⟩
set_option maxRecDepth 100000 in
theorem ok_X1_monthToCompare : OkV yX1_monthToCompare cX1_monthToCompare 2 (some .int) 1 := ⟨tb_3 (List.mem_of_getElem? (i := 113) rfl) rfl, tb_3 (List.mem_of_getElem? (i := 114) rfl) rfl, tb_1 (List.mem_of_getElem? (i := 2) rfl) rfl, tb_3 (List.mem_of_getElem? (i := 115) rfl) rfl, ⟨by decide +kernel, by decide +kernel, by decide +kernel⟩⟩
set_option maxRecDepth 100000 in
theorem ok_X1_countSilent : OkV yX1_countSilent cX1_countSilent 3 (some .int) 0 := ⟨tb_3 (List.mem_of_getElem? (i := 221) rfl) rfl, tb_3 (List.mem_of_getElem? (i := 222) rfl) rfl, tb_1 (List.mem_of_getElem? (i := 2) rfl) rfl, tb_3 (List.mem_of_getElem? (i := 223) rfl) rfl, ⟨by decide +kernel, by decide +kernel, by decide +kernel⟩⟩
set_option maxRecDepth 100000 in
theorem ok_X2_gather : OkV yX2_gather cX2_gather 5 none 3 := ⟨tb_3 (List.mem_of_getElem? (i := 69) rfl) rfl, tb_3 (List.mem_of_getElem? (i := 70) rfl) rfl, tb_1 (List.mem_of_getElem? (i := 9) rfl) rfl, tb_3 (List.mem_of_getElem? (i := 71) rfl) rfl, ⟨by decide +kernel, by decide +kernel, by decide +kernel⟩⟩
set_option maxRecDepth 100000 in
theorem ok_X2_addExport : OkV yX2_addExport cX2_addExport 5 none 3 := ⟨tb_3 (List.mem_of_getElem? (i := 106) rfl) rfl, tb_p (List.mem_of_getElem? (i := 4) rfl) rfl, tb_1 (List.mem_of_getElem? (i := 9) rfl) rfl, tb_3 (List.mem_of_getElem? (i := 107) rfl) rfl, ⟨by decide +kernel, by decide +kernel, by decide +kernel⟩⟩
set_option maxRecDepth 100000 in
theorem ok_X2_unitLike : OkV yX2_unitLike cX2_unitLike 6 (some .int) 2 := ⟨tb_3 (List.mem_of_getElem? (i := 110) rfl) rfl, tb_p (List.mem_of_getElem? (i := 5) rfl) rfl, tb_1 (List.mem_of_getElem? (i := 9) rfl) rfl, tb_3 (List.mem_of_getElem? (i := 111) rfl) rfl, ⟨by decide +kernel, by decide +kernel, by decide +kernel⟩⟩
set_option maxRecDepth 100000 in
theorem ok_X2_worthFor : OkV yX2_worthFor cX2_worthFor 5 (some .long) 3 := ⟨tb_3 (List.mem_of_getElem? (i := 119) rfl) rfl, tb_p (List.mem_of_getElem? (i := 6) rfl) rfl, tb_1 (List.mem_of_getElem? (i := 9) rfl) rfl, tb_3 (List.mem_of_getElem? (i := 120) rfl) rfl, ⟨by decide +kernel, by decide +kernel, by decide +kernel⟩⟩
set_option maxRecDepth 100000 in
theorem ok_X2_differenceFor : OkV yX2_differenceFor cX2_differenceFor 4 (some .long) 3 := ⟨tb_5 (List.mem_of_getElem? (i := 230) rfl) rfl, tb_5 (List.mem_of_getElem? (i := 231) rfl) rfl, tb_1 (List.mem_of_getElem? (i := 9) rfl) rfl, tb_5 (List.mem_of_getElem? (i := 232) rfl) rfl, ⟨by decide +kernel, by decide +kernel, by decide +kernel⟩⟩
set_option maxRecDepth 100000 in
theorem ok_X2_differenceAt : OkV yX2_differenceAt cX2_differenceAt 3 (some .long) 2 := ⟨tb_3 (List.mem_of_getElem? (i := 168) rfl) rfl, tb_3 (List.mem_of_getElem? (i := 169) rfl) rfl, tb_1 (List.mem_of_getElem? (i := 9) rfl) rfl, tb_3 (List.mem_of_getElem? (i := 170) rfl) rfl, ⟨by decide +kernel, by decide +kernel, by decide +kernel⟩⟩
set_option maxRecDepth 100000 in
theorem ok_X2_sumAt : OkV yX2_sumAt cX2_sumAt 8 (some .long) 2 := ⟨tb_3 (List.mem_of_getElem? (i := 164) rfl) rfl, tb_3 (List.mem_of_getElem? (i := 165) rfl) rfl, tb_1 (List.mem_of_getElem? (i := 9) rfl) rfl, tb_3 (List.mem_of_getElem? (i := 166) rfl) rfl, ⟨by decide +kernel, by decide +kernel, by decide +kernel⟩⟩
set_option maxRecDepth 100000 in
theorem ok_X2_marginOf : OkS yX2_marginOf cX2_marginOf 6 (some .int) 2 := ⟨tb_3 (List.mem_of_getElem? (i := 174) rfl) rfl, tb_1 (List.mem_of_getElem? (i := 9) rfl) rfl, tb_3 (List.mem_of_getElem? (i := 175) rfl) rfl, ⟨by decide +kernel, by decide +kernel, by decide +kernel⟩⟩
set_option maxRecDepth 100000 in
theorem ok_X2_marginAt : OkV yX2_marginAt cX2_marginAt 3 (some .int) 2 := ⟨tb_3 (List.mem_of_getElem? (i := 161) rfl) rfl, tb_p (List.mem_of_getElem? (i := 9) rfl) rfl, tb_1 (List.mem_of_getElem? (i := 9) rfl) rfl, tb_3 (List.mem_of_getElem? (i := 162) rfl) rfl, ⟨by decide +kernel, by decide +kernel, by decide +kernel⟩⟩
set_option maxRecDepth 100000 in
theorem ok_X2_ownMargin : OkV yX2_ownMargin cX2_ownMargin 5 (some .int) 4 := ⟨tb_6 (List.mem_of_getElem? (i := 40) rfl) rfl, tb_6 (List.mem_of_getElem? (i := 41) rfl) rfl, tb_1 (List.mem_of_getElem? (i := 9) rfl) rfl, tb_6 (List.mem_of_getElem? (i := 42) rfl) rfl, ⟨by decide +kernel, by decide +kernel, by decide +kernel⟩⟩
set_option maxRecDepth 100000 in
theorem ok_X2_marginNow : OkV yX2_marginNow cX2_marginNow 3 (some .int) 2 := ⟨tb_3 (List.mem_of_getElem? (i := 65) rfl) rfl, tb_3 (List.mem_of_getElem? (i := 66) rfl) rfl, tb_1 (List.mem_of_getElem? (i := 9) rfl) rfl, tb_3 (List.mem_of_getElem? (i := 67) rfl) rfl, ⟨by decide +kernel, by decide +kernel, by decide +kernel⟩⟩
set_option maxRecDepth 100000 in
theorem ok_X2_marginWithout : OkV yX2_marginWithout cX2_marginWithout 4 (some .int) 2 := ⟨tb_6 (List.mem_of_getElem? (i := 131) rfl) rfl, tb_6 (List.mem_of_getElem? (i := 132) rfl) rfl, tb_1 (List.mem_of_getElem? (i := 9) rfl) rfl, tb_6 (List.mem_of_getElem? (i := 133) rfl) rfl, ⟨by decide +kernel, by decide +kernel, by decide +kernel⟩⟩
set_option maxRecDepth 100000 in
theorem ok_X2_leastRaise : OkV yX2_leastRaise cX2_leastRaise 6 (some .int) 1 := ⟨tb_6 (List.mem_of_getElem? (i := 78) rfl) rfl, tb_6 (List.mem_of_getElem? (i := 79) rfl) rfl, tb_1 (List.mem_of_getElem? (i := 9) rfl) rfl, tb_6 (List.mem_of_getElem? (i := 80) rfl) rfl, ⟨by decide +kernel, by decide +kernel, by decide +kernel⟩⟩
set_option maxRecDepth 100000 in
theorem ok_X3_assess : OkV yX3_assess cX3_assess 6 none 1 := ⟨tb_3 (List.mem_of_getElem? (i := 49) rfl) rfl, tb_3 (List.mem_of_getElem? (i := 50) rfl) rfl, tb_1 (List.mem_of_getElem? (i := 10) rfl) rfl, tb_3 (List.mem_of_getElem? (i := 51) rfl) rfl, ⟨by decide +kernel, by decide +kernel, by decide +kernel⟩⟩
set_option maxRecDepth 100000 in
theorem ok_X3_marginTold : OkV yX3_marginTold cX3_marginTold 7 (some .int) 4 := ⟨tb_6 (List.mem_of_getElem? (i := 36) rfl) rfl, tb_6 (List.mem_of_getElem? (i := 37) rfl) rfl, tb_1 (List.mem_of_getElem? (i := 10) rfl) rfl, tb_6 (List.mem_of_getElem? (i := 38) rfl) rfl, ⟨by decide +kernel, by decide +kernel, by decide +kernel⟩⟩
set_option maxRecDepth 100000 in
theorem ok_X3_markNegligible : OkV yX3_markNegligible cX3_markNegligible 5 none 1 := ⟨tb_3 (List.mem_of_getElem? (i := 53) rfl) rfl, tb_3 (List.mem_of_getElem? (i := 54) rfl) rfl, tb_1 (List.mem_of_getElem? (i := 10) rfl) rfl, tb_3 (List.mem_of_getElem? (i := 55) rfl) rfl, ⟨by decide +kernel, by decide +kernel, by decide +kernel⟩⟩
set_option maxRecDepth 100000 in
theorem ok_X3_injuryOf : OkV yX3_injuryOf cX3_injuryOf 10 (some .int) 2 := ⟨tb_3 (List.mem_of_getElem? (i := 184) rfl) rfl, tb_p (List.mem_of_getElem? (i := 10) rfl) rfl, tb_1 (List.mem_of_getElem? (i := 10) rfl) rfl, tb_3 (List.mem_of_getElem? (i := 185) rfl) rfl, ⟨by decide +kernel, by decide +kernel, by decide +kernel⟩⟩
set_option maxRecDepth 100000 in
theorem ok_X3_rateOfOthers : OkV yX3_rateOfOthers cX3_rateOfOthers 9 (some .int) 1 := ⟨tb_3 (List.mem_of_getElem? (i := 192) rfl) rfl, tb_3 (List.mem_of_getElem? (i := 193) rfl) rfl, tb_1 (List.mem_of_getElem? (i := 10) rfl) rfl, tb_3 (List.mem_of_getElem? (i := 194) rfl) rfl, ⟨by decide +kernel, by decide +kernel, by decide +kernel⟩⟩
set_option maxRecDepth 100000 in
theorem ok_X3_pickedMonths : OkV yX3_pickedMonths cX3_pickedMonths 9 (some .int) 2 := ⟨tb_6 (List.mem_of_getElem? (i := 89) rfl) rfl, tb_6 (List.mem_of_getElem? (i := 90) rfl) rfl, tb_1 (List.mem_of_getElem? (i := 10) rfl) rfl, tb_6 (List.mem_of_getElem? (i := 91) rfl) rfl, ⟨by decide +kernel, by decide +kernel, by decide +kernel⟩⟩
set_option maxRecDepth 100000 in
theorem ok_X3_depositOf : OkV yX3_depositOf cX3_depositOf 3 (some .long) 2 := ⟨tb_6 (List.mem_of_getElem? (i := 107) rfl) rfl, tb_6 (List.mem_of_getElem? (i := 108) rfl) rfl, tb_1 (List.mem_of_getElem? (i := 10) rfl) rfl, tb_6 (List.mem_of_getElem? (i := 109) rfl) rfl, ⟨by decide +kernel, by decide +kernel, by decide +kernel⟩⟩
set_option maxRecDepth 100000 in
theorem ok_X3_depositsOf : OkV yX3_depositsOf cX3_depositsOf 6 (some .long) 2 := ⟨tb_6 (List.mem_of_getElem? (i := 119) rfl) rfl, tb_6 (List.mem_of_getElem? (i := 120) rfl) rfl, tb_1 (List.mem_of_getElem? (i := 10) rfl) rfl, tb_6 (List.mem_of_getElem? (i := 121) rfl) rfl, ⟨by decide +kernel, by decide +kernel, by decide +kernel⟩⟩
set_option maxRecDepth 100000 in
theorem ok_X3_placeOf : OkV yX3_placeOf cX3_placeOf 5 (some .int) 2 := ⟨tb_3 (List.mem_of_getElem? (i := 205) rfl) rfl, tb_3 (List.mem_of_getElem? (i := 206) rfl) rfl, tb_1 (List.mem_of_getElem? (i := 10) rfl) rfl, tb_3 (List.mem_of_getElem? (i := 207) rfl) rfl, ⟨by decide +kernel, by decide +kernel, by decide +kernel⟩⟩
set_option maxRecDepth 100000 in
theorem ok_X4_find : OkV yX4_find cX4_find 5 (some .int) 3 := ⟨tb_4 (List.mem_of_getElem? (i := 101) rfl) rfl, tb_4 (List.mem_of_getElem? (i := 102) rfl) rfl, tb_1 (List.mem_of_getElem? (i := 3) rfl) rfl, tb_4 (List.mem_of_getElem? (i := 103) rfl) rfl, ⟨by decide +kernel, by decide +kernel, by decide +kernel⟩⟩
set_option maxRecDepth 100000 in
theorem ok_X4_isAt : OkV yX4_isAt cX4_isAt 5 (some .boolean) 3 := ⟨tb_4 (List.mem_of_getElem? (i := 105) rfl) rfl, tb_4 (List.mem_of_getElem? (i := 106) rfl) rfl, tb_1 (List.mem_of_getElem? (i := 3) rfl) rfl, tb_4 (List.mem_of_getElem? (i := 107) rfl) rfl, ⟨by decide +kernel, by decide +kernel, by decide +kernel⟩⟩
set_option maxRecDepth 100000 in
theorem ok_X4_add : OkV yX4_add cX4_add 5 none 3 := ⟨tb_4 (List.mem_of_getElem? (i := 109) rfl) rfl, tb_4 (List.mem_of_getElem? (i := 110) rfl) rfl, tb_1 (List.mem_of_getElem? (i := 3) rfl) rfl, tb_4 (List.mem_of_getElem? (i := 111) rfl) rfl, ⟨by decide +kernel, by decide +kernel, by decide +kernel⟩⟩
set_option maxRecDepth 100000 in
theorem ok_X4_letterAt : OkV yX4_letterAt cX4_letterAt 3 (some .int) 2 := ⟨tb_5 (List.mem_of_getElem? (i := 45) rfl) rfl, tb_5 (List.mem_of_getElem? (i := 46) rfl) rfl, tb_1 (List.mem_of_getElem? (i := 3) rfl) rfl, tb_5 (List.mem_of_getElem? (i := 47) rfl) rfl, ⟨by decide +kernel, by decide +kernel, by decide +kernel⟩⟩
set_option maxRecDepth 100000 in
theorem ok_X5_append : OkV yX5_append cX5_append 3 none 1 := ⟨tb_2 (List.mem_of_getElem? (i := 221) rfl) rfl, tb_2 (List.mem_of_getElem? (i := 222) rfl) rfl, tb_1 (List.mem_of_getElem? (i := 6) rfl) rfl, tb_2 (List.mem_of_getElem? (i := 223) rfl) rfl, ⟨by decide +kernel, by decide +kernel, by decide +kernel⟩⟩
set_option maxRecDepth 100000 in
theorem ok_X5_parse : OkV yX5_parse cX5_parse 3 none 1 := ⟨tb_3 (List.mem_of_getElem? (i := 233) rfl) rfl, tb_3 (List.mem_of_getElem? (i := 234) rfl) rfl, tb_1 (List.mem_of_getElem? (i := 6) rfl) rfl, tb_3 (List.mem_of_getElem? (i := 235) rfl) rfl, ⟨by decide +kernel, by decide +kernel, by decide +kernel⟩⟩
set_option maxRecDepth 100000 in
theorem ok_X5_line : OkV yX5_line cX5_line 1 none 0 := ⟨tb_4 (List.mem_of_getElem? (i := 19) rfl) rfl, tb_p (List.mem_of_getElem? (i := 12) rfl) rfl, tb_1 (List.mem_of_getElem? (i := 6) rfl) rfl, tb_4 (List.mem_of_getElem? (i := 20) rfl) rfl, ⟨by decide +kernel, by decide +kernel, by decide +kernel⟩⟩
set_option maxRecDepth 100000 in
theorem ok_X5_modelLine : OkV yX5_modelLine cX5_modelLine 2 none 0 := ⟨tb_4 (List.mem_of_getElem? (i := 90) rfl) rfl, tb_p (List.mem_of_getElem? (i := 15) rfl) rfl, tb_1 (List.mem_of_getElem? (i := 6) rfl) rfl, tb_4 (List.mem_of_getElem? (i := 91) rfl) rfl, ⟨by decide +kernel, by decide +kernel, by decide +kernel⟩⟩
set_option maxRecDepth 100000 in
theorem ok_X5_firmLine : OkV yX5_firmLine cX5_firmLine 1 none 0 := ⟨tb_4 (List.mem_of_getElem? (i := 122) rfl) rfl, tb_p (List.mem_of_getElem? (i := 20) rfl) rfl, tb_1 (List.mem_of_getElem? (i := 6) rfl) rfl, tb_4 (List.mem_of_getElem? (i := 123) rfl) rfl, ⟨by decide +kernel, by decide +kernel, by decide +kernel⟩⟩
set_option maxRecDepth 100000 in
theorem ok_X5_silentLine : OkV yX5_silentLine cX5_silentLine 2 none 0 := ⟨tb_4 (List.mem_of_getElem? (i := 126) rfl) rfl, tb_p (List.mem_of_getElem? (i := 21) rfl) rfl, tb_1 (List.mem_of_getElem? (i := 6) rfl) rfl, tb_4 (List.mem_of_getElem? (i := 127) rfl) rfl, ⟨by decide +kernel, by decide +kernel, by decide +kernel⟩⟩
set_option maxRecDepth 100000 in
theorem ok_X5_costLine : OkV yX5_costLine cX5_costLine 4 none 0 := ⟨tb_4 (List.mem_of_getElem? (i := 134) rfl) rfl, tb_p (List.mem_of_getElem? (i := 23) rfl) rfl, tb_1 (List.mem_of_getElem? (i := 6) rfl) rfl, tb_4 (List.mem_of_getElem? (i := 135) rfl) rfl, ⟨by decide +kernel, by decide +kernel, by decide +kernel⟩⟩
set_option maxRecDepth 100000 in
theorem ok_X5_adjustLine : OkV yX5_adjustLine cX5_adjustLine 3 none 0 := ⟨tb_4 (List.mem_of_getElem? (i := 138) rfl) rfl, tb_p (List.mem_of_getElem? (i := 24) rfl) rfl, tb_1 (List.mem_of_getElem? (i := 6) rfl) rfl, tb_4 (List.mem_of_getElem? (i := 139) rfl) rfl, ⟨by decide +kernel, by decide +kernel, by decide +kernel⟩⟩
set_option maxRecDepth 100000 in
theorem ok_X5_sellLine : OkV yX5_sellLine cX5_sellLine 8 none 0 := ⟨tb_4 (List.mem_of_getElem? (i := 174) rfl) rfl, tb_p (List.mem_of_getElem? (i := 31) rfl) rfl, tb_1 (List.mem_of_getElem? (i := 6) rfl) rfl, tb_4 (List.mem_of_getElem? (i := 175) rfl) rfl, ⟨by decide +kernel, by decide +kernel, by decide +kernel⟩⟩
set_option maxRecDepth 100000 in
theorem ok_X5_settingLine : OkV yX5_settingLine cX5_settingLine 2 none 1 := ⟨tb_4 (List.mem_of_getElem? (i := 182) rfl) rfl, tb_p (List.mem_of_getElem? (i := 32) rfl) rfl, tb_1 (List.mem_of_getElem? (i := 6) rfl) rfl, tb_4 (List.mem_of_getElem? (i := 183) rfl) rfl, ⟨by decide +kernel, by decide +kernel, by decide +kernel⟩⟩
set_option maxRecDepth 100000 in
theorem ok_X5_readSum : OkV yX5_readSum cX5_readSum 4 none 1 := ⟨tb_4 (List.mem_of_getElem? (i := 146) rfl) rfl, tb_p (List.mem_of_getElem? (i := 26) rfl) rfl, tb_1 (List.mem_of_getElem? (i := 6) rfl) rfl, tb_4 (List.mem_of_getElem? (i := 147) rfl) rfl, ⟨by decide +kernel, by decide +kernel, by decide +kernel⟩⟩
set_option maxRecDepth 100000 in
theorem ok_X5_readTerm : OkV yX5_readTerm cX5_readTerm 4 none 1 := ⟨tb_4 (List.mem_of_getElem? (i := 150) rfl) rfl, tb_p (List.mem_of_getElem? (i := 27) rfl) rfl, tb_1 (List.mem_of_getElem? (i := 6) rfl) rfl, tb_4 (List.mem_of_getElem? (i := 151) rfl) rfl, ⟨by decide +kernel, by decide +kernel, by decide +kernel⟩⟩
set_option maxRecDepth 100000 in
theorem ok_X5_readAtom : OkV yX5_readAtom cX5_readAtom 2 none 1 := ⟨tb_4 (List.mem_of_getElem? (i := 154) rfl) rfl, tb_p (List.mem_of_getElem? (i := 28) rfl) rfl, tb_1 (List.mem_of_getElem? (i := 6) rfl) rfl, tb_4 (List.mem_of_getElem? (i := 155) rfl) rfl, ⟨by decide +kernel, by decide +kernel, by decide +kernel⟩⟩
set_option maxRecDepth 100000 in
theorem ok_X5_letterCode : OkV yX5_letterCode cX5_letterCode 1 (some .int) 0 := ⟨tb_4 (List.mem_of_getElem? (i := 166) rfl) rfl, tb_p (List.mem_of_getElem? (i := 30) rfl) rfl, tb_1 (List.mem_of_getElem? (i := 6) rfl) rfl, tb_4 (List.mem_of_getElem? (i := 167) rfl) rfl, ⟨by decide +kernel, by decide +kernel, by decide +kernel⟩⟩
set_option maxRecDepth 100000 in
theorem ok_X5_newName : OkV yX5_newName cX5_newName 3 none 1 := ⟨tb_4 (List.mem_of_getElem? (i := 98) rfl) rfl, tb_p (List.mem_of_getElem? (i := 17) rfl) rfl, tb_1 (List.mem_of_getElem? (i := 6) rfl) rfl, tb_4 (List.mem_of_getElem? (i := 99) rfl) rfl, ⟨by decide +kernel, by decide +kernel, by decide +kernel⟩⟩
set_option maxRecDepth 100000 in
theorem ok_X5_toldName : OkV yX5_toldName cX5_toldName 3 (some .int) 1 := ⟨tb_4 (List.mem_of_getElem? (i := 130) rfl) rfl, tb_p (List.mem_of_getElem? (i := 22) rfl) rfl, tb_1 (List.mem_of_getElem? (i := 6) rfl) rfl, tb_4 (List.mem_of_getElem? (i := 131) rfl) rfl, ⟨by decide +kernel, by decide +kernel, by decide +kernel⟩⟩
set_option maxRecDepth 100000 in
theorem ok_X5_marketWord : OkV yX5_marketWord cX5_marketWord 2 (some .int) 0 := ⟨tb_4 (List.mem_of_getElem? (i := 142) rfl) rfl, tb_p (List.mem_of_getElem? (i := 25) rfl) rfl, tb_1 (List.mem_of_getElem? (i := 6) rfl) rfl, tb_4 (List.mem_of_getElem? (i := 143) rfl) rfl, ⟨by decide +kernel, by decide +kernel, by decide +kernel⟩⟩
set_option maxRecDepth 100000 in
theorem ok_X5_number : OkV yX5_number cX5_number 4 (some .int) 2 := ⟨tb_4 (List.mem_of_getElem? (i := 114) rfl) rfl, tb_p (List.mem_of_getElem? (i := 18) rfl) rfl, tb_1 (List.mem_of_getElem? (i := 6) rfl) rfl, tb_4 (List.mem_of_getElem? (i := 115) rfl) rfl, ⟨by decide +kernel, by decide +kernel, by decide +kernel⟩⟩
set_option maxRecDepth 100000 in
theorem ok_X5_take : OkV yX5_take cX5_take 2 none 1 := ⟨tb_4 (List.mem_of_getElem? (i := 158) rfl) rfl, tb_p (List.mem_of_getElem? (i := 29) rfl) rfl, tb_1 (List.mem_of_getElem? (i := 6) rfl) rfl, tb_4 (List.mem_of_getElem? (i := 159) rfl) rfl, ⟨by decide +kernel, by decide +kernel, by decide +kernel⟩⟩
set_option maxRecDepth 100000 in
theorem ok_X5_fail : OkV yX5_fail cX5_fail 1 none 0 := ⟨tb_4 (List.mem_of_getElem? (i := 94) rfl) rfl, tb_p (List.mem_of_getElem? (i := 16) rfl) rfl, tb_1 (List.mem_of_getElem? (i := 6) rfl) rfl, tb_4 (List.mem_of_getElem? (i := 95) rfl) rfl, ⟨by decide +kernel, by decide +kernel, by decide +kernel⟩⟩
set_option maxRecDepth 100000 in
theorem ok_X5_digits : OkV yX5_digits cX5_digits 3 (some .int) 0 := ⟨tb_4 (List.mem_of_getElem? (i := 118) rfl) rfl, tb_p (List.mem_of_getElem? (i := 19) rfl) rfl, tb_1 (List.mem_of_getElem? (i := 6) rfl) rfl, tb_4 (List.mem_of_getElem? (i := 119) rfl) rfl, ⟨by decide +kernel, by decide +kernel, by decide +kernel⟩⟩
set_option maxRecDepth 100000 in
theorem ok_X5_keyword : OkV yX5_keyword cX5_keyword 1 (some .int) 0 := ⟨tb_4 (List.mem_of_getElem? (i := 23) rfl) rfl, tb_p (List.mem_of_getElem? (i := 13) rfl) rfl, tb_1 (List.mem_of_getElem? (i := 6) rfl) rfl, tb_4 (List.mem_of_getElem? (i := 24) rfl) rfl, ⟨by decide +kernel, by decide +kernel, by decide +kernel⟩⟩
set_option maxRecDepth 100000 in
theorem ok_X5_spells : OkV yX5_spells cX5_spells 3 (some .boolean) 1 := ⟨tb_4 (List.mem_of_getElem? (i := 28) rfl) rfl, tb_p (List.mem_of_getElem? (i := 14) rfl) rfl, tb_1 (List.mem_of_getElem? (i := 6) rfl) rfl, tb_4 (List.mem_of_getElem? (i := 29) rfl) rfl, ⟨by decide +kernel, by decide +kernel, by decide +kernel⟩⟩
set_option maxRecDepth 100000 in
theorem ok_X5_step : OkV yX5_step cX5_step 1 none 0 := ⟨tb_4 (List.mem_of_getElem? (i := 6) rfl) rfl, tb_p (List.mem_of_getElem? (i := 11) rfl) rfl, tb_1 (List.mem_of_getElem? (i := 6) rfl) rfl, tb_4 (List.mem_of_getElem? (i := 7) rfl) rfl, ⟨by decide +kernel, by decide +kernel, by decide +kernel⟩⟩
set_option maxRecDepth 100000 in
theorem ok_X5_isBlank : OkS yX5_isBlank cX5_isBlank 1 (some .boolean) 1 := ⟨tb_4 (List.mem_of_getElem? (i := 9) rfl) rfl, tb_1 (List.mem_of_getElem? (i := 6) rfl) rfl, tb_4 (List.mem_of_getElem? (i := 10) rfl) rfl, ⟨by decide +kernel, by decide +kernel, by decide +kernel⟩⟩
set_option maxRecDepth 100000 in
theorem ok_X5_isLetter : OkS yX5_isLetter cX5_isLetter 1 (some .boolean) 1 := ⟨tb_4 (List.mem_of_getElem? (i := 12) rfl) rfl, tb_1 (List.mem_of_getElem? (i := 6) rfl) rfl, tb_4 (List.mem_of_getElem? (i := 13) rfl) rfl, ⟨by decide +kernel, by decide +kernel, by decide +kernel⟩⟩
set_option maxRecDepth 100000 in
theorem ok_X5_isDigit : OkS yX5_isDigit cX5_isDigit 1 (some .boolean) 1 := ⟨tb_4 (List.mem_of_getElem? (i := 15) rfl) rfl, tb_1 (List.mem_of_getElem? (i := 6) rfl) rfl, tb_4 (List.mem_of_getElem? (i := 16) rfl) rfl, ⟨by decide +kernel, by decide +kernel, by decide +kernel⟩⟩
set_option maxRecDepth 100000 in
theorem ok_X6_add : OkV yX6_add cX6_add 2 none 1 := ⟨tb_6 (List.mem_of_getElem? (i := 151) rfl) rfl, tb_6 (List.mem_of_getElem? (i := 152) rfl) rfl, tb_1 (List.mem_of_getElem? (i := 11) rfl) rfl, tb_6 (List.mem_of_getElem? (i := 153) rfl) rfl, ⟨by decide +kernel, by decide +kernel, by decide +kernel⟩⟩
set_option maxRecDepth 100000 in
theorem ok_X6_addText : OkV yX6_addText cX6_addText 3 none 1 := ⟨tb_6 (List.mem_of_getElem? (i := 161) rfl) rfl, tb_6 (List.mem_of_getElem? (i := 162) rfl) rfl, tb_1 (List.mem_of_getElem? (i := 11) rfl) rfl, tb_6 (List.mem_of_getElem? (i := 163) rfl) rfl, ⟨by decide +kernel, by decide +kernel, by decide +kernel⟩⟩
set_option maxRecDepth 100000 in
theorem ok_X6_addHundredths : OkV yX6_addHundredths cX6_addHundredths 3 none 1 := ⟨tb_6 (List.mem_of_getElem? (i := 155) rfl) rfl, tb_6 (List.mem_of_getElem? (i := 156) rfl) rfl, tb_1 (List.mem_of_getElem? (i := 11) rfl) rfl, tb_6 (List.mem_of_getElem? (i := 157) rfl) rfl, ⟨by decide +kernel, by decide +kernel, by decide +kernel⟩⟩
set_option maxRecDepth 100000 in
theorem ok_X7_add : OkV yX7_add cX7_add 8 none 7 := ⟨tb_4 (List.mem_of_getElem? (i := 177) rfl) rfl, tb_4 (List.mem_of_getElem? (i := 178) rfl) rfl, tb_1 (List.mem_of_getElem? (i := 5) rfl) rfl, tb_4 (List.mem_of_getElem? (i := 179) rfl) rfl, ⟨by decide +kernel, by decide +kernel, by decide +kernel⟩⟩
set_option maxRecDepth 100000 in
theorem ok_X7_isOf : OkV yX7_isOf cX7_isOf 4 (some .boolean) 3 := ⟨tb_3 (List.mem_of_getElem? (i := 61) rfl) rfl, tb_3 (List.mem_of_getElem? (i := 62) rfl) rfl, tb_1 (List.mem_of_getElem? (i := 5) rfl) rfl, tb_3 (List.mem_of_getElem? (i := 63) rfl) rfl, ⟨by decide +kernel, by decide +kernel, by decide +kernel⟩⟩
set_option maxRecDepth 100000 in
theorem ok_X7_valueAt : OkV yX7_valueAt cX7_valueAt 2 (some .long) 1 := ⟨tb_3 (List.mem_of_getElem? (i := 99) rfl) rfl, tb_3 (List.mem_of_getElem? (i := 100) rfl) rfl, tb_1 (List.mem_of_getElem? (i := 5) rfl) rfl, tb_3 (List.mem_of_getElem? (i := 101) rfl) rfl, ⟨by decide +kernel, by decide +kernel, by decide +kernel⟩⟩
set_option maxRecDepth 100000 in
theorem ok_X7_exportValue : OkV yX7_exportValue cX7_exportValue 5 (some .long) 1 := ⟨tb_3 (List.mem_of_getElem? (i := 196) rfl) rfl, tb_3 (List.mem_of_getElem? (i := 197) rfl) rfl, tb_1 (List.mem_of_getElem? (i := 5) rfl) rfl, tb_3 (List.mem_of_getElem? (i := 198) rfl) rfl, ⟨by decide +kernel, by decide +kernel, by decide +kernel⟩⟩
set_option maxRecDepth 100000 in
theorem ok_X7_exportMany : OkV yX7_exportMany cX7_exportMany 4 (some .int) 1 := ⟨tb_3 (List.mem_of_getElem? (i := 57) rfl) rfl, tb_3 (List.mem_of_getElem? (i := 58) rfl) rfl, tb_1 (List.mem_of_getElem? (i := 5) rfl) rfl, tb_3 (List.mem_of_getElem? (i := 59) rfl) rfl, ⟨by decide +kernel, by decide +kernel, by decide +kernel⟩⟩
set_option maxRecDepth 100000 in
theorem ok_X7_countLive : OkV yX7_countLive cX7_countLive 3 (some .int) 0 := ⟨tb_3 (List.mem_of_getElem? (i := 217) rfl) rfl, tb_3 (List.mem_of_getElem? (i := 218) rfl) rfl, tb_1 (List.mem_of_getElem? (i := 5) rfl) rfl, tb_3 (List.mem_of_getElem? (i := 219) rfl) rfl, ⟨by decide +kernel, by decide +kernel, by decide +kernel⟩⟩
set_option maxRecDepth 100000 in
theorem ok_X8_look : OkV yX8_look cX8_look 3 none 2 := ⟨tb_3 (List.mem_of_getElem? (i := 73) rfl) rfl, tb_3 (List.mem_of_getElem? (i := 74) rfl) rfl, tb_1 (List.mem_of_getElem? (i := 8) rfl) rfl, tb_3 (List.mem_of_getElem? (i := 75) rfl) rfl, ⟨by decide +kernel, by decide +kernel, by decide +kernel⟩⟩
set_option maxRecDepth 100000 in
theorem ok_X8_chooseBase : OkV yX8_chooseBase cX8_chooseBase 3 none 0 := ⟨tb_3 (List.mem_of_getElem? (i := 78) rfl) rfl, tb_p (List.mem_of_getElem? (i := 0) rfl) rfl, tb_1 (List.mem_of_getElem? (i := 8) rfl) rfl, tb_3 (List.mem_of_getElem? (i := 79) rfl) rfl, ⟨by decide +kernel, by decide +kernel, by decide +kernel⟩⟩
set_option maxRecDepth 100000 in
theorem ok_X8_canBeBase : OkV yX8_canBeBase cX8_canBeBase 2 (some .boolean) 1 := ⟨tb_3 (List.mem_of_getElem? (i := 82) rfl) rfl, tb_p (List.mem_of_getElem? (i := 1) rfl) rfl, tb_1 (List.mem_of_getElem? (i := 8) rfl) rfl, tb_3 (List.mem_of_getElem? (i := 83) rfl) rfl, ⟨by decide +kernel, by decide +kernel, by decide +kernel⟩⟩
set_option maxRecDepth 100000 in
theorem ok_X8_countBelow : OkV yX8_countBelow cX8_countBelow 4 none 0 := ⟨tb_3 (List.mem_of_getElem? (i := 86) rfl) rfl, tb_p (List.mem_of_getElem? (i := 2) rfl) rfl, tb_1 (List.mem_of_getElem? (i := 8) rfl) rfl, tb_3 (List.mem_of_getElem? (i := 87) rfl) rfl, ⟨by decide +kernel, by decide +kernel, by decide +kernel⟩⟩
set_option maxRecDepth 100000 in
theorem ok_X8_countIn : OkV yX8_countIn cX8_countIn 5 none 0 := ⟨tb_3 (List.mem_of_getElem? (i := 92) rfl) rfl, tb_p (List.mem_of_getElem? (i := 3) rfl) rfl, tb_1 (List.mem_of_getElem? (i := 8) rfl) rfl, tb_3 (List.mem_of_getElem? (i := 93) rfl) rfl, ⟨by decide +kernel, by decide +kernel, by decide +kernel⟩⟩
set_option maxRecDepth 100000 in
theorem ok_X8_leavesOut : OkV yX8_leavesOut cX8_leavesOut 2 (some .boolean) 1 := ⟨tb_3 (List.mem_of_getElem? (i := 95) rfl) rfl, tb_3 (List.mem_of_getElem? (i := 96) rfl) rfl, tb_1 (List.mem_of_getElem? (i := 8) rfl) rfl, tb_3 (List.mem_of_getElem? (i := 97) rfl) rfl, ⟨by decide +kernel, by decide +kernel, by decide +kernel⟩⟩
set_option maxRecDepth 100000 in
theorem ok_X8_modelFor : OkV yX8_modelFor cX8_modelFor 7 (some .int) 1 := ⟨tb_3 (List.mem_of_getElem? (i := 143) rfl) rfl, tb_3 (List.mem_of_getElem? (i := 144) rfl) rfl, tb_1 (List.mem_of_getElem? (i := 8) rfl) rfl, tb_3 (List.mem_of_getElem? (i := 145) rfl) rfl, ⟨by decide +kernel, by decide +kernel, by decide +kernel⟩⟩
set_option maxRecDepth 100000 in
theorem ok_X8_levelFor : OkV yX8_levelFor cX8_levelFor 5 (some .int) 2 := ⟨tb_3 (List.mem_of_getElem? (i := 147) rfl) rfl, tb_3 (List.mem_of_getElem? (i := 148) rfl) rfl, tb_1 (List.mem_of_getElem? (i := 8) rfl) rfl, tb_3 (List.mem_of_getElem? (i := 149) rfl) rfl, ⟨by decide +kernel, by decide +kernel, by decide +kernel⟩⟩
set_option maxRecDepth 100000 in
theorem ok_X8_worthAt : OkV yX8_worthAt cX8_worthAt 8 (some .long) 3 := ⟨tb_3 (List.mem_of_getElem? (i := 139) rfl) rfl, tb_3 (List.mem_of_getElem? (i := 140) rfl) rfl, tb_1 (List.mem_of_getElem? (i := 8) rfl) rfl, tb_3 (List.mem_of_getElem? (i := 141) rfl) rfl, ⟨by decide +kernel, by decide +kernel, by decide +kernel⟩⟩
set_option maxRecDepth 100000 in
theorem ok_X8_averageAt : OkV yX8_averageAt cX8_averageAt 12 (some .long) 3 := ⟨tb_3 (List.mem_of_getElem? (i := 152) rfl) rfl, tb_p (List.mem_of_getElem? (i := 8) rfl) rfl, tb_1 (List.mem_of_getElem? (i := 8) rfl) rfl, tb_3 (List.mem_of_getElem? (i := 153) rfl) rfl, ⟨by decide +kernel, by decide +kernel, by decide +kernel⟩⟩
set_option maxRecDepth 100000 in
theorem ok_X8_matchFor : OkV yX8_matchFor cX8_matchFor 7 (some .int) 1 := ⟨tb_3 (List.mem_of_getElem? (i := 122) rfl) rfl, tb_3 (List.mem_of_getElem? (i := 123) rfl) rfl, tb_1 (List.mem_of_getElem? (i := 8) rfl) rfl, tb_3 (List.mem_of_getElem? (i := 124) rfl) rfl, ⟨by decide +kernel, by decide +kernel, by decide +kernel⟩⟩
set_option maxRecDepth 100000 in
theorem ok_X8_apart : OkV yX8_apart cX8_apart 7 (some .int) 2 := ⟨tb_3 (List.mem_of_getElem? (i := 127) rfl) rfl, tb_p (List.mem_of_getElem? (i := 7) rfl) rfl, tb_1 (List.mem_of_getElem? (i := 8) rfl) rfl, tb_3 (List.mem_of_getElem? (i := 128) rfl) rfl, ⟨by decide +kernel, by decide +kernel, by decide +kernel⟩⟩
set_option maxRecDepth 100000 in
theorem ok_X8_worthByMatch : OkV yX8_worthByMatch cX8_worthByMatch 5 (some .long) 2 := ⟨tb_3 (List.mem_of_getElem? (i := 133) rfl) rfl, tb_3 (List.mem_of_getElem? (i := 134) rfl) rfl, tb_1 (List.mem_of_getElem? (i := 8) rfl) rfl, tb_3 (List.mem_of_getElem? (i := 135) rfl) rfl, ⟨by decide +kernel, by decide +kernel, by decide +kernel⟩⟩
set_option maxRecDepth 100000 in
theorem ok_X9_clear : OkV yX9_clear cX9_clear 2 none 0 := ⟨tb_4 (List.mem_of_getElem? (i := 1) rfl) rfl, tb_4 (List.mem_of_getElem? (i := 2) rfl) rfl, tb_1 (List.mem_of_getElem? (i := 4) rfl) rfl, tb_4 (List.mem_of_getElem? (i := 3) rfl) rfl, ⟨by decide +kernel, by decide +kernel, by decide +kernel⟩⟩
set_option maxRecDepth 100000 in
theorem ok_X9_emit : OkV yX9_emit cX9_emit 2 none 1 := ⟨tb_4 (List.mem_of_getElem? (i := 161) rfl) rfl, tb_4 (List.mem_of_getElem? (i := 162) rfl) rfl, tb_1 (List.mem_of_getElem? (i := 4) rfl) rfl, tb_4 (List.mem_of_getElem? (i := 163) rfl) rfl, ⟨by decide +kernel, by decide +kernel, by decide +kernel⟩⟩
set_option maxRecDepth 100000 in
theorem ok_X9_tell : OkV yX9_tell cX9_tell 3 none 2 := ⟨tb_4 (List.mem_of_getElem? (i := 169) rfl) rfl, tb_4 (List.mem_of_getElem? (i := 170) rfl) rfl, tb_1 (List.mem_of_getElem? (i := 4) rfl) rfl, tb_4 (List.mem_of_getElem? (i := 171) rfl) rfl, ⟨by decide +kernel, by decide +kernel, by decide +kernel⟩⟩
set_option maxRecDepth 100000 in
theorem ok_X9_offOf : OkV yX9_offOf cX9_offOf 8 (some .int) 3 := ⟨tb_3 (List.mem_of_getElem? (i := 13) rfl) rfl, tb_3 (List.mem_of_getElem? (i := 14) rfl) rfl, tb_1 (List.mem_of_getElem? (i := 4) rfl) rfl, tb_3 (List.mem_of_getElem? (i := 15) rfl) rfl, ⟨by decide +kernel, by decide +kernel, by decide +kernel⟩⟩
set_option maxRecDepth 100000 in
theorem ok_X9_letterOf : OkS yX9_letterOf cX9_letterOf 4 (some .int) 4 := ⟨tb_3 (List.mem_of_getElem? (i := 17) rfl) rfl, tb_1 (List.mem_of_getElem? (i := 4) rfl) rfl, tb_3 (List.mem_of_getElem? (i := 18) rfl) rfl, ⟨by decide +kernel, by decide +kernel, by decide +kernel⟩⟩
set_option maxRecDepth 100000 in
theorem ok_X9_apply : OkS yX9_apply cX9_apply 7 (some .long) 3 := ⟨tb_3 (List.mem_of_getElem? (i := 20) rfl) rfl, tb_1 (List.mem_of_getElem? (i := 4) rfl) rfl, tb_3 (List.mem_of_getElem? (i := 21) rfl) rfl, ⟨by decide +kernel, by decide +kernel, by decide +kernel⟩⟩
set_option maxRecDepth 100000 in
theorem ok_X10_feed : OkV yX10_feed cX10_feed 6 (some .int) 5 := ⟨tb_2 (List.mem_of_getElem? (i := 217) rfl) rfl, tb_2 (List.mem_of_getElem? (i := 218) rfl) rfl, tb_1 (List.mem_of_getElem? (i := 1) rfl) rfl, tb_2 (List.mem_of_getElem? (i := 219) rfl) rfl, ⟨by decide +kernel, by decide +kernel, by decide +kernel⟩⟩
set_option maxRecDepth 100000 in
theorem ok_X10_end : OkV yX10_end cX10_end 2 (some .boolean) 1 := ⟨tb_2 (List.mem_of_getElem? (i := 225) rfl) rfl, tb_2 (List.mem_of_getElem? (i := 226) rfl) rfl, tb_1 (List.mem_of_getElem? (i := 1) rfl) rfl, tb_2 (List.mem_of_getElem? (i := 227) rfl) rfl, ⟨by decide +kernel, by decide +kernel, by decide +kernel⟩⟩
set_option maxRecDepth 100000 in
theorem ok_X10_read : OkV yX10_read cX10_read 2 (some .int) 0 := ⟨tb_3 (List.mem_of_getElem? (i := 229) rfl) rfl, tb_3 (List.mem_of_getElem? (i := 230) rfl) rfl, tb_1 (List.mem_of_getElem? (i := 1) rfl) rfl, tb_3 (List.mem_of_getElem? (i := 231) rfl) rfl, ⟨by decide +kernel, by decide +kernel, by decide +kernel⟩⟩
set_option maxRecDepth 100000 in
theorem ok_X10_fault : OkV yX10_fault cX10_fault 1 (some .int) 0 := ⟨tb_2 (List.mem_of_getElem? (i := 229) rfl) rfl, tb_2 (List.mem_of_getElem? (i := 230) rfl) rfl, tb_1 (List.mem_of_getElem? (i := 1) rfl) rfl, tb_2 (List.mem_of_getElem? (i := 231) rfl) rfl, ⟨by decide +kernel, by decide +kernel, by decide +kernel⟩⟩
set_option maxRecDepth 100000 in
theorem ok_X10_name : OkV yX10_name cX10_name 4 (some .int) 3 := ⟨tb_5 (List.mem_of_getElem? (i := 21) rfl) rfl, tb_5 (List.mem_of_getElem? (i := 22) rfl) rfl, tb_1 (List.mem_of_getElem? (i := 1) rfl) rfl, tb_5 (List.mem_of_getElem? (i := 23) rfl) rfl, ⟨by decide +kernel, by decide +kernel, by decide +kernel⟩⟩
set_option maxRecDepth 100000 in
theorem ok_X10_model : OkV yX10_model cX10_model 3 (some .int) 2 := ⟨tb_5 (List.mem_of_getElem? (i := 58) rfl) rfl, tb_5 (List.mem_of_getElem? (i := 59) rfl) rfl, tb_1 (List.mem_of_getElem? (i := 1) rfl) rfl, tb_5 (List.mem_of_getElem? (i := 60) rfl) rfl, ⟨by decide +kernel, by decide +kernel, by decide +kernel⟩⟩
set_option maxRecDepth 100000 in
theorem ok_X10_cost : OkV yX10_cost cX10_cost 3 (some .int) 2 := ⟨tb_5 (List.mem_of_getElem? (i := 81) rfl) rfl, tb_5 (List.mem_of_getElem? (i := 82) rfl) rfl, tb_1 (List.mem_of_getElem? (i := 1) rfl) rfl, tb_5 (List.mem_of_getElem? (i := 83) rfl) rfl, ⟨by decide +kernel, by decide +kernel, by decide +kernel⟩⟩
set_option maxRecDepth 100000 in
theorem ok_X10_sale : OkV yX10_sale cX10_sale 4 (some .int) 2 := ⟨tb_5 (List.mem_of_getElem? (i := 89) rfl) rfl, tb_5 (List.mem_of_getElem? (i := 90) rfl) rfl, tb_1 (List.mem_of_getElem? (i := 1) rfl) rfl, tb_5 (List.mem_of_getElem? (i := 91) rfl) rfl, ⟨by decide +kernel, by decide +kernel, by decide +kernel⟩⟩
set_option maxRecDepth 100000 in
theorem ok_X10_put : OkV yX10_put cX10_put 9 (some .int) 7 := ⟨tb_5 (List.mem_of_getElem? (i := 104) rfl) rfl, tb_5 (List.mem_of_getElem? (i := 105) rfl) rfl, tb_1 (List.mem_of_getElem? (i := 1) rfl) rfl, tb_5 (List.mem_of_getElem? (i := 106) rfl) rfl, ⟨by decide +kernel, by decide +kernel, by decide +kernel⟩⟩
set_option maxRecDepth 100000 in
theorem ok_X10_drop : OkV yX10_drop cX10_drop 2 none 1 := ⟨tb_5 (List.mem_of_getElem? (i := 138) rfl) rfl, tb_5 (List.mem_of_getElem? (i := 139) rfl) rfl, tb_1 (List.mem_of_getElem? (i := 1) rfl) rfl, tb_5 (List.mem_of_getElem? (i := 140) rfl) rfl, ⟨by decide +kernel, by decide +kernel, by decide +kernel⟩⟩
set_option maxRecDepth 100000 in
theorem ok_X10_price : OkV yX10_price cX10_price 4 (some .int) 2 := ⟨tb_5 (List.mem_of_getElem? (i := 145) rfl) rfl, tb_5 (List.mem_of_getElem? (i := 146) rfl) rfl, tb_1 (List.mem_of_getElem? (i := 1) rfl) rfl, tb_5 (List.mem_of_getElem? (i := 147) rfl) rfl, ⟨by decide +kernel, by decide +kernel, by decide +kernel⟩⟩
set_option maxRecDepth 100000 in
theorem ok_X10_costs : OkV yX10_costs cX10_costs 6 (some .int) 3 := ⟨tb_5 (List.mem_of_getElem? (i := 153) rfl) rfl, tb_5 (List.mem_of_getElem? (i := 154) rfl) rfl, tb_1 (List.mem_of_getElem? (i := 1) rfl) rfl, tb_5 (List.mem_of_getElem? (i := 155) rfl) rfl, ⟨by decide +kernel, by decide +kernel, by decide +kernel⟩⟩
set_option maxRecDepth 100000 in
theorem ok_X10_set : OkV yX10_set cX10_set 4 (some .int) 2 := ⟨tb_5 (List.mem_of_getElem? (i := 161) rfl) rfl, tb_5 (List.mem_of_getElem? (i := 162) rfl) rfl, tb_1 (List.mem_of_getElem? (i := 1) rfl) rfl, tb_5 (List.mem_of_getElem? (i := 163) rfl) rfl, ⟨by decide +kernel, by decide +kernel, by decide +kernel⟩⟩
set_option maxRecDepth 100000 in
theorem ok_X10_silent : OkV yX10_silent cX10_silent 4 (some .boolean) 2 := ⟨tb_5 (List.mem_of_getElem? (i := 172) rfl) rfl, tb_5 (List.mem_of_getElem? (i := 173) rfl) rfl, tb_1 (List.mem_of_getElem? (i := 1) rfl) rfl, tb_5 (List.mem_of_getElem? (i := 174) rfl) rfl, ⟨by decide +kernel, by decide +kernel, by decide +kernel⟩⟩
set_option maxRecDepth 100000 in
theorem ok_X10_undo : OkV yX10_undo cX10_undo 1 (some .int) 0 := ⟨tb_2 (List.mem_of_getElem? (i := 233) rfl) rfl, tb_2 (List.mem_of_getElem? (i := 234) rfl) rfl, tb_1 (List.mem_of_getElem? (i := 1) rfl) rfl, tb_2 (List.mem_of_getElem? (i := 235) rfl) rfl, ⟨by decide +kernel, by decide +kernel, by decide +kernel⟩⟩
set_option maxRecDepth 100000 in
theorem ok_X10_base : OkV yX10_base cX10_base 2 (some .int) 1 := ⟨tb_5 (List.mem_of_getElem? (i := 179) rfl) rfl, tb_5 (List.mem_of_getElem? (i := 180) rfl) rfl, tb_1 (List.mem_of_getElem? (i := 1) rfl) rfl, tb_5 (List.mem_of_getElem? (i := 181) rfl) rfl, ⟨by decide +kernel, by decide +kernel, by decide +kernel⟩⟩
set_option maxRecDepth 100000 in
theorem ok_X10_below : OkV yX10_below cX10_below 4 (some .int) 3 := ⟨tb_5 (List.mem_of_getElem? (i := 186) rfl) rfl, tb_5 (List.mem_of_getElem? (i := 187) rfl) rfl, tb_1 (List.mem_of_getElem? (i := 1) rfl) rfl, tb_5 (List.mem_of_getElem? (i := 188) rfl) rfl, ⟨by decide +kernel, by decide +kernel, by decide +kernel⟩⟩
set_option maxRecDepth 100000 in
theorem ok_X10_worth : OkV yX10_worth cX10_worth 5 (some .long) 4 := ⟨tb_5 (List.mem_of_getElem? (i := 195) rfl) rfl, tb_5 (List.mem_of_getElem? (i := 196) rfl) rfl, tb_1 (List.mem_of_getElem? (i := 1) rfl) rfl, tb_5 (List.mem_of_getElem? (i := 197) rfl) rfl, ⟨by decide +kernel, by decide +kernel, by decide +kernel⟩⟩
set_option maxRecDepth 100000 in
theorem ok_X10_found : OkV yX10_found cX10_found 6 (some .int) 4 := ⟨tb_5 (List.mem_of_getElem? (i := 203) rfl) rfl, tb_5 (List.mem_of_getElem? (i := 204) rfl) rfl, tb_1 (List.mem_of_getElem? (i := 1) rfl) rfl, tb_5 (List.mem_of_getElem? (i := 205) rfl) rfl, ⟨by decide +kernel, by decide +kernel, by decide +kernel⟩⟩
set_option maxRecDepth 100000 in
theorem ok_X10_match : OkV yX10_match cX10_match 2 (some .int) 1 := ⟨tb_5 (List.mem_of_getElem? (i := 213) rfl) rfl, tb_5 (List.mem_of_getElem? (i := 214) rfl) rfl, tb_1 (List.mem_of_getElem? (i := 1) rfl) rfl, tb_5 (List.mem_of_getElem? (i := 215) rfl) rfl, ⟨by decide +kernel, by decide +kernel, by decide +kernel⟩⟩
set_option maxRecDepth 100000 in
theorem ok_X10_difference : OkV yX10_difference cX10_difference 3 (some .long) 2 := ⟨tb_5 (List.mem_of_getElem? (i := 226) rfl) rfl, tb_5 (List.mem_of_getElem? (i := 227) rfl) rfl, tb_1 (List.mem_of_getElem? (i := 1) rfl) rfl, tb_5 (List.mem_of_getElem? (i := 228) rfl) rfl, ⟨by decide +kernel, by decide +kernel, by decide +kernel⟩⟩
set_option maxRecDepth 100000 in
theorem ok_X10_groups : OkV yX10_groups cX10_groups 2 (some .int) 1 := ⟨tb_5 (List.mem_of_getElem? (i := 237) rfl) rfl, tb_5 (List.mem_of_getElem? (i := 238) rfl) rfl, tb_1 (List.mem_of_getElem? (i := 1) rfl) rfl, tb_5 (List.mem_of_getElem? (i := 239) rfl) rfl, ⟨by decide +kernel, by decide +kernel, by decide +kernel⟩⟩
set_option maxRecDepth 100000 in
theorem ok_X10_group : OkV yX10_group cX10_group 5 (some .long) 3 := ⟨tb_6 (List.mem_of_getElem? (i := 5) rfl) rfl, tb_6 (List.mem_of_getElem? (i := 6) rfl) rfl, tb_1 (List.mem_of_getElem? (i := 1) rfl) rfl, tb_6 (List.mem_of_getElem? (i := 7) rfl) rfl, ⟨by decide +kernel, by decide +kernel, by decide +kernel⟩⟩
set_option maxRecDepth 100000 in
theorem ok_X10_sum : OkV yX10_sum cX10_sum 4 (some .long) 3 := ⟨tb_6 (List.mem_of_getElem? (i := 16) rfl) rfl, tb_6 (List.mem_of_getElem? (i := 17) rfl) rfl, tb_1 (List.mem_of_getElem? (i := 1) rfl) rfl, tb_6 (List.mem_of_getElem? (i := 18) rfl) rfl, ⟨by decide +kernel, by decide +kernel, by decide +kernel⟩⟩
set_option maxRecDepth 100000 in
theorem ok_X10_value : OkV yX10_value cX10_value 2 (some .long) 1 := ⟨tb_6 (List.mem_of_getElem? (i := 24) rfl) rfl, tb_6 (List.mem_of_getElem? (i := 25) rfl) rfl, tb_1 (List.mem_of_getElem? (i := 1) rfl) rfl, tb_6 (List.mem_of_getElem? (i := 26) rfl) rfl, ⟨by decide +kernel, by decide +kernel, by decide +kernel⟩⟩
set_option maxRecDepth 100000 in
theorem ok_X10_margin : OkV yX10_margin cX10_margin 4 (some .int) 3 := ⟨tb_6 (List.mem_of_getElem? (i := 32) rfl) rfl, tb_6 (List.mem_of_getElem? (i := 33) rfl) rfl, tb_1 (List.mem_of_getElem? (i := 1) rfl) rfl, tb_6 (List.mem_of_getElem? (i := 34) rfl) rfl, ⟨by decide +kernel, by decide +kernel, by decide +kernel⟩⟩
set_option maxRecDepth 100000 in
theorem ok_X10_negligible : OkV yX10_negligible cX10_negligible 2 (some .boolean) 1 := ⟨tb_6 (List.mem_of_getElem? (i := 47) rfl) rfl, tb_6 (List.mem_of_getElem? (i := 48) rfl) rfl, tb_1 (List.mem_of_getElem? (i := 1) rfl) rfl, tb_6 (List.mem_of_getElem? (i := 49) rfl) rfl, ⟨by decide +kernel, by decide +kernel, by decide +kernel⟩⟩
set_option maxRecDepth 100000 in
theorem ok_X10_duty : OkV yX10_duty cX10_duty 3 (some .int) 2 := ⟨tb_6 (List.mem_of_getElem? (i := 55) rfl) rfl, tb_6 (List.mem_of_getElem? (i := 56) rfl) rfl, tb_1 (List.mem_of_getElem? (i := 1) rfl) rfl, tb_6 (List.mem_of_getElem? (i := 57) rfl) rfl, ⟨by decide +kernel, by decide +kernel, by decide +kernel⟩⟩
set_option maxRecDepth 100000 in
theorem ok_X10_others : OkV yX10_others cX10_others 1 (some .int) 0 := ⟨tb_3 (List.mem_of_getElem? (i := 45) rfl) rfl, tb_3 (List.mem_of_getElem? (i := 46) rfl) rfl, tb_1 (List.mem_of_getElem? (i := 1) rfl) rfl, tb_3 (List.mem_of_getElem? (i := 47) rfl) rfl, ⟨by decide +kernel, by decide +kernel, by decide +kernel⟩⟩
set_option maxRecDepth 100000 in
theorem ok_X10_method : OkV yX10_method cX10_method 7 (some .int) 2 := ⟨tb_6 (List.mem_of_getElem? (i := 63) rfl) rfl, tb_6 (List.mem_of_getElem? (i := 64) rfl) rfl, tb_1 (List.mem_of_getElem? (i := 1) rfl) rfl, tb_6 (List.mem_of_getElem? (i := 65) rfl) rfl, ⟨by decide +kernel, by decide +kernel, by decide +kernel⟩⟩
set_option maxRecDepth 100000 in
theorem ok_X10_undertaking : OkV yX10_undertaking cX10_undertaking 2 (some .int) 1 := ⟨tb_6 (List.mem_of_getElem? (i := 72) rfl) rfl, tb_6 (List.mem_of_getElem? (i := 73) rfl) rfl, tb_1 (List.mem_of_getElem? (i := 1) rfl) rfl, tb_6 (List.mem_of_getElem? (i := 74) rfl) rfl, ⟨by decide +kernel, by decide +kernel, by decide +kernel⟩⟩
set_option maxRecDepth 100000 in
theorem ok_X10_picked : OkV yX10_picked cX10_picked 2 (some .int) 1 := ⟨tb_6 (List.mem_of_getElem? (i := 85) rfl) rfl, tb_6 (List.mem_of_getElem? (i := 86) rfl) rfl, tb_1 (List.mem_of_getElem? (i := 1) rfl) rfl, tb_6 (List.mem_of_getElem? (i := 87) rfl) rfl, ⟨by decide +kernel, by decide +kernel, by decide +kernel⟩⟩
set_option maxRecDepth 100000 in
theorem ok_X10_collected : OkV yX10_collected cX10_collected 3 (some .long) 2 := ⟨tb_6 (List.mem_of_getElem? (i := 98) rfl) rfl, tb_6 (List.mem_of_getElem? (i := 99) rfl) rfl, tb_1 (List.mem_of_getElem? (i := 1) rfl) rfl, tb_6 (List.mem_of_getElem? (i := 100) rfl) rfl, ⟨by decide +kernel, by decide +kernel, by decide +kernel⟩⟩
set_option maxRecDepth 100000 in
theorem ok_X10_back : OkV yX10_back cX10_back 4 (some .long) 1 := ⟨tb_6 (List.mem_of_getElem? (i := 115) rfl) rfl, tb_6 (List.mem_of_getElem? (i := 116) rfl) rfl, tb_1 (List.mem_of_getElem? (i := 1) rfl) rfl, tb_6 (List.mem_of_getElem? (i := 117) rfl) rfl, ⟨by decide +kernel, by decide +kernel, by decide +kernel⟩⟩
set_option maxRecDepth 100000 in
theorem ok_X10_weight : OkV yX10_weight cX10_weight 3 (some .int) 1 := ⟨tb_6 (List.mem_of_getElem? (i := 127) rfl) rfl, tb_6 (List.mem_of_getElem? (i := 128) rfl) rfl, tb_1 (List.mem_of_getElem? (i := 1) rfl) rfl, tb_6 (List.mem_of_getElem? (i := 129) rfl) rfl, ⟨by decide +kernel, by decide +kernel, by decide +kernel⟩⟩
set_option maxRecDepth 100000 in
theorem ok_X10_heaviest : OkV yX10_heaviest cX10_heaviest 8 (some .int) 2 := ⟨tb_6 (List.mem_of_getElem? (i := 140) rfl) rfl, tb_6 (List.mem_of_getElem? (i := 141) rfl) rfl, tb_1 (List.mem_of_getElem? (i := 1) rfl) rfl, tb_6 (List.mem_of_getElem? (i := 142) rfl) rfl, ⟨by decide +kernel, by decide +kernel, by decide +kernel⟩⟩
set_option maxRecDepth 100000 in
theorem ok_X10_ranked : OkV yX10_ranked cX10_ranked 3 (some .int) 1 := ⟨tb_3 (List.mem_of_getElem? (i := 201) rfl) rfl, tb_3 (List.mem_of_getElem? (i := 202) rfl) rfl, tb_1 (List.mem_of_getElem? (i := 1) rfl) rfl, tb_3 (List.mem_of_getElem? (i := 203) rfl) rfl, ⟨by decide +kernel, by decide +kernel, by decide +kernel⟩⟩
set_option maxRecDepth 100000 in
theorem ok_X10_write : OkV yX10_write cX10_write 3 (some .int) 1 := ⟨tb_6 (List.mem_of_getElem? (i := 147) rfl) rfl, tb_6 (List.mem_of_getElem? (i := 148) rfl) rfl, tb_1 (List.mem_of_getElem? (i := 1) rfl) rfl, tb_6 (List.mem_of_getElem? (i := 149) rfl) rfl, ⟨by decide +kernel, by decide +kernel, by decide +kernel⟩⟩
set_option maxRecDepth 100000 in
theorem ok_X10_octet : OkV yX10_octet cX10_octet 2 (some .int) 1 := ⟨tb_3 (List.mem_of_getElem? (i := 209) rfl) rfl, tb_3 (List.mem_of_getElem? (i := 210) rfl) rfl, tb_1 (List.mem_of_getElem? (i := 1) rfl) rfl, tb_3 (List.mem_of_getElem? (i := 211) rfl) rfl, ⟨by decide +kernel, by decide +kernel, by decide +kernel⟩⟩
set_option maxRecDepth 100000 in
theorem ok_X10_count : OkV yX10_count cX10_count 2 (some .int) 1 := ⟨tb_3 (List.mem_of_getElem? (i := 213) rfl) rfl, tb_3 (List.mem_of_getElem? (i := 214) rfl) rfl, tb_1 (List.mem_of_getElem? (i := 1) rfl) rfl, tb_3 (List.mem_of_getElem? (i := 215) rfl) rfl, ⟨by decide +kernel, by decide +kernel, by decide +kernel⟩⟩
set_option maxRecDepth 100000 in
theorem ok_X10_needFirm : OkV yX10_needFirm cX10_needFirm 2 none 1 := ⟨tb_5 (List.mem_of_getElem? (i := 26) rfl) rfl, tb_p (List.mem_of_getElem? (i := 34) rfl) rfl, tb_1 (List.mem_of_getElem? (i := 1) rfl) rfl, tb_5 (List.mem_of_getElem? (i := 27) rfl) rfl, ⟨by decide +kernel, by decide +kernel, by decide +kernel⟩⟩
set_option maxRecDepth 100000 in
theorem ok_X10_needModel : OkV yX10_needModel cX10_needModel 2 none 1 := ⟨tb_5 (List.mem_of_getElem? (i := 50) rfl) rfl, tb_p (List.mem_of_getElem? (i := 35) rfl) rfl, tb_1 (List.mem_of_getElem? (i := 1) rfl) rfl, tb_5 (List.mem_of_getElem? (i := 51) rfl) rfl, ⟨by decide +kernel, by decide +kernel, by decide +kernel⟩⟩
set_option maxRecDepth 100000 in
theorem ok_X10_needSale : OkV yX10_needSale cX10_needSale 2 none 1 := ⟨tb_5 (List.mem_of_getElem? (i := 94) rfl) rfl, tb_p (List.mem_of_getElem? (i := 36) rfl) rfl, tb_1 (List.mem_of_getElem? (i := 1) rfl) rfl, tb_5 (List.mem_of_getElem? (i := 95) rfl) rfl, ⟨by decide +kernel, by decide +kernel, by decide +kernel⟩⟩
set_option maxRecDepth 100000 in
theorem ok_X10_needExport : OkV yX10_needExport cX10_needExport 2 none 1 := ⟨tb_5 (List.mem_of_getElem? (i := 218) rfl) rfl, tb_p (List.mem_of_getElem? (i := 37) rfl) rfl, tb_1 (List.mem_of_getElem? (i := 1) rfl) rfl, tb_5 (List.mem_of_getElem? (i := 219) rfl) rfl, ⟨by decide +kernel, by decide +kernel, by decide +kernel⟩⟩
set_option maxRecDepth 100000 in
theorem ok_X10_needWithin : OkS yX10_needWithin cX10_needWithin 3 none 3 := ⟨tb_5 (List.mem_of_getElem? (i := 108) rfl) rfl, tb_1 (List.mem_of_getElem? (i := 1) rfl) rfl, tb_5 (List.mem_of_getElem? (i := 109) rfl) rfl, ⟨by decide +kernel, by decide +kernel, by decide +kernel⟩⟩
set_option maxRecDepth 100000 in
theorem ok_X10_mostOfSetting : OkS yX10_mostOfSetting cX10_mostOfSetting 1 (some .int) 1 := ⟨tb_5 (List.mem_of_getElem? (i := 166) rfl) rfl, tb_1 (List.mem_of_getElem? (i := 1) rfl) rfl, tb_5 (List.mem_of_getElem? (i := 167) rfl) rfl, ⟨by decide +kernel, by decide +kernel, by decide +kernel⟩⟩
set_option maxRecDepth 100000 in
theorem ok_X11_thrown : OkV yX11_thrown cX11_thrown 1 (some .int) 0 := ⟨tb_7 (List.mem_of_getElem? (i := 79) rfl) rfl, tb_7 (List.mem_of_getElem? (i := 80) rfl) rfl, tb_1 (List.mem_of_getElem? (i := 12) rfl) rfl, tb_7 (List.mem_of_getElem? (i := 81) rfl) rfl, ⟨by decide +kernel, by decide +kernel, by decide +kernel⟩⟩
set_option maxRecDepth 100000 in
theorem ok_X11_isIn : OkS yX11_isIn cX11_isIn 6 (some .boolean) 3 := ⟨tb_8 (List.mem_of_getElem? (i := 21) rfl) rfl, tb_1 (List.mem_of_getElem? (i := 12) rfl) rfl, tb_8 (List.mem_of_getElem? (i := 22) rfl) rfl, ⟨by decide +kernel, by decide +kernel, by decide +kernel⟩⟩
set_option maxRecDepth 100000 in
theorem ok_X11_fails : OkV yX11_fails cX11_fails 2 (some .int) 1 := ⟨tb_8 (List.mem_of_getElem? (i := 2) rfl) rfl, tb_p (List.mem_of_getElem? (i := 67) rfl) rfl, tb_1 (List.mem_of_getElem? (i := 12) rfl) rfl, tb_8 (List.mem_of_getElem? (i := 3) rfl) rfl, ⟨by decide +kernel, by decide +kernel, by decide +kernel⟩⟩
set_option maxRecDepth 100000 in
theorem ok_X11_feed : OkV yX11_feed cX11_feed 8 (some .int) 5 := ⟨tb_7 (List.mem_of_getElem? (i := 83) rfl) rfl, tb_7 (List.mem_of_getElem? (i := 84) rfl) rfl, tb_1 (List.mem_of_getElem? (i := 12) rfl) rfl, tb_7 (List.mem_of_getElem? (i := 85) rfl) rfl, ⟨by decide +kernel, by decide +kernel, by decide +kernel⟩⟩
set_option maxRecDepth 100000 in
theorem ok_X11_end : OkV yX11_end cX11_end 2 (some .boolean) 1 := ⟨tb_7 (List.mem_of_getElem? (i := 87) rfl) rfl, tb_7 (List.mem_of_getElem? (i := 88) rfl) rfl, tb_1 (List.mem_of_getElem? (i := 12) rfl) rfl, tb_7 (List.mem_of_getElem? (i := 89) rfl) rfl, ⟨by decide +kernel, by decide +kernel, by decide +kernel⟩⟩
set_option maxRecDepth 100000 in
theorem ok_X11_isWrong : OkV yX11_isWrong cX11_isWrong 1 (some .boolean) 0 := ⟨tb_7 (List.mem_of_getElem? (i := 96) rfl) rfl, tb_p (List.mem_of_getElem? (i := 38) rfl) rfl, tb_1 (List.mem_of_getElem? (i := 12) rfl) rfl, tb_7 (List.mem_of_getElem? (i := 97) rfl) rfl, ⟨by decide +kernel, by decide +kernel, by decide +kernel⟩⟩
set_option maxRecDepth 100000 in
theorem ok_X11_wrong : OkV yX11_wrong cX11_wrong 1 none 0 := ⟨tb_7 (List.mem_of_getElem? (i := 122) rfl) rfl, tb_p (List.mem_of_getElem? (i := 43) rfl) rfl, tb_1 (List.mem_of_getElem? (i := 12) rfl) rfl, tb_7 (List.mem_of_getElem? (i := 123) rfl) rfl, ⟨by decide +kernel, by decide +kernel, by decide +kernel⟩⟩
set_option maxRecDepth 100000 in
theorem ok_X11_wrongAt : OkV yX11_wrongAt cX11_wrongAt 2 none 1 := ⟨tb_7 (List.mem_of_getElem? (i := 126) rfl) rfl, tb_p (List.mem_of_getElem? (i := 44) rfl) rfl, tb_1 (List.mem_of_getElem? (i := 12) rfl) rfl, tb_7 (List.mem_of_getElem? (i := 127) rfl) rfl, ⟨by decide +kernel, by decide +kernel, by decide +kernel⟩⟩
set_option maxRecDepth 100000 in
theorem ok_X11_here : OkV yX11_here cX11_here 1 (some .int) 0 := ⟨tb_7 (List.mem_of_getElem? (i := 100) rfl) rfl, tb_p (List.mem_of_getElem? (i := 39) rfl) rfl, tb_1 (List.mem_of_getElem? (i := 12) rfl) rfl, tb_7 (List.mem_of_getElem? (i := 101) rfl) rfl, ⟨by decide +kernel, by decide +kernel, by decide +kernel⟩⟩
set_option maxRecDepth 100000 in
theorem ok_X11_isLetter : OkS yX11_isLetter cX11_isLetter 1 (some .boolean) 1 := ⟨tb_7 (List.mem_of_getElem? (i := 116) rfl) rfl, tb_1 (List.mem_of_getElem? (i := 12) rfl) rfl, tb_7 (List.mem_of_getElem? (i := 117) rfl) rfl, ⟨by decide +kernel, by decide +kernel, by decide +kernel⟩⟩
set_option maxRecDepth 100000 in
theorem ok_X11_isDigitAt : OkV yX11_isDigitAt cX11_isDigitAt 2 (some .boolean) 1 := ⟨tb_7 (List.mem_of_getElem? (i := 171) rfl) rfl, tb_p (List.mem_of_getElem? (i := 52) rfl) rfl, tb_1 (List.mem_of_getElem? (i := 12) rfl) rfl, tb_7 (List.mem_of_getElem? (i := 172) rfl) rfl, ⟨by decide +kernel, by decide +kernel, by decide +kernel⟩⟩
set_option maxRecDepth 100000 in
theorem ok_X11_wordLong : OkV yX11_wordLong cX11_wordLong 2 (some .int) 0 := ⟨tb_7 (List.mem_of_getElem? (i := 113) rfl) rfl, tb_p (List.mem_of_getElem? (i := 42) rfl) rfl, tb_1 (List.mem_of_getElem? (i := 12) rfl) rfl, tb_7 (List.mem_of_getElem? (i := 114) rfl) rfl, ⟨by decide +kernel, by decide +kernel, by decide +kernel⟩⟩
set_option maxRecDepth 100000 in
theorem ok_X11_isWord : OkV yX11_isWord cX11_isWord 3 (some .boolean) 1 := ⟨tb_7 (List.mem_of_getElem? (i := 109) rfl) rfl, tb_p (List.mem_of_getElem? (i := 41) rfl) rfl, tb_1 (List.mem_of_getElem? (i := 12) rfl) rfl, tb_7 (List.mem_of_getElem? (i := 110) rfl) rfl, ⟨by decide +kernel, by decide +kernel, by decide +kernel⟩⟩
set_option maxRecDepth 100000 in
theorem ok_X11_takes : OkV yX11_takes cX11_takes 2 (some .boolean) 1 := ⟨tb_7 (List.mem_of_getElem? (i := 179) rfl) rfl, tb_p (List.mem_of_getElem? (i := 54) rfl) rfl, tb_1 (List.mem_of_getElem? (i := 12) rfl) rfl, tb_7 (List.mem_of_getElem? (i := 180) rfl) rfl, ⟨by decide +kernel, by decide +kernel, by decide +kernel⟩⟩
set_option maxRecDepth 100000 in
theorem ok_X11_sign : OkV yX11_sign cX11_sign 2 none 1 := ⟨tb_7 (List.mem_of_getElem? (i := 238) rfl) rfl, tb_p (List.mem_of_getElem? (i := 66) rfl) rfl, tb_1 (List.mem_of_getElem? (i := 12) rfl) rfl, tb_7 (List.mem_of_getElem? (i := 239) rfl) rfl, ⟨by decide +kernel, by decide +kernel, by decide +kernel⟩⟩
set_option maxRecDepth 100000 in
theorem ok_X11_number : OkV yX11_number cX11_number 7 (some .int) 3 := ⟨tb_7 (List.mem_of_getElem? (i := 167) rfl) rfl, tb_p (List.mem_of_getElem? (i := 51) rfl) rfl, tb_1 (List.mem_of_getElem? (i := 12) rfl) rfl, tb_7 (List.mem_of_getElem? (i := 168) rfl) rfl, ⟨by decide +kernel, by decide +kernel, by decide +kernel⟩⟩
set_option maxRecDepth 100000 in
theorem ok_X11_numberIn : OkV yX11_numberIn cX11_numberIn 3 (some .int) 2 := ⟨tb_7 (List.mem_of_getElem? (i := 163) rfl) rfl, tb_p (List.mem_of_getElem? (i := 50) rfl) rfl, tb_1 (List.mem_of_getElem? (i := 12) rfl) rfl, tb_7 (List.mem_of_getElem? (i := 164) rfl) rfl, ⟨by decide +kernel, by decide +kernel, by decide +kernel⟩⟩
set_option maxRecDepth 100000 in
theorem ok_X11_isKeyword : OkV yX11_isKeyword cX11_isKeyword 1 (some .boolean) 0 := ⟨tb_7 (List.mem_of_getElem? (i := 142) rfl) rfl, tb_p (List.mem_of_getElem? (i := 48) rfl) rfl, tb_1 (List.mem_of_getElem? (i := 12) rfl) rfl, tb_7 (List.mem_of_getElem? (i := 143) rfl) rfl, ⟨by decide +kernel, by decide +kernel, by decide +kernel⟩⟩
set_option maxRecDepth 100000 in
theorem ok_X11_market : OkV yX11_market cX11_market 1 (some .int) 0 := ⟨tb_7 (List.mem_of_getElem? (i := 153) rfl) rfl, tb_p (List.mem_of_getElem? (i := 49) rfl) rfl, tb_1 (List.mem_of_getElem? (i := 12) rfl) rfl, tb_7 (List.mem_of_getElem? (i := 154) rfl) rfl, ⟨by decide +kernel, by decide +kernel, by decide +kernel⟩⟩
set_option maxRecDepth 100000 in
theorem ok_X11_nameHere : OkV yX11_nameHere cX11_nameHere 4 (some .int) 0 := ⟨tb_7 (List.mem_of_getElem? (i := 138) rfl) rfl, tb_p (List.mem_of_getElem? (i := 47) rfl) rfl, tb_1 (List.mem_of_getElem? (i := 12) rfl) rfl, tb_7 (List.mem_of_getElem? (i := 139) rfl) rfl, ⟨by decide +kernel, by decide +kernel, by decide +kernel⟩⟩
set_option maxRecDepth 100000 in
theorem ok_X11_find : OkS yX11_find cX11_find 4 (some .int) 3 := ⟨tb_7 (List.mem_of_getElem? (i := 159) rfl) rfl, tb_1 (List.mem_of_getElem? (i := 12) rfl) rfl, tb_7 (List.mem_of_getElem? (i := 160) rfl) rfl, ⟨by decide +kernel, by decide +kernel, by decide +kernel⟩⟩
set_option maxRecDepth 100000 in
theorem ok_X11_told : OkV yX11_told cX11_told 4 (some .int) 1 := ⟨tb_7 (List.mem_of_getElem? (i := 183) rfl) rfl, tb_p (List.mem_of_getElem? (i := 55) rfl) rfl, tb_1 (List.mem_of_getElem? (i := 12) rfl) rfl, tb_7 (List.mem_of_getElem? (i := 184) rfl) rfl, ⟨by decide +kernel, by decide +kernel, by decide +kernel⟩⟩
set_option maxRecDepth 100000 in
theorem ok_X11_fresh : OkV yX11_fresh cX11_fresh 4 (some .int) 1 := ⟨tb_7 (List.mem_of_getElem? (i := 134) rfl) rfl, tb_p (List.mem_of_getElem? (i := 46) rfl) rfl, tb_1 (List.mem_of_getElem? (i := 12) rfl) rfl, tb_7 (List.mem_of_getElem? (i := 135) rfl) rfl, ⟨by decide +kernel, by decide +kernel, by decide +kernel⟩⟩
set_option maxRecDepth 100000 in
theorem ok_X11_modelLine : OkV yX11_modelLine cX11_modelLine 5 none 0 := ⟨tb_7 (List.mem_of_getElem? (i := 130) rfl) rfl, tb_p (List.mem_of_getElem? (i := 45) rfl) rfl, tb_1 (List.mem_of_getElem? (i := 12) rfl) rfl, tb_7 (List.mem_of_getElem? (i := 131) rfl) rfl, ⟨by decide +kernel, by decide +kernel, by decide +kernel⟩⟩
set_option maxRecDepth 100000 in
theorem ok_X11_firmLine : OkV yX11_firmLine cX11_firmLine 2 none 0 := ⟨tb_7 (List.mem_of_getElem? (i := 175) rfl) rfl, tb_p (List.mem_of_getElem? (i := 53) rfl) rfl, tb_1 (List.mem_of_getElem? (i := 12) rfl) rfl, tb_7 (List.mem_of_getElem? (i := 176) rfl) rfl, ⟨by decide +kernel, by decide +kernel, by decide +kernel⟩⟩
set_option maxRecDepth 100000 in
theorem ok_X11_costLine : OkV yX11_costLine cX11_costLine 4 none 0 := ⟨tb_7 (List.mem_of_getElem? (i := 187) rfl) rfl, tb_p (List.mem_of_getElem? (i := 56) rfl) rfl, tb_1 (List.mem_of_getElem? (i := 12) rfl) rfl, tb_7 (List.mem_of_getElem? (i := 188) rfl) rfl, ⟨by decide +kernel, by decide +kernel, by decide +kernel⟩⟩
set_option maxRecDepth 100000 in
theorem ok_X11_marketHere : OkV yX11_marketHere cX11_marketHere 2 (some .int) 0 := ⟨tb_7 (List.mem_of_getElem? (i := 195) rfl) rfl, tb_p (List.mem_of_getElem? (i := 58) rfl) rfl, tb_1 (List.mem_of_getElem? (i := 12) rfl) rfl, tb_7 (List.mem_of_getElem? (i := 196) rfl) rfl, ⟨by decide +kernel, by decide +kernel, by decide +kernel⟩⟩
set_option maxRecDepth 100000 in
theorem ok_X11_sellLine : OkV yX11_sellLine cX11_sellLine 9 none 0 := ⟨tb_7 (List.mem_of_getElem? (i := 234) rfl) rfl, tb_p (List.mem_of_getElem? (i := 65) rfl) rfl, tb_1 (List.mem_of_getElem? (i := 12) rfl) rfl, tb_7 (List.mem_of_getElem? (i := 235) rfl) rfl, ⟨by decide +kernel, by decide +kernel, by decide +kernel⟩⟩
set_option maxRecDepth 100000 in
theorem ok_X11_emits : OkV yX11_emits cX11_emits 3 none 2 := ⟨tb_7 (List.mem_of_getElem? (i := 220) rfl) rfl, tb_p (List.mem_of_getElem? (i := 63) rfl) rfl, tb_1 (List.mem_of_getElem? (i := 12) rfl) rfl, tb_7 (List.mem_of_getElem? (i := 221) rfl) rfl, ⟨by decide +kernel, by decide +kernel, by decide +kernel⟩⟩
set_option maxRecDepth 100000 in
theorem ok_X11_factHere : OkV yX11_factHere cX11_factHere 1 (some .int) 0 := ⟨tb_7 (List.mem_of_getElem? (i := 211) rfl) rfl, tb_p (List.mem_of_getElem? (i := 62) rfl) rfl, tb_1 (List.mem_of_getElem? (i := 12) rfl) rfl, tb_7 (List.mem_of_getElem? (i := 212) rfl) rfl, ⟨by decide +kernel, by decide +kernel, by decide +kernel⟩⟩
set_option maxRecDepth 100000 in
theorem ok_X11_binds : OkS yX11_binds cX11_binds 1 (some .int) 1 := ⟨tb_7 (List.mem_of_getElem? (i := 226) rfl) rfl, tb_1 (List.mem_of_getElem? (i := 12) rfl) rfl, tb_7 (List.mem_of_getElem? (i := 227) rfl) rfl, ⟨by decide +kernel, by decide +kernel, by decide +kernel⟩⟩
set_option maxRecDepth 100000 in
theorem ok_X11_settles : OkV yX11_settles cX11_settles 2 none 1 := ⟨tb_7 (List.mem_of_getElem? (i := 230) rfl) rfl, tb_p (List.mem_of_getElem? (i := 64) rfl) rfl, tb_1 (List.mem_of_getElem? (i := 12) rfl) rfl, tb_7 (List.mem_of_getElem? (i := 231) rfl) rfl, ⟨by decide +kernel, by decide +kernel, by decide +kernel⟩⟩
set_option maxRecDepth 100000 in
theorem ok_X11_pushes : OkV yX11_pushes cX11_pushes 2 none 1 := ⟨tb_7 (List.mem_of_getElem? (i := 207) rfl) rfl, tb_p (List.mem_of_getElem? (i := 61) rfl) rfl, tb_1 (List.mem_of_getElem? (i := 12) rfl) rfl, tb_7 (List.mem_of_getElem? (i := 208) rfl) rfl, ⟨by decide +kernel, by decide +kernel, by decide +kernel⟩⟩
set_option maxRecDepth 100000 in
theorem ok_X11_opensOrAtom : OkV yX11_opensOrAtom cX11_opensOrAtom 3 (some .boolean) 0 := ⟨tb_7 (List.mem_of_getElem? (i := 203) rfl) rfl, tb_p (List.mem_of_getElem? (i := 60) rfl) rfl, tb_1 (List.mem_of_getElem? (i := 12) rfl) rfl, tb_7 (List.mem_of_getElem? (i := 204) rfl) rfl, ⟨by decide +kernel, by decide +kernel, by decide +kernel⟩⟩
set_option maxRecDepth 100000 in
theorem ok_X11_signOf : OkS yX11_signOf cX11_signOf 1 (some .int) 1 := ⟨tb_7 (List.mem_of_getElem? (i := 223) rfl) rfl, tb_1 (List.mem_of_getElem? (i := 12) rfl) rfl, tb_7 (List.mem_of_getElem? (i := 224) rfl) rfl, ⟨by decide +kernel, by decide +kernel, by decide +kernel⟩⟩
set_option maxRecDepth 100000 in
theorem ok_X11_sumHere : OkV yX11_sumHere cX11_sumHere 4 none 0 := ⟨tb_7 (List.mem_of_getElem? (i := 199) rfl) rfl, tb_p (List.mem_of_getElem? (i := 59) rfl) rfl, tb_1 (List.mem_of_getElem? (i := 12) rfl) rfl, tb_7 (List.mem_of_getElem? (i := 200) rfl) rfl, ⟨by decide +kernel, by decide +kernel, by decide +kernel⟩⟩
set_option maxRecDepth 100000 in
theorem ok_X11_adjustLine : OkV yX11_adjustLine cX11_adjustLine 1 none 0 := ⟨tb_7 (List.mem_of_getElem? (i := 191) rfl) rfl, tb_p (List.mem_of_getElem? (i := 57) rfl) rfl, tb_1 (List.mem_of_getElem? (i := 12) rfl) rfl, tb_7 (List.mem_of_getElem? (i := 192) rfl) rfl, ⟨by decide +kernel, by decide +kernel, by decide +kernel⟩⟩
set_option maxRecDepth 100000 in
theorem ok_X11_line : OkV yX11_line cX11_line 2 none 0 := ⟨tb_7 (List.mem_of_getElem? (i := 104) rfl) rfl, tb_p (List.mem_of_getElem? (i := 40) rfl) rfl, tb_1 (List.mem_of_getElem? (i := 12) rfl) rfl, tb_7 (List.mem_of_getElem? (i := 105) rfl) rfl, ⟨by decide +kernel, by decide +kernel, by decide +kernel⟩⟩
set_option maxRecDepth 100000 in
theorem ok_X11_read : OkV yX11_read cX11_read 2 (some .int) 0 := ⟨tb_7 (List.mem_of_getElem? (i := 91) rfl) rfl, tb_7 (List.mem_of_getElem? (i := 92) rfl) rfl, tb_1 (List.mem_of_getElem? (i := 12) rfl) rfl, tb_7 (List.mem_of_getElem? (i := 93) rfl) rfl, ⟨by decide +kernel, by decide +kernel, by decide +kernel⟩⟩
set_option maxRecDepth 100000 in
theorem ok_X11_takesAll : OkV yX11_takesAll cX11_takesAll 2 none 0 := ⟨tb_8 (List.mem_of_getElem? (i := 6) rfl) rfl, tb_p (List.mem_of_getElem? (i := 68) rfl) rfl, tb_1 (List.mem_of_getElem? (i := 12) rfl) rfl, tb_8 (List.mem_of_getElem? (i := 7) rfl) rfl, ⟨by decide +kernel, by decide +kernel, by decide +kernel⟩⟩
set_option maxRecDepth 100000 in
theorem ok_X11_fault : OkV yX11_fault cX11_fault 1 (some .int) 0 := ⟨tb_8 (List.mem_of_getElem? (i := 9) rfl) rfl, tb_8 (List.mem_of_getElem? (i := 10) rfl) rfl, tb_1 (List.mem_of_getElem? (i := 12) rfl) rfl, tb_8 (List.mem_of_getElem? (i := 11) rfl) rfl, ⟨by decide +kernel, by decide +kernel, by decide +kernel⟩⟩
set_option maxRecDepth 100000 in
theorem ok_X11_isModel : OkV yX11_isModel cX11_isModel 2 (some .boolean) 1 := ⟨tb_8 (List.mem_of_getElem? (i := 25) rfl) rfl, tb_p (List.mem_of_getElem? (i := 70) rfl) rfl, tb_1 (List.mem_of_getElem? (i := 12) rfl) rfl, tb_8 (List.mem_of_getElem? (i := 26) rfl) rfl, ⟨by decide +kernel, by decide +kernel, by decide +kernel⟩⟩
set_option maxRecDepth 100000 in
theorem ok_X11_isFirm : OkV yX11_isFirm cX11_isFirm 2 (some .boolean) 1 := ⟨tb_8 (List.mem_of_getElem? (i := 18) rfl) rfl, tb_p (List.mem_of_getElem? (i := 69) rfl) rfl, tb_1 (List.mem_of_getElem? (i := 12) rfl) rfl, tb_8 (List.mem_of_getElem? (i := 19) rfl) rfl, ⟨by decide +kernel, by decide +kernel, by decide +kernel⟩⟩
set_option maxRecDepth 100000 in
theorem ok_X11_isSale : OkV yX11_isSale cX11_isSale 2 (some .boolean) 1 := ⟨tb_8 (List.mem_of_getElem? (i := 52) rfl) rfl, tb_p (List.mem_of_getElem? (i := 72) rfl) rfl, tb_1 (List.mem_of_getElem? (i := 12) rfl) rfl, tb_8 (List.mem_of_getElem? (i := 53) rfl) rfl, ⟨by decide +kernel, by decide +kernel, by decide +kernel⟩⟩
set_option maxRecDepth 100000 in
theorem ok_X11_of : OkV yX11_of cX11_of 3 (some .int) 2 := ⟨tb_8 (List.mem_of_getElem? (i := 56) rfl) rfl, tb_p (List.mem_of_getElem? (i := 73) rfl) rfl, tb_1 (List.mem_of_getElem? (i := 12) rfl) rfl, tb_8 (List.mem_of_getElem? (i := 57) rfl) rfl, ⟨by decide +kernel, by decide +kernel, by decide +kernel⟩⟩
set_option maxRecDepth 100000 in
theorem ok_X11_lettersOf : OkS yX11_lettersOf cX11_lettersOf 3 (some .int) 1 := ⟨tb_8 (List.mem_of_getElem? (i := 31) rfl) rfl, tb_1 (List.mem_of_getElem? (i := 12) rfl) rfl, tb_8 (List.mem_of_getElem? (i := 32) rfl) rfl, ⟨by decide +kernel, by decide +kernel, by decide +kernel⟩⟩
set_option maxRecDepth 100000 in
theorem ok_X11_letter : OkS yX11_letter cX11_letter 3 (some .int) 2 := ⟨tb_8 (List.mem_of_getElem? (i := 28) rfl) rfl, tb_1 (List.mem_of_getElem? (i := 12) rfl) rfl, tb_8 (List.mem_of_getElem? (i := 29) rfl) rfl, ⟨by decide +kernel, by decide +kernel, by decide +kernel⟩⟩
set_option maxRecDepth 100000 in
theorem ok_X11_name : OkV yX11_name cX11_name 4 (some .int) 3 := ⟨tb_8 (List.mem_of_getElem? (i := 13) rfl) rfl, tb_8 (List.mem_of_getElem? (i := 14) rfl) rfl, tb_1 (List.mem_of_getElem? (i := 12) rfl) rfl, tb_8 (List.mem_of_getElem? (i := 15) rfl) rfl, ⟨by decide +kernel, by decide +kernel, by decide +kernel⟩⟩
set_option maxRecDepth 100000 in
theorem ok_X11_model : OkV yX11_model cX11_model 3 (some .int) 2 := ⟨tb_8 (List.mem_of_getElem? (i := 34) rfl) rfl, tb_8 (List.mem_of_getElem? (i := 35) rfl) rfl, tb_1 (List.mem_of_getElem? (i := 12) rfl) rfl, tb_8 (List.mem_of_getElem? (i := 36) rfl) rfl, ⟨by decide +kernel, by decide +kernel, by decide +kernel⟩⟩
set_option maxRecDepth 100000 in
theorem ok_X11_costOf : OkV yX11_costOf cX11_costOf 4 (some .int) 2 := ⟨tb_8 (List.mem_of_getElem? (i := 44) rfl) rfl, tb_p (List.mem_of_getElem? (i := 71) rfl) rfl, tb_1 (List.mem_of_getElem? (i := 12) rfl) rfl, tb_8 (List.mem_of_getElem? (i := 45) rfl) rfl, ⟨by decide +kernel, by decide +kernel, by decide +kernel⟩⟩
set_option maxRecDepth 100000 in
theorem ok_X11_cost : OkV yX11_cost cX11_cost 3 (some .int) 2 := ⟨tb_8 (List.mem_of_getElem? (i := 39) rfl) rfl, tb_8 (List.mem_of_getElem? (i := 40) rfl) rfl, tb_1 (List.mem_of_getElem? (i := 12) rfl) rfl, tb_8 (List.mem_of_getElem? (i := 41) rfl) rfl, ⟨by decide +kernel, by decide +kernel, by decide +kernel⟩⟩
set_option maxRecDepth 100000 in
theorem ok_X11_kept : OkS yX11_kept cX11_kept 2 (some .long) 1 := ⟨tb_8 (List.mem_of_getElem? (i := 83) rfl) rfl, tb_1 (List.mem_of_getElem? (i := 12) rfl) rfl, tb_8 (List.mem_of_getElem? (i := 84) rfl) rfl, ⟨by decide +kernel, by decide +kernel, by decide +kernel⟩⟩
set_option maxRecDepth 100000 in
theorem ok_X11_down : OkS yX11_down cX11_down 6 (some .long) 2 := ⟨tb_8 (List.mem_of_getElem? (i := 80) rfl) rfl, tb_1 (List.mem_of_getElem? (i := 12) rfl) rfl, tb_8 (List.mem_of_getElem? (i := 81) rfl) rfl, ⟨by decide +kernel, by decide +kernel, by decide +kernel⟩⟩
set_option maxRecDepth 100000 in
theorem ok_X11_fact : OkV yX11_fact cX11_fact 3 (some .long) 2 := ⟨tb_8 (List.mem_of_getElem? (i := 77) rfl) rfl, tb_p (List.mem_of_getElem? (i := 78) rfl) rfl, tb_1 (List.mem_of_getElem? (i := 12) rfl) rfl, tb_8 (List.mem_of_getElem? (i := 78) rfl) rfl, ⟨by decide +kernel, by decide +kernel, by decide +kernel⟩⟩
set_option maxRecDepth 100000 in
theorem ok_X11_offOf : OkV yX11_offOf cX11_offOf 11 (some .int) 1 := ⟨tb_8 (List.mem_of_getElem? (i := 73) rfl) rfl, tb_p (List.mem_of_getElem? (i := 77) rfl) rfl, tb_1 (List.mem_of_getElem? (i := 12) rfl) rfl, tb_8 (List.mem_of_getElem? (i := 74) rfl) rfl, ⟨by decide +kernel, by decide +kernel, by decide +kernel⟩⟩
set_option maxRecDepth 100000 in
theorem ok_X11_manyIn : OkV yX11_manyIn cX11_manyIn 5 (some .int) 2 := ⟨tb_8 (List.mem_of_getElem? (i := 69) rfl) rfl, tb_p (List.mem_of_getElem? (i := 76) rfl) rfl, tb_1 (List.mem_of_getElem? (i := 12) rfl) rfl, tb_8 (List.mem_of_getElem? (i := 70) rfl) rfl, ⟨by decide +kernel, by decide +kernel, by decide +kernel⟩⟩
set_option maxRecDepth 100000 in
theorem ok_X11_baseFor : OkV yX11_baseFor cX11_baseFor 5 (some .int) 1 := ⟨tb_8 (List.mem_of_getElem? (i := 65) rfl) rfl, tb_p (List.mem_of_getElem? (i := 75) rfl) rfl, tb_1 (List.mem_of_getElem? (i := 12) rfl) rfl, tb_8 (List.mem_of_getElem? (i := 66) rfl) rfl, ⟨by decide +kernel, by decide +kernel, by decide +kernel⟩⟩
set_option maxRecDepth 100000 in
theorem ok_X11_isInBase : OkV yX11_isInBase cX11_isInBase 2 (some .boolean) 1 := ⟨tb_8 (List.mem_of_getElem? (i := 90) rfl) rfl, tb_p (List.mem_of_getElem? (i := 79) rfl) rfl, tb_1 (List.mem_of_getElem? (i := 12) rfl) rfl, tb_8 (List.mem_of_getElem? (i := 91) rfl) rfl, ⟨by decide +kernel, by decide +kernel, by decide +kernel⟩⟩
set_option maxRecDepth 100000 in
theorem ok_X11_manyBase : OkV yX11_manyBase cX11_manyBase 7 (some .int) 3 := ⟨tb_8 (List.mem_of_getElem? (i := 98) rfl) rfl, tb_p (List.mem_of_getElem? (i := 81) rfl) rfl, tb_1 (List.mem_of_getElem? (i := 12) rfl) rfl, tb_8 (List.mem_of_getElem? (i := 99) rfl) rfl, ⟨by decide +kernel, by decide +kernel, by decide +kernel⟩⟩
set_option maxRecDepth 100000 in
theorem ok_X11_areOut : OkV yX11_areOut cX11_areOut 4 (some .boolean) 2 := ⟨tb_8 (List.mem_of_getElem? (i := 94) rfl) rfl, tb_p (List.mem_of_getElem? (i := 80) rfl) rfl, tb_1 (List.mem_of_getElem? (i := 12) rfl) rfl, tb_8 (List.mem_of_getElem? (i := 95) rfl) rfl, ⟨by decide +kernel, by decide +kernel, by decide +kernel⟩⟩
set_option maxRecDepth 100000 in
theorem ok_X11_lays : OkV yX11_lays cX11_lays 3 none 0 := ⟨tb_8 (List.mem_of_getElem? (i := 61) rfl) rfl, tb_p (List.mem_of_getElem? (i := 74) rfl) rfl, tb_1 (List.mem_of_getElem? (i := 12) rfl) rfl, tb_8 (List.mem_of_getElem? (i := 62) rfl) rfl, ⟨by decide +kernel, by decide +kernel, by decide +kernel⟩⟩
set_option maxRecDepth 100000 in
theorem ok_X11_sale : OkV yX11_sale cX11_sale 3 (some .int) 2 := ⟨tb_8 (List.mem_of_getElem? (i := 47) rfl) rfl, tb_8 (List.mem_of_getElem? (i := 48) rfl) rfl, tb_1 (List.mem_of_getElem? (i := 12) rfl) rfl, tb_8 (List.mem_of_getElem? (i := 49) rfl) rfl, ⟨by decide +kernel, by decide +kernel, by decide +kernel⟩⟩
set_option maxRecDepth 100000 in
theorem ok_X11_remembers : OkV yX11_remembers cX11_remembers 2 none 0 := ⟨tb_8 (List.mem_of_getElem? (i := 110) rfl) rfl, tb_p (List.mem_of_getElem? (i := 82) rfl) rfl, tb_1 (List.mem_of_getElem? (i := 12) rfl) rfl, tb_8 (List.mem_of_getElem? (i := 111) rfl) rfl, ⟨by decide +kernel, by decide +kernel, by decide +kernel⟩⟩
set_option maxRecDepth 100000 in
theorem ok_X11_put : OkV yX11_put cX11_put 9 (some .int) 7 := ⟨tb_8 (List.mem_of_getElem? (i := 101) rfl) rfl, tb_8 (List.mem_of_getElem? (i := 102) rfl) rfl, tb_1 (List.mem_of_getElem? (i := 12) rfl) rfl, tb_8 (List.mem_of_getElem? (i := 103) rfl) rfl, ⟨by decide +kernel, by decide +kernel, by decide +kernel⟩⟩
set_option maxRecDepth 100000 in
theorem ok_X11_drop : OkV yX11_drop cX11_drop 2 none 1 := ⟨tb_8 (List.mem_of_getElem? (i := 113) rfl) rfl, tb_8 (List.mem_of_getElem? (i := 114) rfl) rfl, tb_1 (List.mem_of_getElem? (i := 12) rfl) rfl, tb_8 (List.mem_of_getElem? (i := 115) rfl) rfl, ⟨by decide +kernel, by decide +kernel, by decide +kernel⟩⟩
set_option maxRecDepth 100000 in
theorem ok_X11_price : OkV yX11_price cX11_price 4 (some .int) 2 := ⟨tb_8 (List.mem_of_getElem? (i := 117) rfl) rfl, tb_8 (List.mem_of_getElem? (i := 118) rfl) rfl, tb_1 (List.mem_of_getElem? (i := 12) rfl) rfl, tb_8 (List.mem_of_getElem? (i := 119) rfl) rfl, ⟨by decide +kernel, by decide +kernel, by decide +kernel⟩⟩
set_option maxRecDepth 100000 in
theorem ok_X11_costs : OkV yX11_costs cX11_costs 5 (some .int) 3 := ⟨tb_8 (List.mem_of_getElem? (i := 121) rfl) rfl, tb_8 (List.mem_of_getElem? (i := 122) rfl) rfl, tb_1 (List.mem_of_getElem? (i := 12) rfl) rfl, tb_8 (List.mem_of_getElem? (i := 123) rfl) rfl, ⟨by decide +kernel, by decide +kernel, by decide +kernel⟩⟩
set_option maxRecDepth 100000 in
theorem ok_X11_set : OkV yX11_set cX11_set 4 (some .int) 2 := ⟨tb_8 (List.mem_of_getElem? (i := 125) rfl) rfl, tb_8 (List.mem_of_getElem? (i := 126) rfl) rfl, tb_1 (List.mem_of_getElem? (i := 12) rfl) rfl, tb_8 (List.mem_of_getElem? (i := 127) rfl) rfl, ⟨by decide +kernel, by decide +kernel, by decide +kernel⟩⟩
set_option maxRecDepth 100000 in
theorem ok_X11_silent : OkV yX11_silent cX11_silent 4 (some .boolean) 2 := ⟨tb_8 (List.mem_of_getElem? (i := 131) rfl) rfl, tb_8 (List.mem_of_getElem? (i := 132) rfl) rfl, tb_1 (List.mem_of_getElem? (i := 12) rfl) rfl, tb_8 (List.mem_of_getElem? (i := 133) rfl) rfl, ⟨by decide +kernel, by decide +kernel, by decide +kernel⟩⟩
set_option maxRecDepth 100000 in
theorem ok_X11_undo : OkV yX11_undo cX11_undo 2 (some .int) 0 := ⟨tb_8 (List.mem_of_getElem? (i := 135) rfl) rfl, tb_8 (List.mem_of_getElem? (i := 136) rfl) rfl, tb_1 (List.mem_of_getElem? (i := 12) rfl) rfl, tb_8 (List.mem_of_getElem? (i := 137) rfl) rfl, ⟨by decide +kernel, by decide +kernel, by decide +kernel⟩⟩
set_option maxRecDepth 100000 in
theorem ok_X11_base : OkV yX11_base cX11_base 2 (some .int) 1 := ⟨tb_8 (List.mem_of_getElem? (i := 139) rfl) rfl, tb_8 (List.mem_of_getElem? (i := 140) rfl) rfl, tb_1 (List.mem_of_getElem? (i := 12) rfl) rfl, tb_8 (List.mem_of_getElem? (i := 141) rfl) rfl, ⟨by decide +kernel, by decide +kernel, by decide +kernel⟩⟩
set_option maxRecDepth 100000 in
theorem ok_X11_below : OkV yX11_below cX11_below 4 (some .int) 3 := ⟨tb_8 (List.mem_of_getElem? (i := 143) rfl) rfl, tb_8 (List.mem_of_getElem? (i := 144) rfl) rfl, tb_1 (List.mem_of_getElem? (i := 12) rfl) rfl, tb_8 (List.mem_of_getElem? (i := 145) rfl) rfl, ⟨by decide +kernel, by decide +kernel, by decide +kernel⟩⟩
set_option maxRecDepth 100000 in
theorem ok_X11_isOf : OkV yX11_isOf cX11_isOf 4 (some .boolean) 3 := ⟨tb_8 (List.mem_of_getElem? (i := 165) rfl) rfl, tb_p (List.mem_of_getElem? (i := 86) rfl) rfl, tb_1 (List.mem_of_getElem? (i := 12) rfl) rfl, tb_8 (List.mem_of_getElem? (i := 166) rfl) rfl, ⟨by decide +kernel, by decide +kernel, by decide +kernel⟩⟩
set_option maxRecDepth 100000 in
theorem ok_X11_nearestLevel : OkV yX11_nearestLevel cX11_nearestLevel 8 (some .int) 3 := ⟨tb_8 (List.mem_of_getElem? (i := 161) rfl) rfl, tb_p (List.mem_of_getElem? (i := 85) rfl) rfl, tb_1 (List.mem_of_getElem? (i := 12) rfl) rfl, tb_8 (List.mem_of_getElem? (i := 162) rfl) rfl, ⟨by decide +kernel, by decide +kernel, by decide +kernel⟩⟩
set_option maxRecDepth 100000 in
theorem ok_X11_apart : OkS yX11_apart cX11_apart 2 (some .int) 2 := ⟨tb_8 (List.mem_of_getElem? (i := 168) rfl) rfl, tb_1 (List.mem_of_getElem? (i := 12) rfl) rfl, tb_8 (List.mem_of_getElem? (i := 169) rfl) rfl, ⟨by decide +kernel, by decide +kernel, by decide +kernel⟩⟩
set_option maxRecDepth 100000 in
theorem ok_X11_likeModel : OkV yX11_likeModel cX11_likeModel 8 (some .int) 3 := ⟨tb_8 (List.mem_of_getElem? (i := 172) rfl) rfl, tb_p (List.mem_of_getElem? (i := 87) rfl) rfl, tb_1 (List.mem_of_getElem? (i := 12) rfl) rfl, tb_8 (List.mem_of_getElem? (i := 173) rfl) rfl, ⟨by decide +kernel, by decide +kernel, by decide +kernel⟩⟩
set_option maxRecDepth 100000 in
theorem ok_X11_finds : OkV yX11_finds cX11_finds 4 none 3 := ⟨tb_8 (List.mem_of_getElem? (i := 157) rfl) rfl, tb_p (List.mem_of_getElem? (i := 84) rfl) rfl, tb_1 (List.mem_of_getElem? (i := 12) rfl) rfl, tb_8 (List.mem_of_getElem? (i := 158) rfl) rfl, ⟨by decide +kernel, by decide +kernel, by decide +kernel⟩⟩
set_option maxRecDepth 100000 in
theorem ok_X11_averageIn : OkV yX11_averageIn cX11_averageIn 10 (some .long) 4 := ⟨tb_8 (List.mem_of_getElem? (i := 177) rfl) rfl, tb_p (List.mem_of_getElem? (i := 88) rfl) rfl, tb_1 (List.mem_of_getElem? (i := 12) rfl) rfl, tb_8 (List.mem_of_getElem? (i := 178) rfl) rfl, ⟨by decide +kernel, by decide +kernel, by decide +kernel⟩⟩
set_option maxRecDepth 100000 in
theorem ok_X11_worthOf : OkV yX11_worthOf cX11_worthOf 8 (some .long) 4 := ⟨tb_8 (List.mem_of_getElem? (i := 153) rfl) rfl, tb_p (List.mem_of_getElem? (i := 83) rfl) rfl, tb_1 (List.mem_of_getElem? (i := 12) rfl) rfl, tb_8 (List.mem_of_getElem? (i := 154) rfl) rfl, ⟨by decide +kernel, by decide +kernel, by decide +kernel⟩⟩
set_option maxRecDepth 100000 in
theorem ok_X11_worth : OkV yX11_worth cX11_worth 5 (some .long) 4 := ⟨tb_8 (List.mem_of_getElem? (i := 147) rfl) rfl, tb_8 (List.mem_of_getElem? (i := 148) rfl) rfl, tb_1 (List.mem_of_getElem? (i := 12) rfl) rfl, tb_8 (List.mem_of_getElem? (i := 149) rfl) rfl, ⟨by decide +kernel, by decide +kernel, by decide +kernel⟩⟩
set_option maxRecDepth 100000 in
theorem ok_X11_found : OkV yX11_found cX11_found 5 (some .int) 4 := ⟨tb_8 (List.mem_of_getElem? (i := 180) rfl) rfl, tb_8 (List.mem_of_getElem? (i := 181) rfl) rfl, tb_1 (List.mem_of_getElem? (i := 12) rfl) rfl, tb_8 (List.mem_of_getElem? (i := 182) rfl) rfl, ⟨by decide +kernel, by decide +kernel, by decide +kernel⟩⟩
set_option maxRecDepth 100000 in
theorem ok_X11_isExport : OkV yX11_isExport cX11_isExport 2 (some .boolean) 1 := ⟨tb_8 (List.mem_of_getElem? (i := 189) rfl) rfl, tb_p (List.mem_of_getElem? (i := 89) rfl) rfl, tb_1 (List.mem_of_getElem? (i := 12) rfl) rfl, tb_8 (List.mem_of_getElem? (i := 190) rfl) rfl, ⟨by decide +kernel, by decide +kernel, by decide +kernel⟩⟩
set_option maxRecDepth 100000 in
theorem ok_X11_matchOf : OkV yX11_matchOf cX11_matchOf 4 (some .int) 1 := ⟨tb_8 (List.mem_of_getElem? (i := 193) rfl) rfl, tb_p (List.mem_of_getElem? (i := 90) rfl) rfl, tb_1 (List.mem_of_getElem? (i := 12) rfl) rfl, tb_8 (List.mem_of_getElem? (i := 194) rfl) rfl, ⟨by decide +kernel, by decide +kernel, by decide +kernel⟩⟩
set_option maxRecDepth 100000 in
theorem ok_X11_isNearer : OkV yX11_isNearer cX11_isNearer 7 (some .boolean) 3 := ⟨tb_8 (List.mem_of_getElem? (i := 197) rfl) rfl, tb_p (List.mem_of_getElem? (i := 91) rfl) rfl, tb_1 (List.mem_of_getElem? (i := 12) rfl) rfl, tb_8 (List.mem_of_getElem? (i := 198) rfl) rfl, ⟨by decide +kernel, by decide +kernel, by decide +kernel⟩⟩
set_option maxRecDepth 100000 in
theorem ok_X11_match : OkV yX11_match cX11_match 2 (some .int) 1 := ⟨tb_8 (List.mem_of_getElem? (i := 184) rfl) rfl, tb_8 (List.mem_of_getElem? (i := 185) rfl) rfl, tb_1 (List.mem_of_getElem? (i := 12) rfl) rfl, tb_8 (List.mem_of_getElem? (i := 186) rfl) rfl, ⟨by decide +kernel, by decide +kernel, by decide +kernel⟩⟩
set_option maxRecDepth 100000 in
theorem ok_X11_monthFor : OkV yX11_monthFor cX11_monthFor 2 (some .int) 1 := ⟨tb_8 (List.mem_of_getElem? (i := 209) rfl) rfl, tb_p (List.mem_of_getElem? (i := 93) rfl) rfl, tb_1 (List.mem_of_getElem? (i := 12) rfl) rfl, tb_8 (List.mem_of_getElem? (i := 210) rfl) rfl, ⟨by decide +kernel, by decide +kernel, by decide +kernel⟩⟩
set_option maxRecDepth 100000 in
theorem ok_X11_differenceOf : OkV yX11_differenceOf cX11_differenceOf 8 (some .long) 2 := ⟨tb_8 (List.mem_of_getElem? (i := 205) rfl) rfl, tb_p (List.mem_of_getElem? (i := 92) rfl) rfl, tb_1 (List.mem_of_getElem? (i := 12) rfl) rfl, tb_8 (List.mem_of_getElem? (i := 206) rfl) rfl, ⟨by decide +kernel, by decide +kernel, by decide +kernel⟩⟩
set_option maxRecDepth 100000 in
theorem ok_X11_difference : OkV yX11_difference cX11_difference 3 (some .long) 2 := ⟨tb_8 (List.mem_of_getElem? (i := 200) rfl) rfl, tb_8 (List.mem_of_getElem? (i := 201) rfl) rfl, tb_1 (List.mem_of_getElem? (i := 12) rfl) rfl, tb_8 (List.mem_of_getElem? (i := 202) rfl) rfl, ⟨by decide +kernel, by decide +kernel, by decide +kernel⟩⟩
set_option maxRecDepth 100000 in
theorem ok_X11_isSameGroup : OkV yX11_isSameGroup cX11_isSameGroup 3 (some .boolean) 2 := ⟨tb_8 (List.mem_of_getElem? (i := 221) rfl) rfl, tb_p (List.mem_of_getElem? (i := 95) rfl) rfl, tb_1 (List.mem_of_getElem? (i := 12) rfl) rfl, tb_8 (List.mem_of_getElem? (i := 222) rfl) rfl, ⟨by decide +kernel, by decide +kernel, by decide +kernel⟩⟩
set_option maxRecDepth 100000 in
theorem ok_X11_laysGroups : OkV yX11_laysGroups cX11_laysGroups 5 none 1 := ⟨tb_8 (List.mem_of_getElem? (i := 217) rfl) rfl, tb_p (List.mem_of_getElem? (i := 94) rfl) rfl, tb_1 (List.mem_of_getElem? (i := 12) rfl) rfl, tb_8 (List.mem_of_getElem? (i := 218) rfl) rfl, ⟨by decide +kernel, by decide +kernel, by decide +kernel⟩⟩
set_option maxRecDepth 100000 in
theorem ok_X11_laysGroup : OkV yX11_laysGroup cX11_laysGroup 8 none 2 := ⟨tb_8 (List.mem_of_getElem? (i := 225) rfl) rfl, tb_p (List.mem_of_getElem? (i := 96) rfl) rfl, tb_1 (List.mem_of_getElem? (i := 12) rfl) rfl, tb_8 (List.mem_of_getElem? (i := 226) rfl) rfl, ⟨by decide +kernel, by decide +kernel, by decide +kernel⟩⟩
set_option maxRecDepth 100000 in
theorem ok_X11_laysParts : OkV yX11_laysParts cX11_laysParts 4 none 2 := ⟨tb_9 (List.mem_of_getElem? (i := 1) rfl) rfl, tb_p (List.mem_of_getElem? (i := 97) rfl) rfl, tb_1 (List.mem_of_getElem? (i := 12) rfl) rfl, tb_9 (List.mem_of_getElem? (i := 2) rfl) rfl, ⟨by decide +kernel, by decide +kernel, by decide +kernel⟩⟩
set_option maxRecDepth 100000 in
theorem ok_X11_groups : OkV yX11_groups cX11_groups 2 (some .int) 1 := ⟨tb_8 (List.mem_of_getElem? (i := 212) rfl) rfl, tb_8 (List.mem_of_getElem? (i := 213) rfl) rfl, tb_1 (List.mem_of_getElem? (i := 12) rfl) rfl, tb_8 (List.mem_of_getElem? (i := 214) rfl) rfl, ⟨by decide +kernel, by decide +kernel, by decide +kernel⟩⟩
set_option maxRecDepth 100000 in
theorem ok_X11_group : OkV yX11_group cX11_group 4 (some .long) 3 := ⟨tb_8 (List.mem_of_getElem? (i := 228) rfl) rfl, tb_8 (List.mem_of_getElem? (i := 229) rfl) rfl, tb_1 (List.mem_of_getElem? (i := 12) rfl) rfl, tb_8 (List.mem_of_getElem? (i := 230) rfl) rfl, ⟨by decide +kernel, by decide +kernel, by decide +kernel⟩⟩
set_option maxRecDepth 100000 in
theorem ok_X11_sumBy : OkV yX11_sumBy cX11_sumBy 9 (some .long) 2 := ⟨tb_9 (List.mem_of_getElem? (i := 5) rfl) rfl, tb_p (List.mem_of_getElem? (i := 98) rfl) rfl, tb_1 (List.mem_of_getElem? (i := 12) rfl) rfl, tb_9 (List.mem_of_getElem? (i := 6) rfl) rfl, ⟨by decide +kernel, by decide +kernel, by decide +kernel⟩⟩
set_option maxRecDepth 100000 in
theorem ok_X11_isMethod : OkS yX11_isMethod cX11_isMethod 1 (some .boolean) 1 := ⟨tb_8 (List.mem_of_getElem? (i := 237) rfl) rfl, tb_1 (List.mem_of_getElem? (i := 12) rfl) rfl, tb_8 (List.mem_of_getElem? (i := 238) rfl) rfl, ⟨by decide +kernel, by decide +kernel, by decide +kernel⟩⟩
set_option maxRecDepth 100000 in
theorem ok_X11_sum : OkV yX11_sum cX11_sum 4 (some .long) 3 := ⟨tb_8 (List.mem_of_getElem? (i := 233) rfl) rfl, tb_8 (List.mem_of_getElem? (i := 234) rfl) rfl, tb_1 (List.mem_of_getElem? (i := 12) rfl) rfl, tb_8 (List.mem_of_getElem? (i := 235) rfl) rfl, ⟨by decide +kernel, by decide +kernel, by decide +kernel⟩⟩
set_option maxRecDepth 100000 in
theorem ok_X11_valueBy : OkV yX11_valueBy cX11_valueBy 7 (some .long) 2 := ⟨tb_9 (List.mem_of_getElem? (i := 13) rfl) rfl, tb_p (List.mem_of_getElem? (i := 99) rfl) rfl, tb_1 (List.mem_of_getElem? (i := 12) rfl) rfl, tb_9 (List.mem_of_getElem? (i := 14) rfl) rfl, ⟨by decide +kernel, by decide +kernel, by decide +kernel⟩⟩
set_option maxRecDepth 100000 in
theorem ok_X11_value : OkV yX11_value cX11_value 2 (some .long) 1 := ⟨tb_9 (List.mem_of_getElem? (i := 8) rfl) rfl, tb_9 (List.mem_of_getElem? (i := 9) rfl) rfl, tb_1 (List.mem_of_getElem? (i := 12) rfl) rfl, tb_9 (List.mem_of_getElem? (i := 10) rfl) rfl, ⟨by decide +kernel, by decide +kernel, by decide +kernel⟩⟩
set_option maxRecDepth 100000 in
theorem ok_X11_shareOf : OkS yX11_shareOf cX11_shareOf 6 (some .int) 2 := ⟨tb_9 (List.mem_of_getElem? (i := 32) rfl) rfl, tb_1 (List.mem_of_getElem? (i := 12) rfl) rfl, tb_9 (List.mem_of_getElem? (i := 33) rfl) rfl, ⟨by decide +kernel, by decide +kernel, by decide +kernel⟩⟩
set_option maxRecDepth 100000 in
theorem ok_X11_ownMargin : OkV yX11_ownMargin cX11_ownMargin 4 (some .int) 3 := ⟨tb_9 (List.mem_of_getElem? (i := 29) rfl) rfl, tb_p (List.mem_of_getElem? (i := 102) rfl) rfl, tb_1 (List.mem_of_getElem? (i := 12) rfl) rfl, tb_9 (List.mem_of_getElem? (i := 30) rfl) rfl, ⟨by decide +kernel, by decide +kernel, by decide +kernel⟩⟩
set_option maxRecDepth 100000 in
theorem ok_X11_isSilent : OkV yX11_isSilent cX11_isSilent 2 (some .boolean) 1 := ⟨tb_9 (List.mem_of_getElem? (i := 25) rfl) rfl, tb_p (List.mem_of_getElem? (i := 101) rfl) rfl, tb_1 (List.mem_of_getElem? (i := 12) rfl) rfl, tb_9 (List.mem_of_getElem? (i := 26) rfl) rfl, ⟨by decide +kernel, by decide +kernel, by decide +kernel⟩⟩
set_option maxRecDepth 100000 in
theorem ok_X11_marginOf : OkV yX11_marginOf cX11_marginOf 7 (some .int) 3 := ⟨tb_9 (List.mem_of_getElem? (i := 21) rfl) rfl, tb_p (List.mem_of_getElem? (i := 100) rfl) rfl, tb_1 (List.mem_of_getElem? (i := 12) rfl) rfl, tb_9 (List.mem_of_getElem? (i := 22) rfl) rfl, ⟨by decide +kernel, by decide +kernel, by decide +kernel⟩⟩
set_option maxRecDepth 100000 in
theorem ok_X11_margin : OkV yX11_margin cX11_margin 4 (some .int) 3 := ⟨tb_9 (List.mem_of_getElem? (i := 16) rfl) rfl, tb_9 (List.mem_of_getElem? (i := 17) rfl) rfl, tb_1 (List.mem_of_getElem? (i := 12) rfl) rfl, tb_9 (List.mem_of_getElem? (i := 18) rfl) rfl, ⟨by decide +kernel, by decide +kernel, by decide +kernel⟩⟩
set_option maxRecDepth 100000 in
theorem ok_X11_isZeroing : OkV yX11_isZeroing cX11_isZeroing 1 (some .boolean) 0 := ⟨tb_9 (List.mem_of_getElem? (i := 58) rfl) rfl, tb_p (List.mem_of_getElem? (i := 106) rfl) rfl, tb_1 (List.mem_of_getElem? (i := 12) rfl) rfl, tb_9 (List.mem_of_getElem? (i := 59) rfl) rfl, ⟨by decide +kernel, by decide +kernel, by decide +kernel⟩⟩
set_option maxRecDepth 100000 in
theorem ok_X11_isSmall : OkV yX11_isSmall cX11_isSmall 4 (some .boolean) 2 := ⟨tb_9 (List.mem_of_getElem? (i := 46) rfl) rfl, tb_p (List.mem_of_getElem? (i := 104) rfl) rfl, tb_1 (List.mem_of_getElem? (i := 12) rfl) rfl, tb_9 (List.mem_of_getElem? (i := 47) rfl) rfl, ⟨by decide +kernel, by decide +kernel, by decide +kernel⟩⟩
set_option maxRecDepth 100000 in
theorem ok_X11_isNegligible : OkV yX11_isNegligible cX11_isNegligible 5 (some .boolean) 1 := ⟨tb_9 (List.mem_of_getElem? (i := 42) rfl) rfl, tb_p (List.mem_of_getElem? (i := 103) rfl) rfl, tb_1 (List.mem_of_getElem? (i := 12) rfl) rfl, tb_9 (List.mem_of_getElem? (i := 43) rfl) rfl, ⟨by decide +kernel, by decide +kernel, by decide +kernel⟩⟩
set_option maxRecDepth 100000 in
theorem ok_X11_negligible : OkV yX11_negligible cX11_negligible 2 (some .boolean) 1 := ⟨tb_9 (List.mem_of_getElem? (i := 37) rfl) rfl, tb_9 (List.mem_of_getElem? (i := 38) rfl) rfl, tb_1 (List.mem_of_getElem? (i := 12) rfl) rfl, tb_9 (List.mem_of_getElem? (i := 39) rfl) rfl, ⟨by decide +kernel, by decide +kernel, by decide +kernel⟩⟩
set_option maxRecDepth 100000 in
theorem ok_X11_toldMargin : OkV yX11_toldMargin cX11_toldMargin 2 (some .int) 1 := ⟨tb_9 (List.mem_of_getElem? (i := 54) rfl) rfl, tb_p (List.mem_of_getElem? (i := 105) rfl) rfl, tb_1 (List.mem_of_getElem? (i := 12) rfl) rfl, tb_9 (List.mem_of_getElem? (i := 55) rfl) rfl, ⟨by decide +kernel, by decide +kernel, by decide +kernel⟩⟩
set_option maxRecDepth 100000 in
theorem ok_X11_rateOf : OkV yX11_rateOf cX11_rateOf 3 (some .int) 1 := ⟨tb_9 (List.mem_of_getElem? (i := 62) rfl) rfl, tb_p (List.mem_of_getElem? (i := 107) rfl) rfl, tb_1 (List.mem_of_getElem? (i := 12) rfl) rfl, tb_9 (List.mem_of_getElem? (i := 63) rfl) rfl, ⟨by decide +kernel, by decide +kernel, by decide +kernel⟩⟩
set_option maxRecDepth 100000 in
theorem ok_X11_isTargeted : OkV yX11_isTargeted cX11_isTargeted 3 (some .boolean) 2 := ⟨tb_9 (List.mem_of_getElem? (i := 70) rfl) rfl, tb_p (List.mem_of_getElem? (i := 109) rfl) rfl, tb_1 (List.mem_of_getElem? (i := 12) rfl) rfl, tb_9 (List.mem_of_getElem? (i := 71) rfl) rfl, ⟨by decide +kernel, by decide +kernel, by decide +kernel⟩⟩
set_option maxRecDepth 100000 in
theorem ok_X11_injuryOf : OkV yX11_injuryOf cX11_injuryOf 7 (some .int) 1 := ⟨tb_9 (List.mem_of_getElem? (i := 66) rfl) rfl, tb_p (List.mem_of_getElem? (i := 108) rfl) rfl, tb_1 (List.mem_of_getElem? (i := 12) rfl) rfl, tb_9 (List.mem_of_getElem? (i := 67) rfl) rfl, ⟨by decide +kernel, by decide +kernel, by decide +kernel⟩⟩
set_option maxRecDepth 100000 in
theorem ok_X11_hasTarget : OkV yX11_hasTarget cX11_hasTarget 3 (some .boolean) 1 := ⟨tb_9 (List.mem_of_getElem? (i := 78) rfl) rfl, tb_p (List.mem_of_getElem? (i := 111) rfl) rfl, tb_1 (List.mem_of_getElem? (i := 12) rfl) rfl, tb_9 (List.mem_of_getElem? (i := 79) rfl) rfl, ⟨by decide +kernel, by decide +kernel, by decide +kernel⟩⟩
set_option maxRecDepth 100000 in
theorem ok_X11_dutyOf : OkV yX11_dutyOf cX11_dutyOf 4 (some .int) 1 := ⟨tb_9 (List.mem_of_getElem? (i := 74) rfl) rfl, tb_p (List.mem_of_getElem? (i := 110) rfl) rfl, tb_1 (List.mem_of_getElem? (i := 12) rfl) rfl, tb_9 (List.mem_of_getElem? (i := 75) rfl) rfl, ⟨by decide +kernel, by decide +kernel, by decide +kernel⟩⟩
set_option maxRecDepth 100000 in
theorem ok_X11_duty : OkV yX11_duty cX11_duty 3 (some .int) 2 := ⟨tb_9 (List.mem_of_getElem? (i := 49) rfl) rfl, tb_9 (List.mem_of_getElem? (i := 50) rfl) rfl, tb_1 (List.mem_of_getElem? (i := 12) rfl) rfl, tb_9 (List.mem_of_getElem? (i := 51) rfl) rfl, ⟨by decide +kernel, by decide +kernel, by decide +kernel⟩⟩
set_option maxRecDepth 100000 in
theorem ok_X11_others : OkV yX11_others cX11_others 7 (some .int) 0 := ⟨tb_9 (List.mem_of_getElem? (i := 81) rfl) rfl, tb_9 (List.mem_of_getElem? (i := 82) rfl) rfl, tb_1 (List.mem_of_getElem? (i := 12) rfl) rfl, tb_9 (List.mem_of_getElem? (i := 83) rfl) rfl, ⟨by decide +kernel, by decide +kernel, by decide +kernel⟩⟩
set_option maxRecDepth 100000 in
theorem ok_X11_method : OkV yX11_method cX11_method 7 (some .int) 2 := ⟨tb_9 (List.mem_of_getElem? (i := 85) rfl) rfl, tb_9 (List.mem_of_getElem? (i := 86) rfl) rfl, tb_1 (List.mem_of_getElem? (i := 12) rfl) rfl, tb_9 (List.mem_of_getElem? (i := 87) rfl) rfl, ⟨by decide +kernel, by decide +kernel, by decide +kernel⟩⟩
set_option maxRecDepth 100000 in
theorem ok_X11_undertaking : OkV yX11_undertaking cX11_undertaking 3 (some .int) 1 := ⟨tb_9 (List.mem_of_getElem? (i := 89) rfl) rfl, tb_9 (List.mem_of_getElem? (i := 90) rfl) rfl, tb_1 (List.mem_of_getElem? (i := 12) rfl) rfl, tb_9 (List.mem_of_getElem? (i := 91) rfl) rfl, ⟨by decide +kernel, by decide +kernel, by decide +kernel⟩⟩
set_option maxRecDepth 100000 in
theorem ok_X11_picked : OkV yX11_picked cX11_picked 4 (some .int) 1 := ⟨tb_9 (List.mem_of_getElem? (i := 93) rfl) rfl, tb_9 (List.mem_of_getElem? (i := 94) rfl) rfl, tb_1 (List.mem_of_getElem? (i := 12) rfl) rfl, tb_9 (List.mem_of_getElem? (i := 95) rfl) rfl, ⟨by decide +kernel, by decide +kernel, by decide +kernel⟩⟩
set_option maxRecDepth 100000 in
theorem ok_X11_isPicked : OkV yX11_isPicked cX11_isPicked 15 (some .boolean) 2 := ⟨tb_9 (List.mem_of_getElem? (i := 98) rfl) rfl, tb_p (List.mem_of_getElem? (i := 112) rfl) rfl, tb_1 (List.mem_of_getElem? (i := 12) rfl) rfl, tb_9 (List.mem_of_getElem? (i := 99) rfl) rfl, ⟨by decide +kernel, by decide +kernel, by decide +kernel⟩⟩
set_option maxRecDepth 100000 in
theorem ok_X11_depositOf : OkV yX11_depositOf cX11_depositOf 2 (some .long) 1 := ⟨tb_9 (List.mem_of_getElem? (i := 112) rfl) rfl, tb_p (List.mem_of_getElem? (i := 114) rfl) rfl, tb_1 (List.mem_of_getElem? (i := 12) rfl) rfl, tb_9 (List.mem_of_getElem? (i := 113) rfl) rfl, ⟨by decide +kernel, by decide +kernel, by decide +kernel⟩⟩
set_option maxRecDepth 100000 in
theorem ok_X11_owedOf : OkV yX11_owedOf cX11_owedOf 4 (some .long) 1 := ⟨tb_9 (List.mem_of_getElem? (i := 108) rfl) rfl, tb_p (List.mem_of_getElem? (i := 113) rfl) rfl, tb_1 (List.mem_of_getElem? (i := 12) rfl) rfl, tb_9 (List.mem_of_getElem? (i := 109) rfl) rfl, ⟨by decide +kernel, by decide +kernel, by decide +kernel⟩⟩
set_option maxRecDepth 100000 in
theorem ok_X11_collected : OkV yX11_collected cX11_collected 3 (some .long) 2 := ⟨tb_9 (List.mem_of_getElem? (i := 103) rfl) rfl, tb_9 (List.mem_of_getElem? (i := 104) rfl) rfl, tb_1 (List.mem_of_getElem? (i := 12) rfl) rfl, tb_9 (List.mem_of_getElem? (i := 105) rfl) rfl, ⟨by decide +kernel, by decide +kernel, by decide +kernel⟩⟩
set_option maxRecDepth 100000 in
theorem ok_X11_back : OkV yX11_back cX11_back 5 (some .long) 1 := ⟨tb_9 (List.mem_of_getElem? (i := 115) rfl) rfl, tb_9 (List.mem_of_getElem? (i := 116) rfl) rfl, tb_1 (List.mem_of_getElem? (i := 12) rfl) rfl, tb_9 (List.mem_of_getElem? (i := 117) rfl) rfl, ⟨by decide +kernel, by decide +kernel, by decide +kernel⟩⟩
set_option maxRecDepth 100000 in
theorem ok_X11_weightOf : OkV yX11_weightOf cX11_weightOf 5 (some .int) 1 := ⟨tb_9 (List.mem_of_getElem? (i := 124) rfl) rfl, tb_p (List.mem_of_getElem? (i := 115) rfl) rfl, tb_1 (List.mem_of_getElem? (i := 12) rfl) rfl, tb_9 (List.mem_of_getElem? (i := 125) rfl) rfl, ⟨by decide +kernel, by decide +kernel, by decide +kernel⟩⟩
set_option maxRecDepth 100000 in
theorem ok_X11_weight : OkV yX11_weight cX11_weight 2 (some .int) 1 := ⟨tb_9 (List.mem_of_getElem? (i := 119) rfl) rfl, tb_9 (List.mem_of_getElem? (i := 120) rfl) rfl, tb_1 (List.mem_of_getElem? (i := 12) rfl) rfl, tb_9 (List.mem_of_getElem? (i := 121) rfl) rfl, ⟨by decide +kernel, by decide +kernel, by decide +kernel⟩⟩
set_option maxRecDepth 100000 in
theorem ok_X11_heaviest : OkV yX11_heaviest cX11_heaviest 7 (some .int) 2 := ⟨tb_9 (List.mem_of_getElem? (i := 127) rfl) rfl, tb_9 (List.mem_of_getElem? (i := 128) rfl) rfl, tb_1 (List.mem_of_getElem? (i := 12) rfl) rfl, tb_9 (List.mem_of_getElem? (i := 129) rfl) rfl, ⟨by decide +kernel, by decide +kernel, by decide +kernel⟩⟩
set_option maxRecDepth 100000 in
theorem ok_X11_ranked : OkV yX11_ranked cX11_ranked 5 (some .int) 1 := ⟨tb_9 (List.mem_of_getElem? (i := 131) rfl) rfl, tb_9 (List.mem_of_getElem? (i := 132) rfl) rfl, tb_1 (List.mem_of_getElem? (i := 12) rfl) rfl, tb_9 (List.mem_of_getElem? (i := 133) rfl) rfl, ⟨by decide +kernel, by decide +kernel, by decide +kernel⟩⟩
set_option maxRecDepth 100000 in
theorem ok_X11_writes : OkV yX11_writes cX11_writes 2 none 1 := ⟨tb_9 (List.mem_of_getElem? (i := 140) rfl) rfl, tb_p (List.mem_of_getElem? (i := 116) rfl) rfl, tb_1 (List.mem_of_getElem? (i := 12) rfl) rfl, tb_9 (List.mem_of_getElem? (i := 141) rfl) rfl, ⟨by decide +kernel, by decide +kernel, by decide +kernel⟩⟩
set_option maxRecDepth 100000 in
theorem ok_X11_writesText : OkV yX11_writesText cX11_writesText 3 none 1 := ⟨tb_9 (List.mem_of_getElem? (i := 149) rfl) rfl, tb_p (List.mem_of_getElem? (i := 118) rfl) rfl, tb_1 (List.mem_of_getElem? (i := 12) rfl) rfl, tb_9 (List.mem_of_getElem? (i := 150) rfl) rfl, ⟨by decide +kernel, by decide +kernel, by decide +kernel⟩⟩
set_option maxRecDepth 100000 in
theorem ok_X11_writesNumber : OkV yX11_writesNumber cX11_writesNumber 4 none 1 := ⟨tb_9 (List.mem_of_getElem? (i := 144) rfl) rfl, tb_p (List.mem_of_getElem? (i := 117) rfl) rfl, tb_1 (List.mem_of_getElem? (i := 12) rfl) rfl, tb_9 (List.mem_of_getElem? (i := 145) rfl) rfl, ⟨by decide +kernel, by decide +kernel, by decide +kernel⟩⟩
set_option maxRecDepth 100000 in
theorem ok_X11_write : OkV yX11_write cX11_write 4 (some .int) 1 := ⟨tb_9 (List.mem_of_getElem? (i := 135) rfl) rfl, tb_9 (List.mem_of_getElem? (i := 136) rfl) rfl, tb_1 (List.mem_of_getElem? (i := 12) rfl) rfl, tb_9 (List.mem_of_getElem? (i := 137) rfl) rfl, ⟨by decide +kernel, by decide +kernel, by decide +kernel⟩⟩
set_option maxRecDepth 100000 in
theorem ok_X11_octet : OkV yX11_octet cX11_octet 2 (some .int) 1 := ⟨tb_9 (List.mem_of_getElem? (i := 153) rfl) rfl, tb_9 (List.mem_of_getElem? (i := 154) rfl) rfl, tb_1 (List.mem_of_getElem? (i := 12) rfl) rfl, tb_9 (List.mem_of_getElem? (i := 155) rfl) rfl, ⟨by decide +kernel, by decide +kernel, by decide +kernel⟩⟩
set_option maxRecDepth 100000 in
theorem ok_X11_count : OkV yX11_count cX11_count 4 (some .int) 1 := ⟨tb_9 (List.mem_of_getElem? (i := 157) rfl) rfl, tb_9 (List.mem_of_getElem? (i := 158) rfl) rfl, tb_1 (List.mem_of_getElem? (i := 12) rfl) rfl, tb_9 (List.mem_of_getElem? (i := 159) rfl) rfl, ⟨by decide +kernel, by decide +kernel, by decide +kernel⟩⟩
set_option maxRecDepth 100000 in
theorem ok_J9_floorDiv_f86c9 : OkS yJ9_floorDiv_f86c9 cJ9_floorDiv_f86c9 6 (some .long) 2 := ⟨tb_3 (List.mem_of_getElem? (i := 23) rfl) rfl, tb_1 (List.mem_of_getElem? (i := 17) rfl) rfl, tb_3 (List.mem_of_getElem? (i := 24) rfl) rfl, ⟨by decide +kernel, by decide +kernel, by decide +kernel⟩⟩
set_option maxRecDepth 100000 in
theorem ok_J9_abs_0f7a4 : OkS Lib.Math.abs.name Lib.Math.abs.code 1 (some .int) 1 := ⟨tb_3 (List.mem_of_getElem? (i := 130) rfl) rfl, tb_1 (List.mem_of_getElem? (i := 17) rfl) rfl, tb_3 (List.mem_of_getElem? (i := 131) rfl) rfl, ⟨by decide +kernel, by decide +kernel, by decide +kernel⟩⟩
set_option maxRecDepth 100000 in
theorem ok_J9_max_7cf53 : OkS Lib.Math.max.name Lib.Math.max.code 2 (some .int) 2 := ⟨tb_3 (List.mem_of_getElem? (i := 38) rfl) rfl, tb_1 (List.mem_of_getElem? (i := 17) rfl) rfl, tb_3 (List.mem_of_getElem? (i := 39) rfl) rfl, ⟨by decide +kernel, by decide +kernel, by decide +kernel⟩⟩
set_option maxRecDepth 100000 in
theorem ok_J9_max_f86c9 : OkS Lib.MathLoose.max_long.x Lib.MathLoose.max_long.code 4 (some .long) 2 := ⟨tb_3 (List.mem_of_getElem? (i := 31) rfl) rfl, tb_1 (List.mem_of_getElem? (i := 17) rfl) rfl, tb_3 (List.mem_of_getElem? (i := 32) rfl) rfl, ⟨by decide +kernel, by decide +kernel, by decide +kernel⟩⟩
set_option maxRecDepth 100000 in
theorem ok_J9_min_7cf53 : OkS Lib.Math.min.name Lib.Math.min.code 2 (some .int) 2 := ⟨tb_3 (List.mem_of_getElem? (i := 35) rfl) rfl, tb_1 (List.mem_of_getElem? (i := 17) rfl) rfl, tb_3 (List.mem_of_getElem? (i := 36) rfl) rfl, ⟨by decide +kernel, by decide +kernel, by decide +kernel⟩⟩
set_option maxRecDepth 100000 in
theorem ok_J9_min_f86c9 : OkS Lib.MathLoose.min_long.x Lib.MathLoose.min_long.code 4 (some .long) 2 := ⟨tb_3 (List.mem_of_getElem? (i := 28) rfl) rfl, tb_1 (List.mem_of_getElem? (i := 17) rfl) rfl, tb_3 (List.mem_of_getElem? (i := 29) rfl) rfl, ⟨by decide +kernel, by decide +kernel, by decide +kernel⟩⟩
set_option maxRecDepth 100000 in
theorem ok_J0_length_8abf5 : OkV yJ0_length_8abf5 cJ0_length_8abf5 1 (some .int) 0 := ⟨tb_4 (List.mem_of_getElem? (i := 31) rfl) rfl, tb_4 (List.mem_of_getElem? (i := 32) rfl) rfl, tb_1 (List.mem_of_getElem? (i := 13) rfl) rfl, tb_4 (List.mem_of_getElem? (i := 33) rfl) rfl, ⟨by decide +kernel, by decide +kernel, by decide +kernel⟩⟩
set_option maxRecDepth 100000 in
theorem ok_J0_charAt_5068e : OkV yJ0_charAt_5068e cJ0_charAt_5068e 2 (some .char) 1 := ⟨tb_4 (List.mem_of_getElem? (i := 41) rfl) rfl, tb_4 (List.mem_of_getElem? (i := 42) rfl) rfl, tb_1 (List.mem_of_getElem? (i := 13) rfl) rfl, tb_4 (List.mem_of_getElem? (i := 43) rfl) rfl, ⟨by decide +kernel, by decide +kernel, by decide +kernel⟩⟩
set_option maxRecDepth 100000 in
theorem ok_J0_coder_7d493 : OkV yJ0_coder_7d493 cJ0_coder_7d493 1 (some .byte) 0 := ⟨tb_4 (List.mem_of_getElem? (i := 35) rfl) rfl, tb_4 (List.mem_of_getElem? (i := 36) rfl) rfl, tb_1 (List.mem_of_getElem? (i := 13) rfl) rfl, tb_4 (List.mem_of_getElem? (i := 37) rfl) rfl, ⟨by decide +kernel, by decide +kernel, by decide +kernel⟩⟩
set_option maxRecDepth 100000 in
theorem ok_J0_isLatin1_aae02 : OkV yJ0_isLatin1_aae02 cJ0_isLatin1_aae02 1 (some .boolean) 0 := ⟨tb_4 (List.mem_of_getElem? (i := 45) rfl) rfl, tb_4 (List.mem_of_getElem? (i := 46) rfl) rfl, tb_1 (List.mem_of_getElem? (i := 13) rfl) rfl, tb_4 (List.mem_of_getElem? (i := 47) rfl) rfl, ⟨by decide +kernel, by decide +kernel, by decide +kernel⟩⟩
set_option maxRecDepth 100000 in
theorem ok_J0_checkIndex_df160 : OkS yJ0_checkIndex_df160 cJ0_checkIndex_df160 2 none 2 := ⟨tb_4 (List.mem_of_getElem? (i := 52) rfl) rfl, tb_1 (List.mem_of_getElem? (i := 13) rfl) rfl, tb_4 (List.mem_of_getElem? (i := 53) rfl) rfl, ⟨by decide +kernel, by decide +kernel, by decide +kernel⟩⟩
set_option maxRecDepth 100000 in
theorem ok_J1_charAt_3b067 : OkS yJ1_charAt_3b067 cJ1_charAt_3b067 2 (some .char) 2 := ⟨tb_4 (List.mem_of_getElem? (i := 49) rfl) rfl, tb_1 (List.mem_of_getElem? (i := 14) rfl) rfl, tb_4 (List.mem_of_getElem? (i := 50) rfl) rfl, ⟨by decide +kernel, by decide +kernel, by decide +kernel⟩⟩
set_option maxRecDepth 100000 in
theorem ok_J2_getChar_3b067 : OkS yJ2_getChar_3b067 cJ2_getChar_3b067 2 (some .char) 2 := ⟨tb_4 (List.mem_of_getElem? (i := 70) rfl) rfl, tb_1 (List.mem_of_getElem? (i := 16) rfl) rfl, tb_4 (List.mem_of_getElem? (i := 71) rfl) rfl, ⟨by decide +kernel, by decide +kernel, by decide +kernel⟩⟩
set_option maxRecDepth 100000 in
theorem ok_J2_length_9d52b : OkS yJ2_length_9d52b cJ2_length_9d52b 1 (some .int) 1 := ⟨tb_4 (List.mem_of_getElem? (i := 66) rfl) rfl, tb_1 (List.mem_of_getElem? (i := 16) rfl) rfl, tb_4 (List.mem_of_getElem? (i := 67) rfl) rfl, ⟨by decide +kernel, by decide +kernel, by decide +kernel⟩⟩
set_option maxRecDepth 100000 in
theorem ok_J2_charAt_3b067 : OkS yJ2_charAt_3b067 cJ2_charAt_3b067 2 (some .char) 2 := ⟨tb_4 (List.mem_of_getElem? (i := 60) rfl) rfl, tb_1 (List.mem_of_getElem? (i := 16) rfl) rfl, tb_4 (List.mem_of_getElem? (i := 61) rfl) rfl, ⟨by decide +kernel, by decide +kernel, by decide +kernel⟩⟩
set_option maxRecDepth 100000 in
theorem ok_J2_checkIndex_2214a : OkS yJ2_checkIndex_2214a cJ2_checkIndex_2214a 2 none 2 := ⟨tb_4 (List.mem_of_getElem? (i := 63) rfl) rfl, tb_1 (List.mem_of_getElem? (i := 16) rfl) rfl, tb_4 (List.mem_of_getElem? (i := 64) rfl) rfl, ⟨by decide +kernel, by decide +kernel, by decide +kernel⟩⟩
set_option maxRecDepth 100000 in
theorem ok_J3_checkIndex_8e157 : OkS yJ3_checkIndex_8e157 cJ3_checkIndex_8e157 3 (some .int) 3 := ⟨tb_4 (List.mem_of_getElem? (i := 57) rfl) rfl, tb_1 (List.mem_of_getElem? (i := 15) rfl) rfl, tb_4 (List.mem_of_getElem? (i := 58) rfl) rfl, ⟨by decide +kernel, by decide +kernel, by decide +kernel⟩⟩
