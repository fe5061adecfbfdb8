set_option maxRecDepth 100000 in
theorem lf_X4_9 : Cond.fieldLink RX4 9 "DutyCase$Names" "letters" "[B" ∈ tb := tb_1 (List.mem_of_getElem? (i := 45) rfl) rfl
set_option maxRecDepth 100000 in
theorem lf_X4_15 : Cond.fieldLink RX4 15 "DutyCase$Names" "lengths" "[I" ∈ tb := tb_1 (List.mem_of_getElem? (i := 46) rfl) rfl
set_option maxRecDepth 100000 in
theorem lf_X10_378 : Cond.fieldLink RX10 378 "DutyCase$Names" "lengths" "[I" ∈ tb := tb_1 (List.mem_of_getElem? (i := 47) rfl) rfl
set_option maxRecDepth 100000 in
theorem lf_X1_55 : Cond.fieldLink RX1 55 "DutyCase$Names" "count" "I" ∈ tb := tb_1 (List.mem_of_getElem? (i := 48) rfl) rfl
set_option maxRecDepth 100000 in
theorem lf_X4_19 : Cond.fieldLink RX4 19 "DutyCase$Names" "count" "I" ∈ tb := tb_1 (List.mem_of_getElem? (i := 49) rfl) rfl
set_option maxRecDepth 100000 in
theorem lf_X3_52 : Cond.fieldLink RX3 52 "DutyCase$Names" "count" "I" ∈ tb := tb_1 (List.mem_of_getElem? (i := 50) rfl) rfl
set_option maxRecDepth 100000 in
theorem lf_X5_82 : Cond.fieldLink RX5 82 "DutyCase$Names" "count" "I" ∈ tb := tb_1 (List.mem_of_getElem? (i := 51) rfl) rfl
set_option maxRecDepth 100000 in
theorem lf_X8_112 : Cond.fieldLink RX8 112 "DutyCase$Names" "count" "I" ∈ tb := tb_1 (List.mem_of_getElem? (i := 52) rfl) rfl
set_option maxRecDepth 100000 in
theorem lf_X10_373 : Cond.fieldLink RX10 373 "DutyCase$Names" "count" "I" ∈ tb := tb_1 (List.mem_of_getElem? (i := 53) rfl) rfl
set_option maxRecDepth 100000 in
theorem lf_X9_9 : Cond.fieldLink RX9 9 "DutyCase$Sums" "code" "[I" ∈ tb := tb_1 (List.mem_of_getElem? (i := 69) rfl) rfl
set_option maxRecDepth 100000 in
theorem lf_X9_15 : Cond.fieldLink RX9 15 "DutyCase$Sums" "from" "[I" ∈ tb := tb_1 (List.mem_of_getElem? (i := 70) rfl) rfl
set_option maxRecDepth 100000 in
theorem lf_X9_18 : Cond.fieldLink RX9 18 "DutyCase$Sums" "to" "[I" ∈ tb := tb_1 (List.mem_of_getElem? (i := 71) rfl) rfl
set_option maxRecDepth 100000 in
theorem lf_X9_21 : Cond.fieldLink RX9 21 "DutyCase$Sums" "stack" "[J" ∈ tb := tb_1 (List.mem_of_getElem? (i := 72) rfl) rfl
set_option maxRecDepth 100000 in
theorem lf_X9_25 : Cond.fieldLink RX9 25 "DutyCase$Sums" "length" "I" ∈ tb := tb_1 (List.mem_of_getElem? (i := 73) rfl) rfl
set_option maxRecDepth 100000 in
theorem lf_X5_126 : Cond.fieldLink RX5 126 "DutyCase$Sums" "length" "I" ∈ tb := tb_1 (List.mem_of_getElem? (i := 74) rfl) rfl
set_option maxRecDepth 100000 in
theorem lf_X7_9 : Cond.fieldLink RX7 9 "DutyCase$Sales" "market" "[I" ∈ tb := tb_1 (List.mem_of_getElem? (i := 94) rfl) rfl
set_option maxRecDepth 100000 in
theorem lf_X8_74 : Cond.fieldLink RX8 74 "DutyCase$Sales" "market" "[I" ∈ tb := tb_1 (List.mem_of_getElem? (i := 95) rfl) rfl
set_option maxRecDepth 100000 in
theorem lf_X9_29 : Cond.fieldLink RX9 29 "DutyCase$Sales" "market" "[I" ∈ tb := tb_1 (List.mem_of_getElem? (i := 96) rfl) rfl
set_option maxRecDepth 100000 in
theorem lf_X10_138 : Cond.fieldLink RX10 138 "DutyCase$Sales" "market" "[I" ∈ tb := tb_1 (List.mem_of_getElem? (i := 97) rfl) rfl
set_option maxRecDepth 100000 in
theorem lf_X7_15 : Cond.fieldLink RX7 15 "DutyCase$Sales" "firm" "[I" ∈ tb := tb_1 (List.mem_of_getElem? (i := 98) rfl) rfl
set_option maxRecDepth 100000 in
theorem lf_X8_72 : Cond.fieldLink RX8 72 "DutyCase$Sales" "firm" "[I" ∈ tb := tb_1 (List.mem_of_getElem? (i := 99) rfl) rfl
set_option maxRecDepth 100000 in
theorem lf_X1_63 : Cond.fieldLink RX1 63 "DutyCase$Sales" "firm" "[I" ∈ tb := tb_1 (List.mem_of_getElem? (i := 100) rfl) rfl
set_option maxRecDepth 100000 in
theorem lf_X2_99 : Cond.fieldLink RX2 99 "DutyCase$Sales" "firm" "[I" ∈ tb := tb_1 (List.mem_of_getElem? (i := 101) rfl) rfl
set_option maxRecDepth 100000 in
theorem lf_X3_135 : Cond.fieldLink RX3 135 "DutyCase$Sales" "firm" "[I" ∈ tb := tb_1 (List.mem_of_getElem? (i := 102) rfl) rfl
set_option maxRecDepth 100000 in
theorem lf_X10_141 : Cond.fieldLink RX10 141 "DutyCase$Sales" "firm" "[I" ∈ tb := tb_1 (List.mem_of_getElem? (i := 103) rfl) rfl
set_option maxRecDepth 100000 in
theorem lf_X7_18 : Cond.fieldLink RX7 18 "DutyCase$Sales" "model" "[I" ∈ tb := tb_1 (List.mem_of_getElem? (i := 104) rfl) rfl
set_option maxRecDepth 100000 in
theorem lf_X1_66 : Cond.fieldLink RX1 66 "DutyCase$Sales" "model" "[I" ∈ tb := tb_1 (List.mem_of_getElem? (i := 105) rfl) rfl
set_option maxRecDepth 100000 in
theorem lf_X2_78 : Cond.fieldLink RX2 78 "DutyCase$Sales" "model" "[I" ∈ tb := tb_1 (List.mem_of_getElem? (i := 106) rfl) rfl
set_option maxRecDepth 100000 in
theorem lf_X3_102 : Cond.fieldLink RX3 102 "DutyCase$Sales" "model" "[I" ∈ tb := tb_1 (List.mem_of_getElem? (i := 107) rfl) rfl
set_option maxRecDepth 100000 in
theorem lf_X8_84 : Cond.fieldLink RX8 84 "DutyCase$Sales" "model" "[I" ∈ tb := tb_1 (List.mem_of_getElem? (i := 108) rfl) rfl
set_option maxRecDepth 100000 in
theorem lf_X10_144 : Cond.fieldLink RX10 144 "DutyCase$Sales" "model" "[I" ∈ tb := tb_1 (List.mem_of_getElem? (i := 109) rfl) rfl
set_option maxRecDepth 100000 in
theorem lf_X7_21 : Cond.fieldLink RX7 21 "DutyCase$Sales" "level" "[I" ∈ tb := tb_1 (List.mem_of_getElem? (i := 110) rfl) rfl
set_option maxRecDepth 100000 in
theorem lf_X2_81 : Cond.fieldLink RX2 81 "DutyCase$Sales" "level" "[I" ∈ tb := tb_1 (List.mem_of_getElem? (i := 111) rfl) rfl
set_option maxRecDepth 100000 in
theorem lf_X9_48 : Cond.fieldLink RX9 48 "DutyCase$Sales" "level" "[I" ∈ tb := tb_1 (List.mem_of_getElem? (i := 112) rfl) rfl
set_option maxRecDepth 100000 in
theorem lf_X8_101 : Cond.fieldLink RX8 101 "DutyCase$Sales" "level" "[I" ∈ tb := tb_1 (List.mem_of_getElem? (i := 113) rfl) rfl
set_option maxRecDepth 100000 in
theorem lf_X10_147 : Cond.fieldLink RX10 147 "DutyCase$Sales" "level" "[I" ∈ tb := tb_1 (List.mem_of_getElem? (i := 114) rfl) rfl
set_option maxRecDepth 100000 in
theorem lf_X7_24 : Cond.fieldLink RX7 24 "DutyCase$Sales" "month" "[I" ∈ tb := tb_1 (List.mem_of_getElem? (i := 115) rfl) rfl
set_option maxRecDepth 100000 in
theorem lf_X9_51 : Cond.fieldLink RX9 51 "DutyCase$Sales" "month" "[I" ∈ tb := tb_1 (List.mem_of_getElem? (i := 116) rfl) rfl
set_option maxRecDepth 100000 in
theorem lf_X3_128 : Cond.fieldLink RX3 128 "DutyCase$Sales" "month" "[I" ∈ tb := tb_1 (List.mem_of_getElem? (i := 117) rfl) rfl
set_option maxRecDepth 100000 in
theorem lf_X10_150 : Cond.fieldLink RX10 150 "DutyCase$Sales" "month" "[I" ∈ tb := tb_1 (List.mem_of_getElem? (i := 118) rfl) rfl
set_option maxRecDepth 100000 in
theorem lf_X1_99 : Cond.fieldLink RX1 99 "DutyCase$Sales" "month" "[I" ∈ tb := tb_1 (List.mem_of_getElem? (i := 119) rfl) rfl
set_option maxRecDepth 100000 in
theorem lf_X8_143 : Cond.fieldLink RX8 143 "DutyCase$Sales" "month" "[I" ∈ tb := tb_1 (List.mem_of_getElem? (i := 120) rfl) rfl
set_option maxRecDepth 100000 in
theorem lf_X7_27 : Cond.fieldLink RX7 27 "DutyCase$Sales" "many" "[I" ∈ tb := tb_1 (List.mem_of_getElem? (i := 121) rfl) rfl
set_option maxRecDepth 100000 in
theorem lf_X8_77 : Cond.fieldLink RX8 77 "DutyCase$Sales" "many" "[I" ∈ tb := tb_1 (List.mem_of_getElem? (i := 122) rfl) rfl
set_option maxRecDepth 100000 in
theorem lf_X2_73 : Cond.fieldLink RX2 73 "DutyCase$Sales" "many" "[I" ∈ tb := tb_1 (List.mem_of_getElem? (i := 123) rfl) rfl
set_option maxRecDepth 100000 in
theorem lf_X3_114 : Cond.fieldLink RX3 114 "DutyCase$Sales" "many" "[I" ∈ tb := tb_1 (List.mem_of_getElem? (i := 124) rfl) rfl
set_option maxRecDepth 100000 in
theorem lf_X9_42 : Cond.fieldLink RX9 42 "DutyCase$Sales" "many" "[I" ∈ tb := tb_1 (List.mem_of_getElem? (i := 125) rfl) rfl
set_option maxRecDepth 100000 in
theorem lf_X10_153 : Cond.fieldLink RX10 153 "DutyCase$Sales" "many" "[I" ∈ tb := tb_1 (List.mem_of_getElem? (i := 126) rfl) rfl
set_option maxRecDepth 100000 in
theorem lf_X7_30 : Cond.fieldLink RX7 30 "DutyCase$Sales" "price" "[I" ∈ tb := tb_1 (List.mem_of_getElem? (i := 127) rfl) rfl
set_option maxRecDepth 100000 in
theorem lf_X1_84 : Cond.fieldLink RX1 84 "DutyCase$Sales" "price" "[I" ∈ tb := tb_1 (List.mem_of_getElem? (i := 128) rfl) rfl
set_option maxRecDepth 100000 in
theorem lf_X9_45 : Cond.fieldLink RX9 45 "DutyCase$Sales" "price" "[I" ∈ tb := tb_1 (List.mem_of_getElem? (i := 129) rfl) rfl
set_option maxRecDepth 100000 in
theorem lf_X10_156 : Cond.fieldLink RX10 156 "DutyCase$Sales" "price" "[I" ∈ tb := tb_1 (List.mem_of_getElem? (i := 130) rfl) rfl
set_option maxRecDepth 100000 in
theorem lf_X7_33 : Cond.fieldLink RX7 33 "DutyCase$Sales" "off" "[I" ∈ tb := tb_1 (List.mem_of_getElem? (i := 131) rfl) rfl
set_option maxRecDepth 100000 in
theorem lf_X1_77 : Cond.fieldLink RX1 77 "DutyCase$Sales" "off" "[I" ∈ tb := tb_1 (List.mem_of_getElem? (i := 132) rfl) rfl
set_option maxRecDepth 100000 in
theorem lf_X10_159 : Cond.fieldLink RX10 159 "DutyCase$Sales" "off" "[I" ∈ tb := tb_1 (List.mem_of_getElem? (i := 133) rfl) rfl
set_option maxRecDepth 100000 in
theorem lf_X7_36 : Cond.fieldLink RX7 36 "DutyCase$Sales" "net" "[I" ∈ tb := tb_1 (List.mem_of_getElem? (i := 134) rfl) rfl
set_option maxRecDepth 100000 in
theorem lf_X1_80 : Cond.fieldLink RX1 80 "DutyCase$Sales" "net" "[I" ∈ tb := tb_1 (List.mem_of_getElem? (i := 135) rfl) rfl
set_option maxRecDepth 100000 in
theorem lf_X3_111 : Cond.fieldLink RX3 111 "DutyCase$Sales" "net" "[I" ∈ tb := tb_1 (List.mem_of_getElem? (i := 136) rfl) rfl
set_option maxRecDepth 100000 in
theorem lf_X8_91 : Cond.fieldLink RX8 91 "DutyCase$Sales" "net" "[I" ∈ tb := tb_1 (List.mem_of_getElem? (i := 137) rfl) rfl
set_option maxRecDepth 100000 in
theorem lf_X2_104 : Cond.fieldLink RX2 104 "DutyCase$Sales" "net" "[I" ∈ tb := tb_1 (List.mem_of_getElem? (i := 138) rfl) rfl
set_option maxRecDepth 100000 in
theorem lf_X10_162 : Cond.fieldLink RX10 162 "DutyCase$Sales" "net" "[I" ∈ tb := tb_1 (List.mem_of_getElem? (i := 139) rfl) rfl
set_option maxRecDepth 100000 in
theorem lf_X7_39 : Cond.fieldLink RX7 39 "DutyCase$Sales" "live" "[Z" ∈ tb := tb_1 (List.mem_of_getElem? (i := 140) rfl) rfl
set_option maxRecDepth 100000 in
theorem lf_X8_69 : Cond.fieldLink RX8 69 "DutyCase$Sales" "live" "[Z" ∈ tb := tb_1 (List.mem_of_getElem? (i := 141) rfl) rfl
set_option maxRecDepth 100000 in
theorem lf_X0_43 : Cond.fieldLink RX0 43 "DutyCase$Sales" "live" "[Z" ∈ tb := tb_1 (List.mem_of_getElem? (i := 142) rfl) rfl
set_option maxRecDepth 100000 in
theorem lf_X10_197 : Cond.fieldLink RX10 197 "DutyCase$Sales" "live" "[Z" ∈ tb := tb_1 (List.mem_of_getElem? (i := 143) rfl) rfl
set_option maxRecDepth 100000 in
theorem lf_X2_150 : Cond.fieldLink RX2 150 "DutyCase$Sales" "live" "[Z" ∈ tb := tb_1 (List.mem_of_getElem? (i := 144) rfl) rfl
set_option maxRecDepth 100000 in
theorem lf_X7_43 : Cond.fieldLink RX7 43 "DutyCase$Sales" "count" "I" ∈ tb := tb_1 (List.mem_of_getElem? (i := 145) rfl) rfl
set_option maxRecDepth 100000 in
theorem lf_X1_59 : Cond.fieldLink RX1 59 "DutyCase$Sales" "count" "I" ∈ tb := tb_1 (List.mem_of_getElem? (i := 146) rfl) rfl
set_option maxRecDepth 100000 in
theorem lf_X2_52 : Cond.fieldLink RX2 52 "DutyCase$Sales" "count" "I" ∈ tb := tb_1 (List.mem_of_getElem? (i := 147) rfl) rfl
set_option maxRecDepth 100000 in
theorem lf_X8_64 : Cond.fieldLink RX8 64 "DutyCase$Sales" "count" "I" ∈ tb := tb_1 (List.mem_of_getElem? (i := 148) rfl) rfl
set_option maxRecDepth 100000 in
theorem lf_X0_40 : Cond.fieldLink RX0 40 "DutyCase$Sales" "count" "I" ∈ tb := tb_1 (List.mem_of_getElem? (i := 149) rfl) rfl
set_option maxRecDepth 100000 in
theorem lf_X10_95 : Cond.fieldLink RX10 95 "DutyCase$Sales" "count" "I" ∈ tb := tb_1 (List.mem_of_getElem? (i := 150) rfl) rfl
set_option maxRecDepth 100000 in
theorem lf_X3_98 : Cond.fieldLink RX3 98 "DutyCase$Sales" "count" "I" ∈ tb := tb_1 (List.mem_of_getElem? (i := 151) rfl) rfl
set_option maxRecDepth 100000 in
theorem lf_X5_140 : Cond.fieldLink RX5 140 "DutyCase$Sales" "count" "I" ∈ tb := tb_1 (List.mem_of_getElem? (i := 152) rfl) rfl
set_option maxRecDepth 100000 in
theorem lf_X1_12 : Cond.fieldLink RX1 12 "DutyCase$Book" "models" "LDutyCase$Names;" ∈ tb := tb_1 (List.mem_of_getElem? (i := 176) rfl) rfl
set_option maxRecDepth 100000 in
theorem lf_X5_78 : Cond.fieldLink RX5 78 "DutyCase$Book" "models" "LDutyCase$Names;" ∈ tb := tb_1 (List.mem_of_getElem? (i := 177) rfl) rfl
set_option maxRecDepth 100000 in
theorem lf_X10_114 : Cond.fieldLink RX10 114 "DutyCase$Book" "models" "LDutyCase$Names;" ∈ tb := tb_1 (List.mem_of_getElem? (i := 178) rfl) rfl
set_option maxRecDepth 100000 in
theorem lf_X8_108 : Cond.fieldLink RX8 108 "DutyCase$Book" "models" "LDutyCase$Names;" ∈ tb := tb_1 (List.mem_of_getElem? (i := 179) rfl) rfl
set_option maxRecDepth 100000 in
theorem lf_X1_18 : Cond.fieldLink RX1 18 "DutyCase$Book" "firms" "LDutyCase$Names;" ∈ tb := tb_1 (List.mem_of_getElem? (i := 180) rfl) rfl
set_option maxRecDepth 100000 in
theorem lf_X3_46 : Cond.fieldLink RX3 46 "DutyCase$Book" "firms" "LDutyCase$Names;" ∈ tb := tb_1 (List.mem_of_getElem? (i := 181) rfl) rfl
set_option maxRecDepth 100000 in
theorem lf_X5_105 : Cond.fieldLink RX5 105 "DutyCase$Book" "firms" "LDutyCase$Names;" ∈ tb := tb_1 (List.mem_of_getElem? (i := 182) rfl) rfl
set_option maxRecDepth 100000 in
theorem lf_X10_101 : Cond.fieldLink RX10 101 "DutyCase$Book" "firms" "LDutyCase$Names;" ∈ tb := tb_1 (List.mem_of_getElem? (i := 183) rfl) rfl
set_option maxRecDepth 100000 in
theorem lf_X1_21 : Cond.fieldLink RX1 21 "DutyCase$Book" "ownCost" "[I" ∈ tb := tb_1 (List.mem_of_getElem? (i := 184) rfl) rfl
set_option maxRecDepth 100000 in
theorem lf_X5_91 : Cond.fieldLink RX5 91 "DutyCase$Book" "ownCost" "[I" ∈ tb := tb_1 (List.mem_of_getElem? (i := 185) rfl) rfl
set_option maxRecDepth 100000 in
theorem lf_X10_117 : Cond.fieldLink RX10 117 "DutyCase$Book" "ownCost" "[I" ∈ tb := tb_1 (List.mem_of_getElem? (i := 186) rfl) rfl
set_option maxRecDepth 100000 in
theorem lf_X1_25 : Cond.fieldLink RX1 25 "DutyCase$Book" "likeness" "[I" ∈ tb := tb_1 (List.mem_of_getElem? (i := 187) rfl) rfl
set_option maxRecDepth 100000 in
theorem lf_X5_99 : Cond.fieldLink RX5 99 "DutyCase$Book" "likeness" "[I" ∈ tb := tb_1 (List.mem_of_getElem? (i := 188) rfl) rfl
set_option maxRecDepth 100000 in
theorem lf_X10_121 : Cond.fieldLink RX10 121 "DutyCase$Book" "likeness" "[I" ∈ tb := tb_1 (List.mem_of_getElem? (i := 189) rfl) rfl
set_option maxRecDepth 100000 in
theorem lf_X8_121 : Cond.fieldLink RX8 121 "DutyCase$Book" "likeness" "[I" ∈ tb := tb_1 (List.mem_of_getElem? (i := 190) rfl) rfl
set_option maxRecDepth 100000 in
theorem lf_X1_28 : Cond.fieldLink RX1 28 "DutyCase$Book" "target" "[I" ∈ tb := tb_1 (List.mem_of_getElem? (i := 191) rfl) rfl
set_option maxRecDepth 100000 in
theorem lf_X3_99 : Cond.fieldLink RX3 99 "DutyCase$Book" "target" "[I" ∈ tb := tb_1 (List.mem_of_getElem? (i := 192) rfl) rfl
set_option maxRecDepth 100000 in
theorem lf_X5_102 : Cond.fieldLink RX5 102 "DutyCase$Book" "target" "[I" ∈ tb := tb_1 (List.mem_of_getElem? (i := 193) rfl) rfl
set_option maxRecDepth 100000 in
theorem lf_X10_124 : Cond.fieldLink RX10 124 "DutyCase$Book" "target" "[I" ∈ tb := tb_1 (List.mem_of_getElem? (i := 194) rfl) rfl
set_option maxRecDepth 100000 in
theorem lf_X1_31 : Cond.fieldLink RX1 31 "DutyCase$Book" "toldCost" "[I" ∈ tb := tb_1 (List.mem_of_getElem? (i := 195) rfl) rfl
set_option maxRecDepth 100000 in
theorem lf_X5_116 : Cond.fieldLink RX5 116 "DutyCase$Book" "toldCost" "[I" ∈ tb := tb_1 (List.mem_of_getElem? (i := 196) rfl) rfl
set_option maxRecDepth 100000 in
theorem lf_X10_204 : Cond.fieldLink RX10 204 "DutyCase$Book" "toldCost" "[I" ∈ tb := tb_1 (List.mem_of_getElem? (i := 197) rfl) rfl
set_option maxRecDepth 100000 in
theorem lf_X1_34 : Cond.fieldLink RX1 34 "DutyCase$Book" "silent" "[Z" ∈ tb := tb_1 (List.mem_of_getElem? (i := 198) rfl) rfl
set_option maxRecDepth 100000 in
theorem lf_X3_64 : Cond.fieldLink RX3 64 "DutyCase$Book" "silent" "[Z" ∈ tb := tb_1 (List.mem_of_getElem? (i := 199) rfl) rfl
set_option maxRecDepth 100000 in
theorem lf_X0_57 : Cond.fieldLink RX0 57 "DutyCase$Book" "silent" "[Z" ∈ tb := tb_1 (List.mem_of_getElem? (i := 200) rfl) rfl
set_option maxRecDepth 100000 in
theorem lf_X5_112 : Cond.fieldLink RX5 112 "DutyCase$Book" "silent" "[Z" ∈ tb := tb_1 (List.mem_of_getElem? (i := 201) rfl) rfl
set_option maxRecDepth 100000 in
theorem lf_X10_219 : Cond.fieldLink RX10 219 "DutyCase$Book" "silent" "[Z" ∈ tb := tb_1 (List.mem_of_getElem? (i := 202) rfl) rfl
set_option maxRecDepth 100000 in
theorem lf_X1_41 : Cond.fieldLink RX1 41 "DutyCase$Book" "sums" "LDutyCase$Sums;" ∈ tb := tb_1 (List.mem_of_getElem? (i := 203) rfl) rfl
set_option maxRecDepth 100000 in
theorem lf_X5_122 : Cond.fieldLink RX5 122 "DutyCase$Book" "sums" "LDutyCase$Sums;" ∈ tb := tb_1 (List.mem_of_getElem? (i := 204) rfl) rfl
set_option maxRecDepth 100000 in
theorem lf_X1_48 : Cond.fieldLink RX1 48 "DutyCase$Book" "sales" "LDutyCase$Sales;" ∈ tb := tb_1 (List.mem_of_getElem? (i := 205) rfl) rfl
set_option maxRecDepth 100000 in
theorem lf_X2_46 : Cond.fieldLink RX2 46 "DutyCase$Book" "sales" "LDutyCase$Sales;" ∈ tb := tb_1 (List.mem_of_getElem? (i := 206) rfl) rfl
set_option maxRecDepth 100000 in
theorem lf_X8_58 : Cond.fieldLink RX8 58 "DutyCase$Book" "sales" "LDutyCase$Sales;" ∈ tb := tb_1 (List.mem_of_getElem? (i := 207) rfl) rfl
set_option maxRecDepth 100000 in
theorem lf_X0_34 : Cond.fieldLink RX0 34 "DutyCase$Book" "sales" "LDutyCase$Sales;" ∈ tb := tb_1 (List.mem_of_getElem? (i := 208) rfl) rfl
set_option maxRecDepth 100000 in
theorem lf_X3_89 : Cond.fieldLink RX3 89 "DutyCase$Book" "sales" "LDutyCase$Sales;" ∈ tb := tb_1 (List.mem_of_getElem? (i := 209) rfl) rfl
set_option maxRecDepth 100000 in
theorem lf_X10_91 : Cond.fieldLink RX10 91 "DutyCase$Book" "sales" "LDutyCase$Sales;" ∈ tb := tb_1 (List.mem_of_getElem? (i := 210) rfl) rfl
set_option maxRecDepth 100000 in
theorem lf_X5_136 : Cond.fieldLink RX5 136 "DutyCase$Book" "sales" "LDutyCase$Sales;" ∈ tb := tb_1 (List.mem_of_getElem? (i := 211) rfl) rfl
set_option maxRecDepth 100000 in
theorem lf_X1_52 : Cond.fieldLink RX1 52 "DutyCase$Book" "settings" "[I" ∈ tb := tb_1 (List.mem_of_getElem? (i := 212) rfl) rfl
set_option maxRecDepth 100000 in
theorem lf_X3_76 : Cond.fieldLink RX3 76 "DutyCase$Book" "settings" "[I" ∈ tb := tb_1 (List.mem_of_getElem? (i := 213) rfl) rfl
set_option maxRecDepth 100000 in
theorem lf_X0_54 : Cond.fieldLink RX0 54 "DutyCase$Book" "settings" "[I" ∈ tb := tb_1 (List.mem_of_getElem? (i := 214) rfl) rfl
set_option maxRecDepth 100000 in
theorem lf_X8_132 : Cond.fieldLink RX8 132 "DutyCase$Book" "settings" "[I" ∈ tb := tb_1 (List.mem_of_getElem? (i := 215) rfl) rfl
set_option maxRecDepth 100000 in
theorem lf_X5_147 : Cond.fieldLink RX5 147 "DutyCase$Book" "settings" "[I" ∈ tb := tb_1 (List.mem_of_getElem? (i := 216) rfl) rfl
set_option maxRecDepth 100000 in
theorem lf_X2_143 : Cond.fieldLink RX2 143 "DutyCase$Book" "settings" "[I" ∈ tb := tb_1 (List.mem_of_getElem? (i := 217) rfl) rfl
set_option maxRecDepth 100000 in
theorem lf_X10_216 : Cond.fieldLink RX10 216 "DutyCase$Book" "settings" "[I" ∈ tb := tb_1 (List.mem_of_getElem? (i := 218) rfl) rfl
set_option maxRecDepth 100000 in
theorem lf_X5_9 : Cond.fieldLink RX5 9 "DutyCase$Reader" "tape" "[B" ∈ tb := tb_2 (List.mem_of_getElem? (i := 6) rfl) rfl
set_option maxRecDepth 100000 in
theorem lf_X10_67 : Cond.fieldLink RX10 67 "DutyCase$Reader" "length" "I" ∈ tb := tb_2 (List.mem_of_getElem? (i := 7) rfl) rfl
set_option maxRecDepth 100000 in
theorem lf_X5_23 : Cond.fieldLink RX5 23 "DutyCase$Reader" "length" "I" ∈ tb := tb_2 (List.mem_of_getElem? (i := 8) rfl) rfl
set_option maxRecDepth 100000 in
theorem lf_X5_15 : Cond.fieldLink RX5 15 "DutyCase$Reader" "fault" "I" ∈ tb := tb_2 (List.mem_of_getElem? (i := 9) rfl) rfl
set_option maxRecDepth 100000 in
theorem lf_X10_78 : Cond.fieldLink RX10 78 "DutyCase$Reader" "fault" "I" ∈ tb := tb_2 (List.mem_of_getElem? (i := 10) rfl) rfl
set_option maxRecDepth 100000 in
theorem lf_X5_19 : Cond.fieldLink RX5 19 "DutyCase$Reader" "book" "LDutyCase$Book;" ∈ tb := tb_2 (List.mem_of_getElem? (i := 11) rfl) rfl
set_option maxRecDepth 100000 in
theorem lf_X5_37 : Cond.fieldLink RX5 37 "DutyCase$Reader" "kind" "I" ∈ tb := tb_2 (List.mem_of_getElem? (i := 12) rfl) rfl
set_option maxRecDepth 100000 in
theorem lf_X5_159 : Cond.fieldLink RX5 159 "DutyCase$Reader" "start" "I" ∈ tb := tb_2 (List.mem_of_getElem? (i := 13) rfl) rfl
set_option maxRecDepth 100000 in
theorem lf_X5_31 : Cond.fieldLink RX5 31 "DutyCase$Reader" "at" "I" ∈ tb := tb_2 (List.mem_of_getElem? (i := 14) rfl) rfl
set_option maxRecDepth 100000 in
theorem lf_X0_11 : Cond.fieldLink RX0 11 "DutyCase$Acts" "kind" "[I" ∈ tb := tb_2 (List.mem_of_getElem? (i := 36) rfl) rfl
set_option maxRecDepth 100000 in
theorem lf_X0_15 : Cond.fieldLink RX0 15 "DutyCase$Acts" "place" "[I" ∈ tb := tb_2 (List.mem_of_getElem? (i := 37) rfl) rfl
set_option maxRecDepth 100000 in
theorem lf_X0_18 : Cond.fieldLink RX0 18 "DutyCase$Acts" "old" "[I" ∈ tb := tb_2 (List.mem_of_getElem? (i := 38) rfl) rfl
set_option maxRecDepth 100000 in
theorem lf_X0_25 : Cond.fieldLink RX0 25 "DutyCase$Acts" "count" "I" ∈ tb := tb_2 (List.mem_of_getElem? (i := 39) rfl) rfl
set_option maxRecDepth 100000 in
theorem lf_X10_88 : Cond.fieldLink RX10 88 "DutyCase$Acts" "count" "I" ∈ tb := tb_2 (List.mem_of_getElem? (i := 40) rfl) rfl
set_option maxRecDepth 100000 in
theorem lf_X0_21 : Cond.fieldLink RX0 21 "DutyCase$Acts" "next" "I" ∈ tb := tb_2 (List.mem_of_getElem? (i := 41) rfl) rfl
set_option maxRecDepth 100000 in
theorem lf_X8_9 : Cond.fieldLink RX8 9 "DutyCase$Study" "allMany" "[I" ∈ tb := tb_2 (List.mem_of_getElem? (i := 59) rfl) rfl
set_option maxRecDepth 100000 in
theorem lf_X10_228 : Cond.fieldLink RX10 228 "DutyCase$Study" "allMany" "[I" ∈ tb := tb_2 (List.mem_of_getElem? (i := 60) rfl) rfl
set_option maxRecDepth 100000 in
theorem lf_X8_15 : Cond.fieldLink RX8 15 "DutyCase$Study" "belowMany" "[I" ∈ tb := tb_2 (List.mem_of_getElem? (i := 61) rfl) rfl
set_option maxRecDepth 100000 in
theorem lf_X10_231 : Cond.fieldLink RX10 231 "DutyCase$Study" "belowMany" "[I" ∈ tb := tb_2 (List.mem_of_getElem? (i := 62) rfl) rfl
set_option maxRecDepth 100000 in
theorem lf_X8_18 : Cond.fieldLink RX8 18 "DutyCase$Study" "below" "[Z" ∈ tb := tb_2 (List.mem_of_getElem? (i := 63) rfl) rfl
set_option maxRecDepth 100000 in
theorem lf_X10_169 : Cond.fieldLink RX10 169 "DutyCase$Study" "below" "[Z" ∈ tb := tb_2 (List.mem_of_getElem? (i := 64) rfl) rfl
set_option maxRecDepth 100000 in
theorem lf_X8_22 : Cond.fieldLink RX8 22 "DutyCase$Study" "in" "[Z" ∈ tb := tb_2 (List.mem_of_getElem? (i := 65) rfl) rfl
set_option maxRecDepth 100000 in
theorem lf_X10_173 : Cond.fieldLink RX10 173 "DutyCase$Study" "in" "[Z" ∈ tb := tb_2 (List.mem_of_getElem? (i := 66) rfl) rfl
set_option maxRecDepth 100000 in
theorem lf_X8_25 : Cond.fieldLink RX8 25 "DutyCase$Study" "base" "I" ∈ tb := tb_2 (List.mem_of_getElem? (i := 67) rfl) rfl
set_option maxRecDepth 100000 in
theorem lf_X10_225 : Cond.fieldLink RX10 225 "DutyCase$Study" "base" "I" ∈ tb := tb_2 (List.mem_of_getElem? (i := 68) rfl) rfl
set_option maxRecDepth 100000 in
theorem lf_X8_29 : Cond.fieldLink RX8 29 "DutyCase$Study" "hasIn" "[Z" ∈ tb := tb_2 (List.mem_of_getElem? (i := 69) rfl) rfl
set_option maxRecDepth 100000 in
theorem lf_X8_32 : Cond.fieldLink RX8 32 "DutyCase$Study" "inMany" "[I" ∈ tb := tb_2 (List.mem_of_getElem? (i := 70) rfl) rfl
set_option maxRecDepth 100000 in
theorem lf_X8_35 : Cond.fieldLink RX8 35 "DutyCase$Study" "inValue" "[J" ∈ tb := tb_2 (List.mem_of_getElem? (i := 71) rfl) rfl
set_option maxRecDepth 100000 in
theorem lf_X8_39 : Cond.fieldLink RX8 39 "DutyCase$Study" "marketMany" "[I" ∈ tb := tb_2 (List.mem_of_getElem? (i := 72) rfl) rfl
set_option maxRecDepth 100000 in
theorem lf_X8_42 : Cond.fieldLink RX8 42 "DutyCase$Study" "book" "LDutyCase$Book;" ∈ tb := tb_2 (List.mem_of_getElem? (i := 73) rfl) rfl
set_option maxRecDepth 100000 in
theorem lf_X8_46 : Cond.fieldLink RX8 46 "DutyCase$Study" "firm" "I" ∈ tb := tb_2 (List.mem_of_getElem? (i := 74) rfl) rfl
set_option maxRecDepth 100000 in
theorem lf_X2_25 : Cond.fieldLink RX2 25 "DutyCase$Comparison" "study" "LDutyCase$Study;" ∈ tb := tb_2 (List.mem_of_getElem? (i := 104) rfl) rfl
set_option maxRecDepth 100000 in
theorem lf_X2_9 : Cond.fieldLink RX2 9 "DutyCase$Comparison" "firstSale" "[I" ∈ tb := tb_2 (List.mem_of_getElem? (i := 105) rfl) rfl
set_option maxRecDepth 100000 in
theorem lf_X10_271 : Cond.fieldLink RX10 271 "DutyCase$Comparison" "firstSale" "[I" ∈ tb := tb_2 (List.mem_of_getElem? (i := 106) rfl) rfl
set_option maxRecDepth 100000 in
theorem lf_X2_15 : Cond.fieldLink RX2 15 "DutyCase$Comparison" "many" "[I" ∈ tb := tb_2 (List.mem_of_getElem? (i := 107) rfl) rfl
set_option maxRecDepth 100000 in
theorem lf_X10_277 : Cond.fieldLink RX10 277 "DutyCase$Comparison" "many" "[I" ∈ tb := tb_2 (List.mem_of_getElem? (i := 108) rfl) rfl
set_option maxRecDepth 100000 in
theorem lf_X2_18 : Cond.fieldLink RX2 18 "DutyCase$Comparison" "average" "[J" ∈ tb := tb_2 (List.mem_of_getElem? (i := 109) rfl) rfl
set_option maxRecDepth 100000 in
theorem lf_X10_278 : Cond.fieldLink RX10 278 "DutyCase$Comparison" "average" "[J" ∈ tb := tb_2 (List.mem_of_getElem? (i := 110) rfl) rfl
set_option maxRecDepth 100000 in
theorem lf_X2_22 : Cond.fieldLink RX2 22 "DutyCase$Comparison" "worth" "[J" ∈ tb := tb_2 (List.mem_of_getElem? (i := 111) rfl) rfl
set_option maxRecDepth 100000 in
theorem lf_X10_282 : Cond.fieldLink RX10 282 "DutyCase$Comparison" "worth" "[J" ∈ tb := tb_2 (List.mem_of_getElem? (i := 112) rfl) rfl
set_option maxRecDepth 100000 in
theorem lf_X2_35 : Cond.fieldLink RX2 35 "DutyCase$Comparison" "units" "I" ∈ tb := tb_2 (List.mem_of_getElem? (i := 113) rfl) rfl
set_option maxRecDepth 100000 in
theorem lf_X10_266 : Cond.fieldLink RX10 266 "DutyCase$Comparison" "units" "I" ∈ tb := tb_2 (List.mem_of_getElem? (i := 114) rfl) rfl
set_option maxRecDepth 100000 in
theorem lf_X2_39 : Cond.fieldLink RX2 39 "DutyCase$Comparison" "value" "J" ∈ tb := tb_2 (List.mem_of_getElem? (i := 115) rfl) rfl
set_option maxRecDepth 100000 in
theorem lf_X2_43 : Cond.fieldLink RX2 43 "DutyCase$Comparison" "allMany" "J" ∈ tb := tb_2 (List.mem_of_getElem? (i := 116) rfl) rfl
set_option maxRecDepth 100000 in
theorem lf_X3_38 : Cond.fieldLink RX3 38 "DutyCase$Duties" "comparison" "LDutyCase$Comparison;" ∈ tb := tb_2 (List.mem_of_getElem? (i := 140) rfl) rfl
set_option maxRecDepth 100000 in
theorem lf_X3_9 : Cond.fieldLink RX3 9 "DutyCase$Duties" "margin" "[I" ∈ tb := tb_2 (List.mem_of_getElem? (i := 141) rfl) rfl
set_option maxRecDepth 100000 in
theorem lf_X10_312 : Cond.fieldLink RX10 312 "DutyCase$Duties" "margin" "[I" ∈ tb := tb_2 (List.mem_of_getElem? (i := 142) rfl) rfl
set_option maxRecDepth 100000 in
theorem lf_X3_15 : Cond.fieldLink RX3 15 "DutyCase$Duties" "rate" "[I" ∈ tb := tb_2 (List.mem_of_getElem? (i := 143) rfl) rfl
set_option maxRecDepth 100000 in
theorem lf_X10_315 : Cond.fieldLink RX10 315 "DutyCase$Duties" "rate" "[I" ∈ tb := tb_2 (List.mem_of_getElem? (i := 144) rfl) rfl
set_option maxRecDepth 100000 in
theorem lf_X3_18 : Cond.fieldLink RX3 18 "DutyCase$Duties" "injury" "[I" ∈ tb := tb_2 (List.mem_of_getElem? (i := 145) rfl) rfl
set_option maxRecDepth 100000 in
theorem lf_X10_318 : Cond.fieldLink RX10 318 "DutyCase$Duties" "injury" "[I" ∈ tb := tb_2 (List.mem_of_getElem? (i := 146) rfl) rfl
set_option maxRecDepth 100000 in
theorem lf_X3_21 : Cond.fieldLink RX3 21 "DutyCase$Duties" "duty" "[I" ∈ tb := tb_2 (List.mem_of_getElem? (i := 147) rfl) rfl
set_option maxRecDepth 100000 in
theorem lf_X10_321 : Cond.fieldLink RX10 321 "DutyCase$Duties" "duty" "[I" ∈ tb := tb_2 (List.mem_of_getElem? (i := 148) rfl) rfl
set_option maxRecDepth 100000 in
theorem lf_X3_24 : Cond.fieldLink RX3 24 "DutyCase$Duties" "negligible" "[Z" ∈ tb := tb_2 (List.mem_of_getElem? (i := 149) rfl) rfl
set_option maxRecDepth 100000 in
theorem lf_X10_306 : Cond.fieldLink RX10 306 "DutyCase$Duties" "negligible" "[Z" ∈ tb := tb_2 (List.mem_of_getElem? (i := 150) rfl) rfl
set_option maxRecDepth 100000 in
theorem lf_X3_28 : Cond.fieldLink RX3 28 "DutyCase$Duties" "exportMany" "[I" ∈ tb := tb_2 (List.mem_of_getElem? (i := 151) rfl) rfl
set_option maxRecDepth 100000 in
theorem lf_X3_31 : Cond.fieldLink RX3 31 "DutyCase$Duties" "monthMany" "[I" ∈ tb := tb_2 (List.mem_of_getElem? (i := 152) rfl) rfl
set_option maxRecDepth 100000 in
theorem lf_X3_34 : Cond.fieldLink RX3 34 "DutyCase$Duties" "monthValue" "[J" ∈ tb := tb_2 (List.mem_of_getElem? (i := 153) rfl) rfl
set_option maxRecDepth 100000 in
theorem lf_X3_79 : Cond.fieldLink RX3 79 "DutyCase$Duties" "targetMany" "I" ∈ tb := tb_2 (List.mem_of_getElem? (i := 154) rfl) rfl
set_option maxRecDepth 100000 in
theorem lf_X6_9 : Cond.fieldLink RX6 9 "DutyCase$Report" "bytes" "[B" ∈ tb := tb_2 (List.mem_of_getElem? (i := 182) rfl) rfl
set_option maxRecDepth 100000 in
theorem lf_X10_393 : Cond.fieldLink RX10 393 "DutyCase$Report" "bytes" "[B" ∈ tb := tb_2 (List.mem_of_getElem? (i := 183) rfl) rfl
set_option maxRecDepth 100000 in
theorem lf_X6_13 : Cond.fieldLink RX6 13 "DutyCase$Report" "length" "I" ∈ tb := tb_2 (List.mem_of_getElem? (i := 184) rfl) rfl
set_option maxRecDepth 100000 in
theorem lf_X10_377 : Cond.fieldLink RX10 377 "DutyCase$Report" "length" "I" ∈ tb := tb_2 (List.mem_of_getElem? (i := 185) rfl) rfl
set_option maxRecDepth 100000 in
theorem lf_X10_24 : Cond.fieldLink RX10 24 "DutyCase" "reader" "LDutyCase$Reader;" ∈ tb := tb_2 (List.mem_of_getElem? (i := 191) rfl) rfl
set_option maxRecDepth 100000 in
theorem lf_X10_31 : Cond.fieldLink RX10 31 "DutyCase" "acts" "LDutyCase$Acts;" ∈ tb := tb_2 (List.mem_of_getElem? (i := 192) rfl) rfl
set_option maxRecDepth 100000 in
theorem lf_X10_38 : Cond.fieldLink RX10 38 "DutyCase" "study" "LDutyCase$Study;" ∈ tb := tb_2 (List.mem_of_getElem? (i := 193) rfl) rfl
set_option maxRecDepth 100000 in
theorem lf_X10_47 : Cond.fieldLink RX10 47 "DutyCase" "comparison" "LDutyCase$Comparison;" ∈ tb := tb_2 (List.mem_of_getElem? (i := 194) rfl) rfl
set_option maxRecDepth 100000 in
theorem lf_X10_56 : Cond.fieldLink RX10 56 "DutyCase" "duties" "LDutyCase$Duties;" ∈ tb := tb_2 (List.mem_of_getElem? (i := 195) rfl) rfl
set_option maxRecDepth 100000 in
theorem lf_X10_63 : Cond.fieldLink RX10 63 "DutyCase" "report" "LDutyCase$Report;" ∈ tb := tb_2 (List.mem_of_getElem? (i := 196) rfl) rfl
set_option maxRecDepth 100000 in
theorem lf_X10_10 : Cond.fieldLink RX10 10 "DutyCase" "book" "LDutyCase$Book;" ∈ tb := tb_2 (List.mem_of_getElem? (i := 197) rfl) rfl
set_option maxRecDepth 100000 in
theorem lf_X10_16 : Cond.fieldLink RX10 16 "DutyCase" "spare" "LDutyCase$Book;" ∈ tb := tb_2 (List.mem_of_getElem? (i := 198) rfl) rfl
set_option maxRecDepth 100000 in
theorem lm_L_135 : Cond.methodLink RL 135 yX10_feed ∈ tb := tb_2 (List.mem_of_getElem? (i := 216) rfl) rfl
set_option maxRecDepth 100000 in
theorem lm_X10_71 : Cond.methodLink RX10 71 yX5_append ∈ tb := tb_2 (List.mem_of_getElem? (i := 220) rfl) rfl
set_option maxRecDepth 100000 in
theorem lm_L_140 : Cond.methodLink RL 140 yX10_end ∈ tb := tb_2 (List.mem_of_getElem? (i := 224) rfl) rfl
set_option maxRecDepth 100000 in
theorem lm_L_153 : Cond.methodLink RL 153 yX10_fault ∈ tb := tb_2 (List.mem_of_getElem? (i := 228) rfl) rfl
set_option maxRecDepth 100000 in
theorem lm_L_193 : Cond.methodLink RL 193 yX10_undo ∈ tb := tb_2 (List.mem_of_getElem? (i := 232) rfl) rfl
set_option maxRecDepth 100000 in
theorem lm_X10_222 : Cond.methodLink RX10 222 yX0_takeBack ∈ tb := tb_2 (List.mem_of_getElem? (i := 236) rfl) rfl
set_option maxRecDepth 100000 in
theorem lm_X0_47 : Cond.methodLink RX0 47 yX1_tellPrice ∈ tb := tb_3 (List.mem_of_getElem? (i := 0) rfl) rfl
set_option maxRecDepth 100000 in
theorem lm_X1_95 : Cond.methodLink RX1 95 yX1_workOut ∈ tb := tb_3 (List.mem_of_getElem? (i := 4) rfl) rfl
set_option maxRecDepth 100000 in
theorem lm_X1_69 : Cond.methodLink RX1 69 yX1_costOf ∈ tb := tb_3 (List.mem_of_getElem? (i := 8) rfl) rfl
set_option maxRecDepth 100000 in
theorem lm_X1_73 : Cond.methodLink RX1 73 yX9_offOf ∈ tb := tb_3 (List.mem_of_getElem? (i := 12) rfl) rfl
set_option maxRecDepth 100000 in
theorem lm_X9_34 : Cond.methodLink RX9 34 yX9_letterOf ∈ tb := tb_3 (List.mem_of_getElem? (i := 16) rfl) rfl
set_option maxRecDepth 100000 in
theorem lm_X9_38 : Cond.methodLink RX9 38 yX9_apply ∈ tb := tb_3 (List.mem_of_getElem? (i := 19) rfl) rfl
set_option maxRecDepth 100000 in
theorem lm_X9_54 : Cond.methodLink RX9 54 yJ9_floorDiv_f86c9 ∈ tb := tb_3 (List.mem_of_getElem? (i := 22) rfl) rfl
set_option maxRecDepth 100000 in
theorem lc_X9_60 : Cond.constantLong RX9 60 (-1000000) ∈ tb := tb_3 (List.mem_of_getElem? (i := 25) rfl) rfl
set_option maxRecDepth 100000 in
theorem lc_X9_62 : Cond.constantLong RX9 62 (1000000) ∈ tb := tb_3 (List.mem_of_getElem? (i := 26) rfl) rfl
set_option maxRecDepth 100000 in
theorem lm_X9_64 : Cond.methodLink RX9 64 Lib.MathLoose.min_long.x ∈ tb := tb_3 (List.mem_of_getElem? (i := 27) rfl) rfl
set_option maxRecDepth 100000 in
theorem lm_X9_67 : Cond.methodLink RX9 67 Lib.MathLoose.max_long.x ∈ tb := tb_3 (List.mem_of_getElem? (i := 30) rfl) rfl
set_option maxRecDepth 100000 in
theorem lc_X1_83 : Cond.constant RX1 83 (99999) ∈ tb := tb_3 (List.mem_of_getElem? (i := 33) rfl) rfl
set_option maxRecDepth 100000 in
theorem lm_X1_87 : Cond.methodLink RX1 87 Lib.Math.min.name ∈ tb := tb_3 (List.mem_of_getElem? (i := 34) rfl) rfl
set_option maxRecDepth 100000 in
theorem lm_X1_92 : Cond.methodLink RX1 92 Lib.Math.max.name ∈ tb := tb_3 (List.mem_of_getElem? (i := 37) rfl) rfl
set_option maxRecDepth 100000 in
theorem lm_X0_51 : Cond.methodLink RX0 51 yX1_tellCost ∈ tb := tb_3 (List.mem_of_getElem? (i := 40) rfl) rfl
set_option maxRecDepth 100000 in
theorem lm_L_239 : Cond.methodLink RL 239 yX10_others ∈ tb := tb_3 (List.mem_of_getElem? (i := 44) rfl) rfl
set_option maxRecDepth 100000 in
theorem lm_X10_309 : Cond.methodLink RX10 309 yX3_assess ∈ tb := tb_3 (List.mem_of_getElem? (i := 48) rfl) rfl
set_option maxRecDepth 100000 in
theorem lm_X3_42 : Cond.methodLink RX3 42 yX3_markNegligible ∈ tb := tb_3 (List.mem_of_getElem? (i := 52) rfl) rfl
set_option maxRecDepth 100000 in
theorem lm_X3_93 : Cond.methodLink RX3 93 yX7_exportMany ∈ tb := tb_3 (List.mem_of_getElem? (i := 56) rfl) rfl
set_option maxRecDepth 100000 in
theorem lm_X7_49 : Cond.methodLink RX7 49 yX7_isOf ∈ tb := tb_3 (List.mem_of_getElem? (i := 60) rfl) rfl
set_option maxRecDepth 100000 in
theorem lm_X3_58 : Cond.methodLink RX3 58 yX2_marginNow ∈ tb := tb_3 (List.mem_of_getElem? (i := 64) rfl) rfl
set_option maxRecDepth 100000 in
theorem lm_X2_135 : Cond.methodLink RX2 135 yX2_gather ∈ tb := tb_3 (List.mem_of_getElem? (i := 68) rfl) rfl
set_option maxRecDepth 100000 in
theorem lm_X2_29 : Cond.methodLink RX2 29 yX8_look ∈ tb := tb_3 (List.mem_of_getElem? (i := 72) rfl) rfl
set_option maxRecDepth 100000 in
theorem lm_X8_49 : Cond.methodLink RX8 49 yX8_chooseBase ∈ tb := tb_3 (List.mem_of_getElem? (i := 76) rfl) rfl
set_option maxRecDepth 100000 in
theorem lm_X8_80 : Cond.methodLink RX8 80 yX8_canBeBase ∈ tb := tb_3 (List.mem_of_getElem? (i := 80) rfl) rfl
set_option maxRecDepth 100000 in
theorem lm_X8_52 : Cond.methodLink RX8 52 yX8_countBelow ∈ tb := tb_3 (List.mem_of_getElem? (i := 84) rfl) rfl
set_option maxRecDepth 100000 in
theorem lm_X8_87 : Cond.methodLink RX8 87 yX7_isOf ∈ tb := tb_3 (List.mem_of_getElem? (i := 88) rfl) rfl
set_option maxRecDepth 100000 in
theorem lm_X8_94 : Cond.methodLink RX8 94 yX1_costOf ∈ tb := tb_3 (List.mem_of_getElem? (i := 89) rfl) rfl
set_option maxRecDepth 100000 in
theorem lm_X8_55 : Cond.methodLink RX8 55 yX8_countIn ∈ tb := tb_3 (List.mem_of_getElem? (i := 90) rfl) rfl
set_option maxRecDepth 100000 in
theorem lm_X8_98 : Cond.methodLink RX8 98 yX8_leavesOut ∈ tb := tb_3 (List.mem_of_getElem? (i := 94) rfl) rfl
set_option maxRecDepth 100000 in
theorem lm_X8_104 : Cond.methodLink RX8 104 yX7_valueAt ∈ tb := tb_3 (List.mem_of_getElem? (i := 98) rfl) rfl
set_option maxRecDepth 100000 in
theorem lc_X7_47 : Cond.constantLong RX7 47 (1000) ∈ tb := tb_3 (List.mem_of_getElem? (i := 102) rfl) rfl
set_option maxRecDepth 100000 in
theorem lm_X2_57 : Cond.methodLink RX2 57 yX7_isOf ∈ tb := tb_3 (List.mem_of_getElem? (i := 103) rfl) rfl
set_option maxRecDepth 100000 in
theorem lm_X2_61 : Cond.methodLink RX2 61 yX2_addExport ∈ tb := tb_3 (List.mem_of_getElem? (i := 104) rfl) rfl
set_option maxRecDepth 100000 in
theorem lm_X2_69 : Cond.methodLink RX2 69 yX2_unitLike ∈ tb := tb_3 (List.mem_of_getElem? (i := 108) rfl) rfl
set_option maxRecDepth 100000 in
theorem lm_X2_84 : Cond.methodLink RX2 84 yX1_monthToCompare ∈ tb := tb_3 (List.mem_of_getElem? (i := 112) rfl) rfl
set_option maxRecDepth 100000 in
theorem lm_X2_74 : Cond.methodLink RX2 74 yX7_valueAt ∈ tb := tb_3 (List.mem_of_getElem? (i := 116) rfl) rfl
set_option maxRecDepth 100000 in
theorem lm_X2_65 : Cond.methodLink RX2 65 yX2_worthFor ∈ tb := tb_3 (List.mem_of_getElem? (i := 117) rfl) rfl
set_option maxRecDepth 100000 in
theorem lm_X2_88 : Cond.methodLink RX2 88 yX8_matchFor ∈ tb := tb_3 (List.mem_of_getElem? (i := 121) rfl) rfl
set_option maxRecDepth 100000 in
theorem lm_X8_146 : Cond.methodLink RX8 146 yX8_apart ∈ tb := tb_3 (List.mem_of_getElem? (i := 125) rfl) rfl
set_option maxRecDepth 100000 in
theorem lm_X8_115 : Cond.methodLink RX8 115 Lib.Math.abs.name ∈ tb := tb_3 (List.mem_of_getElem? (i := 129) rfl) rfl
set_option maxRecDepth 100000 in
theorem lm_X2_91 : Cond.methodLink RX2 91 yX8_worthByMatch ∈ tb := tb_3 (List.mem_of_getElem? (i := 132) rfl) rfl
set_option maxRecDepth 100000 in
theorem lc_X8_130 : Cond.constantLong RX8 130 (1000) ∈ tb := tb_3 (List.mem_of_getElem? (i := 136) rfl) rfl
set_option maxRecDepth 100000 in
theorem lm_X8_149 : Cond.methodLink RX8 149 Lib.Math.max.name ∈ tb := tb_3 (List.mem_of_getElem? (i := 137) rfl) rfl
set_option maxRecDepth 100000 in
theorem lm_X2_95 : Cond.methodLink RX2 95 yX8_worthAt ∈ tb := tb_3 (List.mem_of_getElem? (i := 138) rfl) rfl
set_option maxRecDepth 100000 in
theorem lm_X8_124 : Cond.methodLink RX8 124 yX8_modelFor ∈ tb := tb_3 (List.mem_of_getElem? (i := 142) rfl) rfl
set_option maxRecDepth 100000 in
theorem lm_X8_127 : Cond.methodLink RX8 127 yX8_levelFor ∈ tb := tb_3 (List.mem_of_getElem? (i := 146) rfl) rfl
set_option maxRecDepth 100000 in
theorem lm_X8_135 : Cond.methodLink RX8 135 yX8_averageAt ∈ tb := tb_3 (List.mem_of_getElem? (i := 150) rfl) rfl
set_option maxRecDepth 100000 in
theorem lm_X8_139 : Cond.methodLink RX8 139 Lib.MathLoose.max_long.x ∈ tb := tb_3 (List.mem_of_getElem? (i := 154) rfl) rfl
set_option maxRecDepth 100000 in
theorem lm_X2_146 : Cond.methodLink RX2 146 yX1_isZeroing ∈ tb := tb_3 (List.mem_of_getElem? (i := 155) rfl) rfl
set_option maxRecDepth 100000 in
theorem lm_X2_139 : Cond.methodLink RX2 139 yX2_marginAt ∈ tb := tb_3 (List.mem_of_getElem? (i := 159) rfl) rfl
set_option maxRecDepth 100000 in
theorem lm_X2_127 : Cond.methodLink RX2 127 yX2_sumAt ∈ tb := tb_3 (List.mem_of_getElem? (i := 163) rfl) rfl
set_option maxRecDepth 100000 in
theorem lm_X2_107 : Cond.methodLink RX2 107 yX2_differenceAt ∈ tb := tb_3 (List.mem_of_getElem? (i := 167) rfl) rfl
set_option maxRecDepth 100000 in
theorem lc_X2_102 : Cond.constantLong RX2 102 (1000) ∈ tb := tb_3 (List.mem_of_getElem? (i := 171) rfl) rfl
set_option maxRecDepth 100000 in
theorem lm_X2_110 : Cond.methodLink RX2 110 Lib.MathLoose.max_long.x ∈ tb := tb_3 (List.mem_of_getElem? (i := 172) rfl) rfl
set_option maxRecDepth 100000 in
theorem lm_X2_131 : Cond.methodLink RX2 131 yX2_marginOf ∈ tb := tb_3 (List.mem_of_getElem? (i := 173) rfl) rfl
set_option maxRecDepth 100000 in
theorem lc_X2_116 : Cond.constant RX2 116 (99999) ∈ tb := tb_3 (List.mem_of_getElem? (i := 176) rfl) rfl
set_option maxRecDepth 100000 in
theorem lc_X2_117 : Cond.constantLong RX2 117 (10000) ∈ tb := tb_3 (List.mem_of_getElem? (i := 177) rfl) rfl
set_option maxRecDepth 100000 in
theorem lm_X2_119 : Cond.methodLink RX2 119 yJ9_floorDiv_f86c9 ∈ tb := tb_3 (List.mem_of_getElem? (i := 178) rfl) rfl
set_option maxRecDepth 100000 in
theorem lc_X2_122 : Cond.constantLong RX2 122 (99999) ∈ tb := tb_3 (List.mem_of_getElem? (i := 179) rfl) rfl
set_option maxRecDepth 100000 in
theorem lm_X2_124 : Cond.methodLink RX2 124 Lib.MathLoose.min_long.x ∈ tb := tb_3 (List.mem_of_getElem? (i := 180) rfl) rfl
set_option maxRecDepth 100000 in
theorem lm_X3_67 : Cond.methodLink RX3 67 Lib.Math.max.name ∈ tb := tb_3 (List.mem_of_getElem? (i := 181) rfl) rfl
set_option maxRecDepth 100000 in
theorem lm_X3_73 : Cond.methodLink RX3 73 yX3_injuryOf ∈ tb := tb_3 (List.mem_of_getElem? (i := 182) rfl) rfl
set_option maxRecDepth 100000 in
theorem lm_X3_105 : Cond.methodLink RX3 105 yX7_isOf ∈ tb := tb_3 (List.mem_of_getElem? (i := 186) rfl) rfl
set_option maxRecDepth 100000 in
theorem lc_X3_109 : Cond.constantLong RX3 109 (1000) ∈ tb := tb_3 (List.mem_of_getElem? (i := 187) rfl) rfl
set_option maxRecDepth 100000 in
theorem lm_X3_117 : Cond.methodLink RX3 117 yX7_valueAt ∈ tb := tb_3 (List.mem_of_getElem? (i := 188) rfl) rfl
set_option maxRecDepth 100000 in
theorem lm_X3_121 : Cond.methodLink RX3 121 yX2_marginOf ∈ tb := tb_3 (List.mem_of_getElem? (i := 189) rfl) rfl
set_option maxRecDepth 100000 in
theorem lm_X3_82 : Cond.methodLink RX3 82 Lib.Math.min.name ∈ tb := tb_3 (List.mem_of_getElem? (i := 190) rfl) rfl
set_option maxRecDepth 100000 in
theorem lm_X10_326 : Cond.methodLink RX10 326 yX3_rateOfOthers ∈ tb := tb_3 (List.mem_of_getElem? (i := 191) rfl) rfl
set_option maxRecDepth 100000 in
theorem lm_X3_125 : Cond.methodLink RX3 125 yX7_exportValue ∈ tb := tb_3 (List.mem_of_getElem? (i := 195) rfl) rfl
set_option maxRecDepth 100000 in
theorem lm_X7_53 : Cond.methodLink RX7 53 yX7_valueAt ∈ tb := tb_3 (List.mem_of_getElem? (i := 199) rfl) rfl
set_option maxRecDepth 100000 in
theorem lm_L_264 : Cond.methodLink RL 264 yX10_ranked ∈ tb := tb_3 (List.mem_of_getElem? (i := 200) rfl) rfl
set_option maxRecDepth 100000 in
theorem lm_X10_374 : Cond.methodLink RX10 374 yX3_placeOf ∈ tb := tb_3 (List.mem_of_getElem? (i := 204) rfl) rfl
set_option maxRecDepth 100000 in
theorem lm_L_271 : Cond.methodLink RL 271 yX10_octet ∈ tb := tb_3 (List.mem_of_getElem? (i := 208) rfl) rfl
set_option maxRecDepth 100000 in
theorem lm_L_275 : Cond.methodLink RL 275 yX10_count ∈ tb := tb_3 (List.mem_of_getElem? (i := 212) rfl) rfl
set_option maxRecDepth 100000 in
theorem lm_X10_397 : Cond.methodLink RX10 397 yX7_countLive ∈ tb := tb_3 (List.mem_of_getElem? (i := 216) rfl) rfl
set_option maxRecDepth 100000 in
theorem lm_X10_400 : Cond.methodLink RX10 400 yX1_countSilent ∈ tb := tb_3 (List.mem_of_getElem? (i := 220) rfl) rfl
set_option maxRecDepth 100000 in
theorem lm_L_144 : Cond.methodLink RL 144 yL_read ∈ tb := tb_3 (List.mem_of_getElem? (i := 224) rfl) rfl
set_option maxRecDepth 100000 in
theorem lm_L_7 : Cond.methodLink RL 7 yX10_read ∈ tb := tb_3 (List.mem_of_getElem? (i := 228) rfl) rfl
set_option maxRecDepth 100000 in
theorem lm_X10_75 : Cond.methodLink RX10 75 yX5_parse ∈ tb := tb_3 (List.mem_of_getElem? (i := 232) rfl) rfl
set_option maxRecDepth 100000 in
theorem lm_X5_26 : Cond.methodLink RX5 26 yX1_clear ∈ tb := tb_3 (List.mem_of_getElem? (i := 236) rfl) rfl
set_option maxRecDepth 100000 in
theorem lm_X1_60 : Cond.methodLink RX1 60 yX9_clear ∈ tb := tb_4 (List.mem_of_getElem? (i := 0) rfl) rfl
set_option maxRecDepth 100000 in
theorem lm_X5_34 : Cond.methodLink RX5 34 yX5_step ∈ tb := tb_4 (List.mem_of_getElem? (i := 4) rfl) rfl
set_option maxRecDepth 100000 in
theorem lm_X5_207 : Cond.methodLink RX5 207 yX5_isBlank ∈ tb := tb_4 (List.mem_of_getElem? (i := 8) rfl) rfl
set_option maxRecDepth 100000 in
theorem lm_X5_211 : Cond.methodLink RX5 211 yX5_isLetter ∈ tb := tb_4 (List.mem_of_getElem? (i := 11) rfl) rfl
set_option maxRecDepth 100000 in
theorem lm_X5_214 : Cond.methodLink RX5 214 yX5_isDigit ∈ tb := tb_4 (List.mem_of_getElem? (i := 14) rfl) rfl
set_option maxRecDepth 100000 in
theorem lm_X5_40 : Cond.methodLink RX5 40 yX5_line ∈ tb := tb_4 (List.mem_of_getElem? (i := 17) rfl) rfl
set_option maxRecDepth 100000 in
theorem lm_X5_50 : Cond.methodLink RX5 50 yX5_keyword ∈ tb := tb_4 (List.mem_of_getElem? (i := 21) rfl) rfl
set_option maxRecDepth 100000 in
theorem lm_X5_177 : Cond.methodLink RX5 177 yX5_spells ∈ tb := tb_4 (List.mem_of_getElem? (i := 26) rfl) rfl
set_option maxRecDepth 100000 in
theorem lm_X5_199 : Cond.methodLink RX5 199 yJ0_length_8abf5 ∈ tb := tb_4 (List.mem_of_getElem? (i := 30) rfl) rfl
set_option maxRecDepth 100000 in
theorem lm_J0_335 : Cond.methodLink RJ0 335 yJ0_coder_7d493 ∈ tb := tb_4 (List.mem_of_getElem? (i := 34) rfl) rfl
set_option maxRecDepth 100000 in
theorem lm_X5_203 : Cond.methodLink RX5 203 yJ0_charAt_5068e ∈ tb := tb_4 (List.mem_of_getElem? (i := 40) rfl) rfl
set_option maxRecDepth 100000 in
theorem lm_J0_492 : Cond.methodLink RJ0 492 yJ0_isLatin1_aae02 ∈ tb := tb_4 (List.mem_of_getElem? (i := 44) rfl) rfl
set_option maxRecDepth 100000 in
theorem lm_J0_495 : Cond.methodLink RJ0 495 yJ1_charAt_3b067 ∈ tb := tb_4 (List.mem_of_getElem? (i := 48) rfl) rfl
set_option maxRecDepth 100000 in
theorem lm_J1_9 : Cond.methodLink RJ1 9 yJ0_checkIndex_df160 ∈ tb := tb_4 (List.mem_of_getElem? (i := 51) rfl) rfl
set_option maxRecDepth 100000 in
theorem lm_J0_1059 : Cond.methodLink RJ0 1059 yJ3_checkIndex_8e157 ∈ tb := tb_4 (List.mem_of_getElem? (i := 56) rfl) rfl
set_option maxRecDepth 100000 in
theorem lm_J0_498 : Cond.methodLink RJ0 498 yJ2_charAt_3b067 ∈ tb := tb_4 (List.mem_of_getElem? (i := 59) rfl) rfl
set_option maxRecDepth 100000 in
theorem lm_J2_67 : Cond.methodLink RJ2 67 yJ2_checkIndex_2214a ∈ tb := tb_4 (List.mem_of_getElem? (i := 62) rfl) rfl
set_option maxRecDepth 100000 in
theorem lm_J2_48 : Cond.methodLink RJ2 48 yJ2_length_9d52b ∈ tb := tb_4 (List.mem_of_getElem? (i := 65) rfl) rfl
set_option maxRecDepth 100000 in
theorem lm_J2_414 : Cond.methodLink RJ2 414 yJ0_checkIndex_df160 ∈ tb := tb_4 (List.mem_of_getElem? (i := 68) rfl) rfl
set_option maxRecDepth 100000 in
theorem lm_J2_71 : Cond.methodLink RJ2 71 yJ2_getChar_3b067 ∈ tb := tb_4 (List.mem_of_getElem? (i := 69) rfl) rfl
set_option maxRecDepth 100000 in
theorem lm_X5_54 : Cond.methodLink RX5 54 yX5_modelLine ∈ tb := tb_4 (List.mem_of_getElem? (i := 88) rfl) rfl
set_option maxRecDepth 100000 in
theorem lm_X5_75 : Cond.methodLink RX5 75 yX5_fail ∈ tb := tb_4 (List.mem_of_getElem? (i := 92) rfl) rfl
set_option maxRecDepth 100000 in
theorem lm_X5_87 : Cond.methodLink RX5 87 yX5_newName ∈ tb := tb_4 (List.mem_of_getElem? (i := 96) rfl) rfl
set_option maxRecDepth 100000 in
theorem lm_X5_168 : Cond.methodLink RX5 168 yX4_find ∈ tb := tb_4 (List.mem_of_getElem? (i := 100) rfl) rfl
set_option maxRecDepth 100000 in
theorem lm_X4_23 : Cond.methodLink RX4 23 yX4_isAt ∈ tb := tb_4 (List.mem_of_getElem? (i := 104) rfl) rfl
set_option maxRecDepth 100000 in
theorem lm_X5_172 : Cond.methodLink RX5 172 yX4_add ∈ tb := tb_4 (List.mem_of_getElem? (i := 108) rfl) rfl
set_option maxRecDepth 100000 in
theorem lm_X5_95 : Cond.methodLink RX5 95 yX5_number ∈ tb := tb_4 (List.mem_of_getElem? (i := 112) rfl) rfl
set_option maxRecDepth 100000 in
theorem lm_X5_162 : Cond.methodLink RX5 162 yX5_digits ∈ tb := tb_4 (List.mem_of_getElem? (i := 116) rfl) rfl
set_option maxRecDepth 100000 in
theorem lm_X5_57 : Cond.methodLink RX5 57 yX5_firmLine ∈ tb := tb_4 (List.mem_of_getElem? (i := 120) rfl) rfl
set_option maxRecDepth 100000 in
theorem lm_X5_60 : Cond.methodLink RX5 60 yX5_silentLine ∈ tb := tb_4 (List.mem_of_getElem? (i := 124) rfl) rfl
set_option maxRecDepth 100000 in
theorem lm_X5_108 : Cond.methodLink RX5 108 yX5_toldName ∈ tb := tb_4 (List.mem_of_getElem? (i := 128) rfl) rfl
set_option maxRecDepth 100000 in
theorem lm_X5_63 : Cond.methodLink RX5 63 yX5_costLine ∈ tb := tb_4 (List.mem_of_getElem? (i := 132) rfl) rfl
set_option maxRecDepth 100000 in
theorem lm_X5_66 : Cond.methodLink RX5 66 yX5_adjustLine ∈ tb := tb_4 (List.mem_of_getElem? (i := 136) rfl) rfl
set_option maxRecDepth 100000 in
theorem lm_X5_119 : Cond.methodLink RX5 119 yX5_marketWord ∈ tb := tb_4 (List.mem_of_getElem? (i := 140) rfl) rfl
set_option maxRecDepth 100000 in
theorem lm_X5_129 : Cond.methodLink RX5 129 yX5_readSum ∈ tb := tb_4 (List.mem_of_getElem? (i := 144) rfl) rfl
set_option maxRecDepth 100000 in
theorem lm_X5_150 : Cond.methodLink RX5 150 yX5_readTerm ∈ tb := tb_4 (List.mem_of_getElem? (i := 148) rfl) rfl
set_option maxRecDepth 100000 in
theorem lm_X5_156 : Cond.methodLink RX5 156 yX5_readAtom ∈ tb := tb_4 (List.mem_of_getElem? (i := 152) rfl) rfl
set_option maxRecDepth 100000 in
theorem lm_X5_43 : Cond.methodLink RX5 43 yX5_take ∈ tb := tb_4 (List.mem_of_getElem? (i := 156) rfl) rfl
set_option maxRecDepth 100000 in
theorem lm_X5_153 : Cond.methodLink RX5 153 yX9_emit ∈ tb := tb_4 (List.mem_of_getElem? (i := 160) rfl) rfl
set_option maxRecDepth 100000 in
theorem lm_X5_165 : Cond.methodLink RX5 165 yX5_letterCode ∈ tb := tb_4 (List.mem_of_getElem? (i := 164) rfl) rfl
set_option maxRecDepth 100000 in
theorem lm_X5_132 : Cond.methodLink RX5 132 yX9_tell ∈ tb := tb_4 (List.mem_of_getElem? (i := 168) rfl) rfl
set_option maxRecDepth 100000 in
theorem lm_X5_69 : Cond.methodLink RX5 69 yX5_sellLine ∈ tb := tb_4 (List.mem_of_getElem? (i := 172) rfl) rfl
set_option maxRecDepth 100000 in
theorem lm_X5_143 : Cond.methodLink RX5 143 yX7_add ∈ tb := tb_4 (List.mem_of_getElem? (i := 176) rfl) rfl
set_option maxRecDepth 100000 in
theorem lm_X5_72 : Cond.methodLink RX5 72 yX5_settingLine ∈ tb := tb_4 (List.mem_of_getElem? (i := 180) rfl) rfl
set_option maxRecDepth 100000 in
theorem lm_X5_47 : Cond.methodLink RX5 47 yX1_workOutAll ∈ tb := tb_4 (List.mem_of_getElem? (i := 184) rfl) rfl
set_option maxRecDepth 100000 in
theorem lm_L_157 : Cond.methodLink RL 157 yL_name ∈ tb := tb_5 (List.mem_of_getElem? (i := 16) rfl) rfl
set_option maxRecDepth 100000 in
theorem lm_L_15 : Cond.methodLink RL 15 yX10_name ∈ tb := tb_5 (List.mem_of_getElem? (i := 20) rfl) rfl
set_option maxRecDepth 100000 in
theorem lm_X10_98 : Cond.methodLink RX10 98 yX10_needFirm ∈ tb := tb_5 (List.mem_of_getElem? (i := 24) rfl) rfl
set_option maxRecDepth 100000 in
theorem lm_X10_105 : Cond.methodLink RX10 105 yX4_letterAt ∈ tb := tb_5 (List.mem_of_getElem? (i := 44) rfl) rfl
set_option maxRecDepth 100000 in
theorem lm_X10_111 : Cond.methodLink RX10 111 yX10_needModel ∈ tb := tb_5 (List.mem_of_getElem? (i := 48) rfl) rfl
set_option maxRecDepth 100000 in
theorem lm_L_161 : Cond.methodLink RL 161 yL_model ∈ tb := tb_5 (List.mem_of_getElem? (i := 53) rfl) rfl
set_option maxRecDepth 100000 in
theorem lm_L_21 : Cond.methodLink RL 21 yX10_model ∈ tb := tb_5 (List.mem_of_getElem? (i := 57) rfl) rfl
set_option maxRecDepth 100000 in
theorem lm_L_165 : Cond.methodLink RL 165 yL_cost ∈ tb := tb_5 (List.mem_of_getElem? (i := 77) rfl) rfl
set_option maxRecDepth 100000 in
theorem lm_L_27 : Cond.methodLink RL 27 yX10_cost ∈ tb := tb_5 (List.mem_of_getElem? (i := 80) rfl) rfl
set_option maxRecDepth 100000 in
theorem lm_X10_132 : Cond.methodLink RX10 132 yX1_costOf ∈ tb := tb_5 (List.mem_of_getElem? (i := 84) rfl) rfl
set_option maxRecDepth 100000 in
theorem lm_L_168 : Cond.methodLink RL 168 yL_sale ∈ tb := tb_5 (List.mem_of_getElem? (i := 85) rfl) rfl
set_option maxRecDepth 100000 in
theorem lm_L_30 : Cond.methodLink RL 30 yX10_sale ∈ tb := tb_5 (List.mem_of_getElem? (i := 88) rfl) rfl
set_option maxRecDepth 100000 in
theorem lm_X10_135 : Cond.methodLink RX10 135 yX10_needSale ∈ tb := tb_5 (List.mem_of_getElem? (i := 92) rfl) rfl
set_option maxRecDepth 100000 in
theorem lm_X10_165 : Cond.methodLink RX10 165 yX8_look ∈ tb := tb_5 (List.mem_of_getElem? (i := 97) rfl) rfl
set_option maxRecDepth 100000 in
theorem lm_L_171 : Cond.methodLink RL 171 yL_put ∈ tb := tb_5 (List.mem_of_getElem? (i := 99) rfl) rfl
set_option maxRecDepth 100000 in
theorem lm_L_33 : Cond.methodLink RL 33 yX10_put ∈ tb := tb_5 (List.mem_of_getElem? (i := 103) rfl) rfl
set_option maxRecDepth 100000 in
theorem lm_X10_178 : Cond.methodLink RX10 178 yX10_needWithin ∈ tb := tb_5 (List.mem_of_getElem? (i := 107) rfl) rfl
set_option maxRecDepth 100000 in
theorem lm_X10_187 : Cond.methodLink RX10 187 yX7_add ∈ tb := tb_5 (List.mem_of_getElem? (i := 127) rfl) rfl
set_option maxRecDepth 100000 in
theorem lm_X10_191 : Cond.methodLink RX10 191 yX1_workOut ∈ tb := tb_5 (List.mem_of_getElem? (i := 128) rfl) rfl
set_option maxRecDepth 100000 in
theorem lm_X10_194 : Cond.methodLink RX10 194 yX0_keep ∈ tb := tb_5 (List.mem_of_getElem? (i := 129) rfl) rfl
set_option maxRecDepth 100000 in
theorem lm_X0_28 : Cond.methodLink RX0 28 Lib.Math.min.name ∈ tb := tb_5 (List.mem_of_getElem? (i := 133) rfl) rfl
set_option maxRecDepth 100000 in
theorem lm_L_175 : Cond.methodLink RL 175 yL_drop ∈ tb := tb_5 (List.mem_of_getElem? (i := 134) rfl) rfl
set_option maxRecDepth 100000 in
theorem lm_L_39 : Cond.methodLink RL 39 yX10_drop ∈ tb := tb_5 (List.mem_of_getElem? (i := 137) rfl) rfl
set_option maxRecDepth 100000 in
theorem lm_L_179 : Cond.methodLink RL 179 yL_price ∈ tb := tb_5 (List.mem_of_getElem? (i := 141) rfl) rfl
set_option maxRecDepth 100000 in
theorem lm_L_43 : Cond.methodLink RL 43 yX10_price ∈ tb := tb_5 (List.mem_of_getElem? (i := 144) rfl) rfl
set_option maxRecDepth 100000 in
theorem lm_X10_200 : Cond.methodLink RX10 200 yX1_tellPrice ∈ tb := tb_5 (List.mem_of_getElem? (i := 148) rfl) rfl
set_option maxRecDepth 100000 in
theorem lm_L_182 : Cond.methodLink RL 182 yL_costs ∈ tb := tb_5 (List.mem_of_getElem? (i := 149) rfl) rfl
set_option maxRecDepth 100000 in
theorem lm_L_46 : Cond.methodLink RL 46 yX10_costs ∈ tb := tb_5 (List.mem_of_getElem? (i := 152) rfl) rfl
set_option maxRecDepth 100000 in
theorem lm_X10_207 : Cond.methodLink RX10 207 yX1_tellCost ∈ tb := tb_5 (List.mem_of_getElem? (i := 156) rfl) rfl
set_option maxRecDepth 100000 in
theorem lm_L_186 : Cond.methodLink RL 186 yL_set ∈ tb := tb_5 (List.mem_of_getElem? (i := 157) rfl) rfl
set_option maxRecDepth 100000 in
theorem lm_L_50 : Cond.methodLink RL 50 yX10_set ∈ tb := tb_5 (List.mem_of_getElem? (i := 160) rfl) rfl
set_option maxRecDepth 100000 in
theorem lm_X10_212 : Cond.methodLink RX10 212 yX10_mostOfSetting ∈ tb := tb_5 (List.mem_of_getElem? (i := 165) rfl) rfl
set_option maxRecDepth 100000 in
theorem lm_L_189 : Cond.methodLink RL 189 yL_silent ∈ tb := tb_5 (List.mem_of_getElem? (i := 168) rfl) rfl
set_option maxRecDepth 100000 in
theorem lm_L_53 : Cond.methodLink RL 53 yX10_silent ∈ tb := tb_5 (List.mem_of_getElem? (i := 171) rfl) rfl
set_option maxRecDepth 100000 in
theorem lm_L_197 : Cond.methodLink RL 197 yL_base ∈ tb := tb_5 (List.mem_of_getElem? (i := 175) rfl) rfl
set_option maxRecDepth 100000 in
theorem lm_L_57 : Cond.methodLink RL 57 yX10_base ∈ tb := tb_5 (List.mem_of_getElem? (i := 178) rfl) rfl
set_option maxRecDepth 100000 in
theorem lm_L_201 : Cond.methodLink RL 201 yL_below ∈ tb := tb_5 (List.mem_of_getElem? (i := 182) rfl) rfl
set_option maxRecDepth 100000 in
theorem lm_L_61 : Cond.methodLink RL 61 yX10_below ∈ tb := tb_5 (List.mem_of_getElem? (i := 185) rfl) rfl
set_option maxRecDepth 100000 in
theorem lm_X10_234 : Cond.methodLink RX10 234 yX8_leavesOut ∈ tb := tb_5 (List.mem_of_getElem? (i := 189) rfl) rfl
set_option maxRecDepth 100000 in
theorem lm_L_204 : Cond.methodLink RL 204 yL_worth ∈ tb := tb_5 (List.mem_of_getElem? (i := 191) rfl) rfl
set_option maxRecDepth 100000 in
theorem lm_L_64 : Cond.methodLink RL 64 yX10_worth ∈ tb := tb_5 (List.mem_of_getElem? (i := 194) rfl) rfl
set_option maxRecDepth 100000 in
theorem lm_X10_240 : Cond.methodLink RX10 240 yX8_worthAt ∈ tb := tb_5 (List.mem_of_getElem? (i := 198) rfl) rfl
set_option maxRecDepth 100000 in
theorem lm_L_208 : Cond.methodLink RL 208 yL_found ∈ tb := tb_5 (List.mem_of_getElem? (i := 199) rfl) rfl
set_option maxRecDepth 100000 in
theorem lm_L_68 : Cond.methodLink RL 68 yX10_found ∈ tb := tb_5 (List.mem_of_getElem? (i := 202) rfl) rfl
set_option maxRecDepth 100000 in
theorem lm_X10_244 : Cond.methodLink RX10 244 yX8_modelFor ∈ tb := tb_5 (List.mem_of_getElem? (i := 206) rfl) rfl
set_option maxRecDepth 100000 in
theorem lm_X10_247 : Cond.methodLink RX10 247 yX8_levelFor ∈ tb := tb_5 (List.mem_of_getElem? (i := 207) rfl) rfl
set_option maxRecDepth 100000 in
theorem lm_L_211 : Cond.methodLink RL 211 yL_match ∈ tb := tb_5 (List.mem_of_getElem? (i := 209) rfl) rfl
set_option maxRecDepth 100000 in
theorem lm_L_72 : Cond.methodLink RL 72 yX10_match ∈ tb := tb_5 (List.mem_of_getElem? (i := 212) rfl) rfl
set_option maxRecDepth 100000 in
theorem lm_X10_252 : Cond.methodLink RX10 252 yX10_needExport ∈ tb := tb_5 (List.mem_of_getElem? (i := 216) rfl) rfl
set_option maxRecDepth 100000 in
theorem lm_X10_255 : Cond.methodLink RX10 255 yX8_matchFor ∈ tb := tb_5 (List.mem_of_getElem? (i := 221) rfl) rfl
set_option maxRecDepth 100000 in
theorem lm_L_214 : Cond.methodLink RL 214 yL_difference ∈ tb := tb_5 (List.mem_of_getElem? (i := 222) rfl) rfl
set_option maxRecDepth 100000 in
theorem lm_L_75 : Cond.methodLink RL 75 yX10_difference ∈ tb := tb_5 (List.mem_of_getElem? (i := 225) rfl) rfl
set_option maxRecDepth 100000 in
theorem lm_X10_258 : Cond.methodLink RX10 258 yX2_differenceFor ∈ tb := tb_5 (List.mem_of_getElem? (i := 229) rfl) rfl
set_option maxRecDepth 100000 in
theorem lm_L_217 : Cond.methodLink RL 217 yL_groups ∈ tb := tb_5 (List.mem_of_getElem? (i := 233) rfl) rfl
set_option maxRecDepth 100000 in
theorem lm_L_79 : Cond.methodLink RL 79 yX10_groups ∈ tb := tb_5 (List.mem_of_getElem? (i := 236) rfl) rfl
set_option maxRecDepth 100000 in
theorem lm_X10_262 : Cond.methodLink RX10 262 yX2_gather ∈ tb := tb_6 (List.mem_of_getElem? (i := 0) rfl) rfl
set_option maxRecDepth 100000 in
theorem lm_L_220 : Cond.methodLink RL 220 yL_group ∈ tb := tb_6 (List.mem_of_getElem? (i := 1) rfl) rfl
set_option maxRecDepth 100000 in
theorem lm_L_82 : Cond.methodLink RL 82 yX10_group ∈ tb := tb_6 (List.mem_of_getElem? (i := 4) rfl) rfl
set_option maxRecDepth 100000 in
theorem lm_X10_274 : Cond.methodLink RX10 274 yX1_monthToCompare ∈ tb := tb_6 (List.mem_of_getElem? (i := 9) rfl) rfl
set_option maxRecDepth 100000 in
theorem lm_X10_285 : Cond.methodLink RX10 285 yX2_differenceAt ∈ tb := tb_6 (List.mem_of_getElem? (i := 10) rfl) rfl
set_option maxRecDepth 100000 in
theorem lm_L_223 : Cond.methodLink RL 223 yL_sum ∈ tb := tb_6 (List.mem_of_getElem? (i := 12) rfl) rfl
set_option maxRecDepth 100000 in
theorem lm_L_86 : Cond.methodLink RL 86 yX10_sum ∈ tb := tb_6 (List.mem_of_getElem? (i := 15) rfl) rfl
set_option maxRecDepth 100000 in
theorem lm_X10_291 : Cond.methodLink RX10 291 yX2_sumAt ∈ tb := tb_6 (List.mem_of_getElem? (i := 19) rfl) rfl
set_option maxRecDepth 100000 in
theorem lm_L_227 : Cond.methodLink RL 227 yL_value ∈ tb := tb_6 (List.mem_of_getElem? (i := 20) rfl) rfl
set_option maxRecDepth 100000 in
theorem lm_L_90 : Cond.methodLink RL 90 yX10_value ∈ tb := tb_6 (List.mem_of_getElem? (i := 23) rfl) rfl
set_option maxRecDepth 100000 in
theorem lm_X10_295 : Cond.methodLink RX10 295 yX7_exportValue ∈ tb := tb_6 (List.mem_of_getElem? (i := 27) rfl) rfl
set_option maxRecDepth 100000 in
theorem lm_L_230 : Cond.methodLink RL 230 yL_margin ∈ tb := tb_6 (List.mem_of_getElem? (i := 28) rfl) rfl
set_option maxRecDepth 100000 in
theorem lm_L_94 : Cond.methodLink RL 94 yX10_margin ∈ tb := tb_6 (List.mem_of_getElem? (i := 31) rfl) rfl
set_option maxRecDepth 100000 in
theorem lm_X10_299 : Cond.methodLink RX10 299 yX3_marginTold ∈ tb := tb_6 (List.mem_of_getElem? (i := 35) rfl) rfl
set_option maxRecDepth 100000 in
theorem lm_X3_85 : Cond.methodLink RX3 85 yX2_ownMargin ∈ tb := tb_6 (List.mem_of_getElem? (i := 39) rfl) rfl
set_option maxRecDepth 100000 in
theorem lm_L_233 : Cond.methodLink RL 233 yL_negligible ∈ tb := tb_6 (List.mem_of_getElem? (i := 43) rfl) rfl
set_option maxRecDepth 100000 in
theorem lm_L_98 : Cond.methodLink RL 98 yX10_negligible ∈ tb := tb_6 (List.mem_of_getElem? (i := 46) rfl) rfl
set_option maxRecDepth 100000 in
theorem lm_X10_303 : Cond.methodLink RX10 303 yX3_markNegligible ∈ tb := tb_6 (List.mem_of_getElem? (i := 50) rfl) rfl
set_option maxRecDepth 100000 in
theorem lm_L_236 : Cond.methodLink RL 236 yL_duty ∈ tb := tb_6 (List.mem_of_getElem? (i := 51) rfl) rfl
set_option maxRecDepth 100000 in
theorem lm_L_102 : Cond.methodLink RL 102 yX10_duty ∈ tb := tb_6 (List.mem_of_getElem? (i := 54) rfl) rfl
set_option maxRecDepth 100000 in
theorem lm_L_243 : Cond.methodLink RL 243 yL_method ∈ tb := tb_6 (List.mem_of_getElem? (i := 59) rfl) rfl
set_option maxRecDepth 100000 in
theorem lm_L_105 : Cond.methodLink RL 105 yX10_method ∈ tb := tb_6 (List.mem_of_getElem? (i := 62) rfl) rfl
set_option maxRecDepth 100000 in
theorem lm_X10_332 : Cond.methodLink RX10 332 yX1_isZeroing ∈ tb := tb_6 (List.mem_of_getElem? (i := 67) rfl) rfl
set_option maxRecDepth 100000 in
theorem lm_L_246 : Cond.methodLink RL 246 yL_undertaking ∈ tb := tb_6 (List.mem_of_getElem? (i := 68) rfl) rfl
set_option maxRecDepth 100000 in
theorem lm_L_108 : Cond.methodLink RL 108 yX10_undertaking ∈ tb := tb_6 (List.mem_of_getElem? (i := 71) rfl) rfl
set_option maxRecDepth 100000 in
theorem lm_X10_336 : Cond.methodLink RX10 336 yX7_exportMany ∈ tb := tb_6 (List.mem_of_getElem? (i := 75) rfl) rfl
set_option maxRecDepth 100000 in
theorem lm_X10_341 : Cond.methodLink RX10 341 yX2_leastRaise ∈ tb := tb_6 (List.mem_of_getElem? (i := 77) rfl) rfl
set_option maxRecDepth 100000 in
theorem lm_L_249 : Cond.methodLink RL 249 yL_picked ∈ tb := tb_6 (List.mem_of_getElem? (i := 81) rfl) rfl
set_option maxRecDepth 100000 in
theorem lm_L_111 : Cond.methodLink RL 111 yX10_picked ∈ tb := tb_6 (List.mem_of_getElem? (i := 84) rfl) rfl
set_option maxRecDepth 100000 in
theorem lm_X10_345 : Cond.methodLink RX10 345 yX3_pickedMonths ∈ tb := tb_6 (List.mem_of_getElem? (i := 88) rfl) rfl
set_option maxRecDepth 100000 in
theorem lc_X3_131 : Cond.constantLong RX3 131 (100) ∈ tb := tb_6 (List.mem_of_getElem? (i := 92) rfl) rfl
set_option maxRecDepth 100000 in
theorem lc_X3_133 : Cond.constantLong RX3 133 (98) ∈ tb := tb_6 (List.mem_of_getElem? (i := 93) rfl) rfl
set_option maxRecDepth 100000 in
theorem lm_L_252 : Cond.methodLink RL 252 yL_collected ∈ tb := tb_6 (List.mem_of_getElem? (i := 94) rfl) rfl
set_option maxRecDepth 100000 in
theorem lm_L_114 : Cond.methodLink RL 114 yX10_collected ∈ tb := tb_6 (List.mem_of_getElem? (i := 97) rfl) rfl
set_option maxRecDepth 100000 in
theorem lm_X10_349 : Cond.methodLink RX10 349 yX1_methodOwed ∈ tb := tb_6 (List.mem_of_getElem? (i := 101) rfl) rfl
set_option maxRecDepth 100000 in
theorem lm_X10_353 : Cond.methodLink RX10 353 Lib.MathLoose.max_long.x ∈ tb := tb_6 (List.mem_of_getElem? (i := 105) rfl) rfl
set_option maxRecDepth 100000 in
theorem lm_X10_359 : Cond.methodLink RX10 359 yX3_depositOf ∈ tb := tb_6 (List.mem_of_getElem? (i := 106) rfl) rfl
set_option maxRecDepth 100000 in
theorem lc_X3_138 : Cond.constantLong RX3 138 (10) ∈ tb := tb_6 (List.mem_of_getElem? (i := 110) rfl) rfl
set_option maxRecDepth 100000 in
theorem lm_L_255 : Cond.methodLink RL 255 yL_back ∈ tb := tb_6 (List.mem_of_getElem? (i := 111) rfl) rfl
set_option maxRecDepth 100000 in
theorem lm_L_118 : Cond.methodLink RL 118 yX10_back ∈ tb := tb_6 (List.mem_of_getElem? (i := 114) rfl) rfl
set_option maxRecDepth 100000 in
theorem lm_X10_363 : Cond.methodLink RX10 363 yX3_depositsOf ∈ tb := tb_6 (List.mem_of_getElem? (i := 118) rfl) rfl
set_option maxRecDepth 100000 in
theorem lm_X3_140 : Cond.methodLink RX3 140 yX3_depositOf ∈ tb := tb_6 (List.mem_of_getElem? (i := 122) rfl) rfl
set_option maxRecDepth 100000 in
theorem lm_L_258 : Cond.methodLink RL 258 yL_weight ∈ tb := tb_6 (List.mem_of_getElem? (i := 123) rfl) rfl
set_option maxRecDepth 100000 in
theorem lm_L_121 : Cond.methodLink RL 121 yX10_weight ∈ tb := tb_6 (List.mem_of_getElem? (i := 126) rfl) rfl
set_option maxRecDepth 100000 in
theorem lm_X10_366 : Cond.methodLink RX10 366 yX2_marginWithout ∈ tb := tb_6 (List.mem_of_getElem? (i := 130) rfl) rfl
set_option maxRecDepth 100000 in
theorem lm_X2_154 : Cond.methodLink RX2 154 yX2_marginNow ∈ tb := tb_6 (List.mem_of_getElem? (i := 134) rfl) rfl
set_option maxRecDepth 100000 in
theorem lm_X10_370 : Cond.methodLink RX10 370 yX2_marginNow ∈ tb := tb_6 (List.mem_of_getElem? (i := 135) rfl) rfl
set_option maxRecDepth 100000 in
theorem lm_L_261 : Cond.methodLink RL 261 yL_heaviest ∈ tb := tb_6 (List.mem_of_getElem? (i := 136) rfl) rfl
set_option maxRecDepth 100000 in
theorem lm_L_124 : Cond.methodLink RL 124 yX10_heaviest ∈ tb := tb_6 (List.mem_of_getElem? (i := 139) rfl) rfl
set_option maxRecDepth 100000 in
theorem lm_L_268 : Cond.methodLink RL 268 yL_write ∈ tb := tb_6 (List.mem_of_getElem? (i := 143) rfl) rfl
set_option maxRecDepth 100000 in
theorem lm_L_128 : Cond.methodLink RL 128 yX10_write ∈ tb := tb_6 (List.mem_of_getElem? (i := 146) rfl) rfl
set_option maxRecDepth 100000 in
theorem lm_X10_381 : Cond.methodLink RX10 381 yX6_add ∈ tb := tb_6 (List.mem_of_getElem? (i := 150) rfl) rfl
set_option maxRecDepth 100000 in
theorem lm_X10_383 : Cond.methodLink RX10 383 yX6_addHundredths ∈ tb := tb_6 (List.mem_of_getElem? (i := 154) rfl) rfl
set_option maxRecDepth 100000 in
theorem lm_X6_26 : Cond.methodLink RX6 26 yX6_add ∈ tb := tb_6 (List.mem_of_getElem? (i := 158) rfl) rfl
set_option maxRecDepth 100000 in
theorem lm_X10_388 : Cond.methodLink RX10 388 yX6_addText ∈ tb := tb_6 (List.mem_of_getElem? (i := 160) rfl) rfl
set_option maxRecDepth 100000 in
theorem lm_X6_17 : Cond.methodLink RX6 17 yJ0_length_8abf5 ∈ tb := tb_6 (List.mem_of_getElem? (i := 164) rfl) rfl
set_option maxRecDepth 100000 in
theorem lm_X6_22 : Cond.methodLink RX6 22 yJ0_charAt_5068e ∈ tb := tb_6 (List.mem_of_getElem? (i := 165) rfl) rfl
set_option maxRecDepth 100000 in
theorem lf_X11_104 : Cond.fieldLink RX11 104 "DutyCaseModel" "thrown" "I" ∈ tb := tb_6 (List.mem_of_getElem? (i := 173) rfl) rfl
set_option maxRecDepth 100000 in
theorem lf_X11_7 : Cond.fieldLink RX11 7 "DutyCaseModel" "w" "[I" ∈ tb := tb_6 (List.mem_of_getElem? (i := 174) rfl) rfl
set_option maxRecDepth 100000 in
theorem lf_X11_13 : Cond.fieldLink RX11 13 "DutyCaseModel" "draft" "[I" ∈ tb := tb_6 (List.mem_of_getElem? (i := 175) rfl) rfl
set_option maxRecDepth 100000 in
theorem lf_X11_16 : Cond.fieldLink RX11 16 "DutyCaseModel" "past" "[I" ∈ tb := tb_6 (List.mem_of_getElem? (i := 176) rfl) rfl
set_option maxRecDepth 100000 in
theorem lf_X11_294 : Cond.fieldLink RX11 294 "DutyCaseModel" "acts" "I" ∈ tb := tb_6 (List.mem_of_getElem? (i := 177) rfl) rfl
set_option maxRecDepth 100000 in
theorem lf_X11_288 : Cond.fieldLink RX11 288 "DutyCaseModel" "models" "I" ∈ tb := tb_6 (List.mem_of_getElem? (i := 178) rfl) rfl
set_option maxRecDepth 100000 in
theorem lf_X11_291 : Cond.fieldLink RX11 291 "DutyCaseModel" "firms" "I" ∈ tb := tb_6 (List.mem_of_getElem? (i := 179) rfl) rfl
set_option maxRecDepth 100000 in
theorem lf_X11_19 : Cond.fieldLink RX11 19 "DutyCaseModel" "modelName" "[I" ∈ tb := tb_6 (List.mem_of_getElem? (i := 180) rfl) rfl
set_option maxRecDepth 100000 in
theorem lf_X11_22 : Cond.fieldLink RX11 22 "DutyCaseModel" "firmName" "[I" ∈ tb := tb_6 (List.mem_of_getElem? (i := 181) rfl) rfl
set_option maxRecDepth 100000 in
theorem lf_X11_25 : Cond.fieldLink RX11 25 "DutyCaseModel" "modelNumber" "[I" ∈ tb := tb_6 (List.mem_of_getElem? (i := 182) rfl) rfl
set_option maxRecDepth 100000 in
theorem lf_X11_28 : Cond.fieldLink RX11 28 "DutyCaseModel" "code" "[I" ∈ tb := tb_6 (List.mem_of_getElem? (i := 183) rfl) rfl
set_option maxRecDepth 100000 in
theorem lf_X11_31 : Cond.fieldLink RX11 31 "DutyCaseModel" "codeValue" "[I" ∈ tb := tb_6 (List.mem_of_getElem? (i := 184) rfl) rfl
set_option maxRecDepth 100000 in
theorem lf_X11_34 : Cond.fieldLink RX11 34 "DutyCaseModel" "codes" "[I" ∈ tb := tb_6 (List.mem_of_getElem? (i := 185) rfl) rfl
set_option maxRecDepth 100000 in
theorem lf_X11_37 : Cond.fieldLink RX11 37 "DutyCaseModel" "tape" "[B" ∈ tb := tb_6 (List.mem_of_getElem? (i := 186) rfl) rfl
set_option maxRecDepth 100000 in
theorem lf_X11_107 : Cond.fieldLink RX11 107 "DutyCaseModel" "taped" "I" ∈ tb := tb_6 (List.mem_of_getElem? (i := 187) rfl) rfl
set_option maxRecDepth 100000 in
theorem lf_X11_117 : Cond.fieldLink RX11 117 "DutyCaseModel" "size" "I" ∈ tb := tb_6 (List.mem_of_getElem? (i := 188) rfl) rfl
set_option maxRecDepth 100000 in
theorem lf_X11_110 : Cond.fieldLink RX11 110 "DutyCaseModel" "at" "I" ∈ tb := tb_6 (List.mem_of_getElem? (i := 189) rfl) rfl
set_option maxRecDepth 100000 in
theorem lf_X11_41 : Cond.fieldLink RX11 41 "DutyCaseModel" "fault" "I" ∈ tb := tb_6 (List.mem_of_getElem? (i := 190) rfl) rfl
set_option maxRecDepth 100000 in
theorem lf_X11_196 : Cond.fieldLink RX11 196 "DutyCaseModel" "newModels" "I" ∈ tb := tb_6 (List.mem_of_getElem? (i := 191) rfl) rfl
set_option maxRecDepth 100000 in
theorem lf_X11_189 : Cond.fieldLink RX11 189 "DutyCaseModel" "newFirms" "I" ∈ tb := tb_6 (List.mem_of_getElem? (i := 192) rfl) rfl
set_option maxRecDepth 100000 in
theorem lf_X11_45 : Cond.fieldLink RX11 45 "DutyCaseModel" "newModelName" "[I" ∈ tb := tb_6 (List.mem_of_getElem? (i := 193) rfl) rfl
set_option maxRecDepth 100000 in
theorem lf_X11_48 : Cond.fieldLink RX11 48 "DutyCaseModel" "newFirmName" "[I" ∈ tb := tb_6 (List.mem_of_getElem? (i := 194) rfl) rfl
set_option maxRecDepth 100000 in
theorem lf_X11_51 : Cond.fieldLink RX11 51 "DutyCaseModel" "newModelNumber" "[I" ∈ tb := tb_6 (List.mem_of_getElem? (i := 195) rfl) rfl
set_option maxRecDepth 100000 in
theorem lf_X11_54 : Cond.fieldLink RX11 54 "DutyCaseModel" "newCode" "[I" ∈ tb := tb_6 (List.mem_of_getElem? (i := 196) rfl) rfl
set_option maxRecDepth 100000 in
theorem lf_X11_57 : Cond.fieldLink RX11 57 "DutyCaseModel" "newCodeValue" "[I" ∈ tb := tb_6 (List.mem_of_getElem? (i := 197) rfl) rfl
set_option maxRecDepth 100000 in
theorem lf_X11_60 : Cond.fieldLink RX11 60 "DutyCaseModel" "newCodes" "[I" ∈ tb := tb_6 (List.mem_of_getElem? (i := 198) rfl) rfl
set_option maxRecDepth 100000 in
theorem lf_X11_213 : Cond.fieldLink RX11 213 "DutyCaseModel" "adjusted" "I" ∈ tb := tb_6 (List.mem_of_getElem? (i := 199) rfl) rfl
set_option maxRecDepth 100000 in
theorem lf_X11_237 : Cond.fieldLink RX11 237 "DutyCaseModel" "open" "I" ∈ tb := tb_6 (List.mem_of_getElem? (i := 200) rfl) rfl
set_option maxRecDepth 100000 in
theorem lf_X11_63 : Cond.fieldLink RX11 63 "DutyCaseModel" "waiting" "[I" ∈ tb := tb_6 (List.mem_of_getElem? (i := 201) rfl) rfl
set_option maxRecDepth 100000 in
theorem lf_X11_226 : Cond.fieldLink RX11 226 "DutyCaseModel" "waits" "I" ∈ tb := tb_6 (List.mem_of_getElem? (i := 202) rfl) rfl
set_option maxRecDepth 100000 in
theorem lf_X11_297 : Cond.fieldLink RX11 297 "DutyCaseModel" "isLaid" "Z" ∈ tb := tb_6 (List.mem_of_getElem? (i := 203) rfl) rfl
set_option maxRecDepth 100000 in
theorem lf_X11_66 : Cond.fieldLink RX11 66 "DutyCaseModel" "off" "[I" ∈ tb := tb_6 (List.mem_of_getElem? (i := 204) rfl) rfl
set_option maxRecDepth 100000 in
theorem lf_X11_69 : Cond.fieldLink RX11 69 "DutyCaseModel" "net" "[I" ∈ tb := tb_6 (List.mem_of_getElem? (i := 205) rfl) rfl
set_option maxRecDepth 100000 in
theorem lf_X11_72 : Cond.fieldLink RX11 72 "DutyCaseModel" "isBelow" "[Z" ∈ tb := tb_6 (List.mem_of_getElem? (i := 206) rfl) rfl
set_option maxRecDepth 100000 in
theorem lf_X11_76 : Cond.fieldLink RX11 76 "DutyCaseModel" "isInto" "[Z" ∈ tb := tb_6 (List.mem_of_getElem? (i := 207) rfl) rfl
set_option maxRecDepth 100000 in
theorem lf_X11_79 : Cond.fieldLink RX11 79 "DutyCaseModel" "baseOf" "[I" ∈ tb := tb_6 (List.mem_of_getElem? (i := 208) rfl) rfl
set_option maxRecDepth 100000 in
theorem lf_X11_82 : Cond.fieldLink RX11 82 "DutyCaseModel" "stack" "[J" ∈ tb := tb_6 (List.mem_of_getElem? (i := 209) rfl) rfl
set_option maxRecDepth 100000 in
theorem lf_X11_395 : Cond.fieldLink RX11 395 "DutyCaseModel" "foundHow" "I" ∈ tb := tb_6 (List.mem_of_getElem? (i := 210) rfl) rfl
set_option maxRecDepth 100000 in
theorem lf_X11_398 : Cond.fieldLink RX11 398 "DutyCaseModel" "foundModel" "I" ∈ tb := tb_6 (List.mem_of_getElem? (i := 211) rfl) rfl
set_option maxRecDepth 100000 in
theorem lf_X11_401 : Cond.fieldLink RX11 401 "DutyCaseModel" "foundLevel" "I" ∈ tb := tb_6 (List.mem_of_getElem? (i := 212) rfl) rfl
set_option maxRecDepth 100000 in
theorem lf_X11_86 : Cond.fieldLink RX11 86 "DutyCaseModel" "part" "[J" ∈ tb := tb_6 (List.mem_of_getElem? (i := 213) rfl) rfl
set_option maxRecDepth 100000 in
theorem lf_X11_89 : Cond.fieldLink RX11 89 "DutyCaseModel" "partMany" "[I" ∈ tb := tb_6 (List.mem_of_getElem? (i := 214) rfl) rfl
set_option maxRecDepth 100000 in
theorem lf_X11_92 : Cond.fieldLink RX11 92 "DutyCaseModel" "partSale" "[I" ∈ tb := tb_6 (List.mem_of_getElem? (i := 215) rfl) rfl
set_option maxRecDepth 100000 in
theorem lf_X11_95 : Cond.fieldLink RX11 95 "DutyCaseModel" "partAverage" "[J" ∈ tb := tb_6 (List.mem_of_getElem? (i := 216) rfl) rfl
set_option maxRecDepth 100000 in
theorem lf_X11_98 : Cond.fieldLink RX11 98 "DutyCaseModel" "partWorth" "[J" ∈ tb := tb_6 (List.mem_of_getElem? (i := 217) rfl) rfl
set_option maxRecDepth 100000 in
theorem lf_X11_437 : Cond.fieldLink RX11 437 "DutyCaseModel" "parts" "I" ∈ tb := tb_6 (List.mem_of_getElem? (i := 218) rfl) rfl
set_option maxRecDepth 100000 in
theorem lf_X11_101 : Cond.fieldLink RX11 101 "DutyCaseModel" "written" "[I" ∈ tb := tb_6 (List.mem_of_getElem? (i := 219) rfl) rfl
set_option maxRecDepth 100000 in
theorem lf_X11_526 : Cond.fieldLink RX11 526 "DutyCaseModel" "writtenMany" "I" ∈ tb := tb_6 (List.mem_of_getElem? (i := 220) rfl) rfl
set_option maxRecDepth 100000 in
theorem lm_L_150 : Cond.methodLink RL 150 yX11_thrown ∈ tb := tb_7 (List.mem_of_getElem? (i := 78) rfl) rfl
set_option maxRecDepth 100000 in
theorem lm_L_139 : Cond.methodLink RL 139 yX11_feed ∈ tb := tb_7 (List.mem_of_getElem? (i := 82) rfl) rfl
set_option maxRecDepth 100000 in
theorem lm_L_143 : Cond.methodLink RL 143 yX11_end ∈ tb := tb_7 (List.mem_of_getElem? (i := 86) rfl) rfl
set_option maxRecDepth 100000 in
theorem lm_L_149 : Cond.methodLink RL 149 yX11_read ∈ tb := tb_7 (List.mem_of_getElem? (i := 90) rfl) rfl
set_option maxRecDepth 100000 in
theorem lm_X11_140 : Cond.methodLink RX11 140 yX11_isWrong ∈ tb := tb_7 (List.mem_of_getElem? (i := 94) rfl) rfl
set_option maxRecDepth 100000 in
theorem lm_X11_120 : Cond.methodLink RX11 120 yX11_here ∈ tb := tb_7 (List.mem_of_getElem? (i := 98) rfl) rfl
set_option maxRecDepth 100000 in
theorem lm_X11_279 : Cond.methodLink RX11 279 yX11_line ∈ tb := tb_7 (List.mem_of_getElem? (i := 102) rfl) rfl
set_option maxRecDepth 100000 in
theorem lm_X11_144 : Cond.methodLink RX11 144 yX11_isWord ∈ tb := tb_7 (List.mem_of_getElem? (i := 107) rfl) rfl
set_option maxRecDepth 100000 in
theorem lm_X11_128 : Cond.methodLink RX11 128 yX11_wordLong ∈ tb := tb_7 (List.mem_of_getElem? (i := 111) rfl) rfl
set_option maxRecDepth 100000 in
theorem lm_X11_124 : Cond.methodLink RX11 124 yX11_isLetter ∈ tb := tb_7 (List.mem_of_getElem? (i := 115) rfl) rfl
set_option maxRecDepth 100000 in
theorem lm_X11_131 : Cond.methodLink RX11 131 yJ0_length_8abf5 ∈ tb := tb_7 (List.mem_of_getElem? (i := 118) rfl) rfl
set_option maxRecDepth 100000 in
theorem lm_X11_136 : Cond.methodLink RX11 136 yJ0_charAt_5068e ∈ tb := tb_7 (List.mem_of_getElem? (i := 119) rfl) rfl
set_option maxRecDepth 100000 in
theorem lm_X11_148 : Cond.methodLink RX11 148 yX11_wrong ∈ tb := tb_7 (List.mem_of_getElem? (i := 120) rfl) rfl
set_option maxRecDepth 100000 in
theorem lm_X11_113 : Cond.methodLink RX11 113 yX11_wrongAt ∈ tb := tb_7 (List.mem_of_getElem? (i := 124) rfl) rfl
set_option maxRecDepth 100000 in
theorem lm_X11_258 : Cond.methodLink RX11 258 yX11_modelLine ∈ tb := tb_7 (List.mem_of_getElem? (i := 128) rfl) rfl
set_option maxRecDepth 100000 in
theorem lm_X11_199 : Cond.methodLink RX11 199 yX11_fresh ∈ tb := tb_7 (List.mem_of_getElem? (i := 132) rfl) rfl
set_option maxRecDepth 100000 in
theorem lm_X11_186 : Cond.methodLink RX11 186 yX11_nameHere ∈ tb := tb_7 (List.mem_of_getElem? (i := 136) rfl) rfl
set_option maxRecDepth 100000 in
theorem lm_X11_183 : Cond.methodLink RX11 183 yX11_isKeyword ∈ tb := tb_7 (List.mem_of_getElem? (i := 140) rfl) rfl
set_option maxRecDepth 100000 in
theorem lm_X11_174 : Cond.methodLink RX11 174 yX11_market ∈ tb := tb_7 (List.mem_of_getElem? (i := 151) rfl) rfl
set_option maxRecDepth 100000 in
theorem lm_X11_192 : Cond.methodLink RX11 192 yX11_find ∈ tb := tb_7 (List.mem_of_getElem? (i := 158) rfl) rfl
set_option maxRecDepth 100000 in
theorem lm_X11_203 : Cond.methodLink RX11 203 yX11_numberIn ∈ tb := tb_7 (List.mem_of_getElem? (i := 161) rfl) rfl
set_option maxRecDepth 100000 in
theorem lm_X11_154 : Cond.methodLink RX11 154 yX11_number ∈ tb := tb_7 (List.mem_of_getElem? (i := 165) rfl) rfl
set_option maxRecDepth 100000 in
theorem lm_X11_151 : Cond.methodLink RX11 151 yX11_isDigitAt ∈ tb := tb_7 (List.mem_of_getElem? (i := 169) rfl) rfl
set_option maxRecDepth 100000 in
theorem lm_X11_261 : Cond.methodLink RX11 261 yX11_firmLine ∈ tb := tb_7 (List.mem_of_getElem? (i := 173) rfl) rfl
set_option maxRecDepth 100000 in
theorem lm_X11_264 : Cond.methodLink RX11 264 yX11_takes ∈ tb := tb_7 (List.mem_of_getElem? (i := 177) rfl) rfl
set_option maxRecDepth 100000 in
theorem lm_X11_207 : Cond.methodLink RX11 207 yX11_told ∈ tb := tb_7 (List.mem_of_getElem? (i := 181) rfl) rfl
set_option maxRecDepth 100000 in
theorem lm_X11_267 : Cond.methodLink RX11 267 yX11_costLine ∈ tb := tb_7 (List.mem_of_getElem? (i := 185) rfl) rfl
set_option maxRecDepth 100000 in
theorem lm_X11_270 : Cond.methodLink RX11 270 yX11_adjustLine ∈ tb := tb_7 (List.mem_of_getElem? (i := 189) rfl) rfl
set_option maxRecDepth 100000 in
theorem lm_X11_210 : Cond.methodLink RX11 210 yX11_marketHere ∈ tb := tb_7 (List.mem_of_getElem? (i := 193) rfl) rfl
set_option maxRecDepth 100000 in
theorem lm_X11_255 : Cond.methodLink RX11 255 yX11_sumHere ∈ tb := tb_7 (List.mem_of_getElem? (i := 197) rfl) rfl
set_option maxRecDepth 100000 in
theorem lm_X11_246 : Cond.methodLink RX11 246 yX11_opensOrAtom ∈ tb := tb_7 (List.mem_of_getElem? (i := 201) rfl) rfl
set_option maxRecDepth 100000 in
theorem lm_X11_240 : Cond.methodLink RX11 240 yX11_pushes ∈ tb := tb_7 (List.mem_of_getElem? (i := 205) rfl) rfl
set_option maxRecDepth 100000 in
theorem lm_X11_243 : Cond.methodLink RX11 243 yX11_factHere ∈ tb := tb_7 (List.mem_of_getElem? (i := 209) rfl) rfl
set_option maxRecDepth 100000 in
theorem lm_X11_233 : Cond.methodLink RX11 233 yX11_emits ∈ tb := tb_7 (List.mem_of_getElem? (i := 218) rfl) rfl
set_option maxRecDepth 100000 in
theorem lm_X11_249 : Cond.methodLink RX11 249 yX11_signOf ∈ tb := tb_7 (List.mem_of_getElem? (i := 222) rfl) rfl
set_option maxRecDepth 100000 in
theorem lm_X11_229 : Cond.methodLink RX11 229 yX11_binds ∈ tb := tb_7 (List.mem_of_getElem? (i := 225) rfl) rfl
set_option maxRecDepth 100000 in
theorem lm_X11_252 : Cond.methodLink RX11 252 yX11_settles ∈ tb := tb_7 (List.mem_of_getElem? (i := 228) rfl) rfl
set_option maxRecDepth 100000 in
theorem lm_X11_273 : Cond.methodLink RX11 273 yX11_sellLine ∈ tb := tb_7 (List.mem_of_getElem? (i := 232) rfl) rfl
set_option maxRecDepth 100000 in
theorem lm_X11_276 : Cond.methodLink RX11 276 yX11_sign ∈ tb := tb_7 (List.mem_of_getElem? (i := 236) rfl) rfl
set_option maxRecDepth 100000 in
theorem lm_X11_282 : Cond.methodLink RX11 282 yX11_fails ∈ tb := tb_8 (List.mem_of_getElem? (i := 0) rfl) rfl
set_option maxRecDepth 100000 in
theorem lm_X11_285 : Cond.methodLink RX11 285 yX11_takesAll ∈ tb := tb_8 (List.mem_of_getElem? (i := 4) rfl) rfl
set_option maxRecDepth 100000 in
theorem lm_L_156 : Cond.methodLink RL 156 yX11_fault ∈ tb := tb_8 (List.mem_of_getElem? (i := 8) rfl) rfl
set_option maxRecDepth 100000 in
theorem lm_L_160 : Cond.methodLink RL 160 yX11_name ∈ tb := tb_8 (List.mem_of_getElem? (i := 12) rfl) rfl
set_option maxRecDepth 100000 in
theorem lm_X11_311 : Cond.methodLink RX11 311 yX11_isFirm ∈ tb := tb_8 (List.mem_of_getElem? (i := 16) rfl) rfl
set_option maxRecDepth 100000 in
theorem lm_X11_301 : Cond.methodLink RX11 301 yX11_isIn ∈ tb := tb_8 (List.mem_of_getElem? (i := 20) rfl) rfl
set_option maxRecDepth 100000 in
theorem lm_X11_314 : Cond.methodLink RX11 314 yX11_isModel ∈ tb := tb_8 (List.mem_of_getElem? (i := 23) rfl) rfl
set_option maxRecDepth 100000 in
theorem lm_X11_317 : Cond.methodLink RX11 317 yX11_letter ∈ tb := tb_8 (List.mem_of_getElem? (i := 27) rfl) rfl
set_option maxRecDepth 100000 in
theorem lm_X11_308 : Cond.methodLink RX11 308 yX11_lettersOf ∈ tb := tb_8 (List.mem_of_getElem? (i := 30) rfl) rfl
set_option maxRecDepth 100000 in
theorem lm_L_164 : Cond.methodLink RL 164 yX11_model ∈ tb := tb_8 (List.mem_of_getElem? (i := 33) rfl) rfl
set_option maxRecDepth 100000 in
theorem lc_X11_320 : Cond.constantLong RX11 320 (2) ∈ tb := tb_8 (List.mem_of_getElem? (i := 37) rfl) rfl
set_option maxRecDepth 100000 in
theorem lm_L_167 : Cond.methodLink RL 167 yX11_cost ∈ tb := tb_8 (List.mem_of_getElem? (i := 38) rfl) rfl
set_option maxRecDepth 100000 in
theorem lm_X11_322 : Cond.methodLink RX11 322 yX11_costOf ∈ tb := tb_8 (List.mem_of_getElem? (i := 42) rfl) rfl
set_option maxRecDepth 100000 in
theorem lm_L_170 : Cond.methodLink RL 170 yX11_sale ∈ tb := tb_8 (List.mem_of_getElem? (i := 46) rfl) rfl
set_option maxRecDepth 100000 in
theorem lm_X11_341 : Cond.methodLink RX11 341 yX11_isSale ∈ tb := tb_8 (List.mem_of_getElem? (i := 50) rfl) rfl
set_option maxRecDepth 100000 in
theorem lm_X11_305 : Cond.methodLink RX11 305 yX11_of ∈ tb := tb_8 (List.mem_of_getElem? (i := 54) rfl) rfl
set_option maxRecDepth 100000 in
theorem lc_X11_365 : Cond.constantLong RX11 365 (10) ∈ tb := tb_8 (List.mem_of_getElem? (i := 58) rfl) rfl
set_option maxRecDepth 100000 in
theorem lm_X11_367 : Cond.methodLink RX11 367 yX11_lays ∈ tb := tb_8 (List.mem_of_getElem? (i := 59) rfl) rfl
set_option maxRecDepth 100000 in
theorem lm_X11_354 : Cond.methodLink RX11 354 yX11_baseFor ∈ tb := tb_8 (List.mem_of_getElem? (i := 63) rfl) rfl
set_option maxRecDepth 100000 in
theorem lm_X11_344 : Cond.methodLink RX11 344 yX11_manyIn ∈ tb := tb_8 (List.mem_of_getElem? (i := 67) rfl) rfl
set_option maxRecDepth 100000 in
theorem lm_X11_357 : Cond.methodLink RX11 357 yX11_offOf ∈ tb := tb_8 (List.mem_of_getElem? (i := 71) rfl) rfl
set_option maxRecDepth 100000 in
theorem lm_X11_329 : Cond.methodLink RX11 329 yX11_fact ∈ tb := tb_8 (List.mem_of_getElem? (i := 75) rfl) rfl
set_option maxRecDepth 100000 in
theorem lm_X11_333 : Cond.methodLink RX11 333 yX11_down ∈ tb := tb_8 (List.mem_of_getElem? (i := 79) rfl) rfl
set_option maxRecDepth 100000 in
theorem lm_X11_337 : Cond.methodLink RX11 337 yX11_kept ∈ tb := tb_8 (List.mem_of_getElem? (i := 82) rfl) rfl
set_option maxRecDepth 100000 in
theorem lc_X11_325 : Cond.constantLong RX11 325 (-1000000) ∈ tb := tb_8 (List.mem_of_getElem? (i := 85) rfl) rfl
set_option maxRecDepth 100000 in
theorem lc_X11_327 : Cond.constantLong RX11 327 (1000000) ∈ tb := tb_8 (List.mem_of_getElem? (i := 86) rfl) rfl
set_option maxRecDepth 100000 in
theorem lc_X11_360 : Cond.constant RX11 360 (99999) ∈ tb := tb_8 (List.mem_of_getElem? (i := 87) rfl) rfl
set_option maxRecDepth 100000 in
theorem lm_X11_347 : Cond.methodLink RX11 347 yX11_isInBase ∈ tb := tb_8 (List.mem_of_getElem? (i := 88) rfl) rfl
set_option maxRecDepth 100000 in
theorem lm_X11_361 : Cond.methodLink RX11 361 yX11_areOut ∈ tb := tb_8 (List.mem_of_getElem? (i := 92) rfl) rfl
set_option maxRecDepth 100000 in
theorem lm_X11_350 : Cond.methodLink RX11 350 yX11_manyBase ∈ tb := tb_8 (List.mem_of_getElem? (i := 96) rfl) rfl
set_option maxRecDepth 100000 in
theorem lm_L_174 : Cond.methodLink RL 174 yX11_put ∈ tb := tb_8 (List.mem_of_getElem? (i := 100) rfl) rfl
set_option maxRecDepth 100000 in
theorem lc_X11_370 : Cond.constantLong RX11 370 (3) ∈ tb := tb_8 (List.mem_of_getElem? (i := 104) rfl) rfl
set_option maxRecDepth 100000 in
theorem lc_X11_372 : Cond.constantLong RX11 372 (11) ∈ tb := tb_8 (List.mem_of_getElem? (i := 105) rfl) rfl
set_option maxRecDepth 100000 in
theorem lc_X11_374 : Cond.constantLong RX11 374 (999) ∈ tb := tb_8 (List.mem_of_getElem? (i := 106) rfl) rfl
set_option maxRecDepth 100000 in
theorem lc_X11_376 : Cond.constantLong RX11 376 (9999) ∈ tb := tb_8 (List.mem_of_getElem? (i := 107) rfl) rfl
set_option maxRecDepth 100000 in
theorem lm_X11_378 : Cond.methodLink RX11 378 yX11_remembers ∈ tb := tb_8 (List.mem_of_getElem? (i := 108) rfl) rfl
set_option maxRecDepth 100000 in
theorem lm_L_178 : Cond.methodLink RL 178 yX11_drop ∈ tb := tb_8 (List.mem_of_getElem? (i := 112) rfl) rfl
set_option maxRecDepth 100000 in
theorem lm_L_181 : Cond.methodLink RL 181 yX11_price ∈ tb := tb_8 (List.mem_of_getElem? (i := 116) rfl) rfl
set_option maxRecDepth 100000 in
theorem lm_L_185 : Cond.methodLink RL 185 yX11_costs ∈ tb := tb_8 (List.mem_of_getElem? (i := 120) rfl) rfl
set_option maxRecDepth 100000 in
theorem lm_L_188 : Cond.methodLink RL 188 yX11_set ∈ tb := tb_8 (List.mem_of_getElem? (i := 124) rfl) rfl
set_option maxRecDepth 100000 in
theorem lc_X11_381 : Cond.constantLong RX11 381 (5) ∈ tb := tb_8 (List.mem_of_getElem? (i := 128) rfl) rfl
set_option maxRecDepth 100000 in
theorem lc_X11_383 : Cond.constantLong RX11 383 (99) ∈ tb := tb_8 (List.mem_of_getElem? (i := 129) rfl) rfl
set_option maxRecDepth 100000 in
theorem lm_L_192 : Cond.methodLink RL 192 yX11_silent ∈ tb := tb_8 (List.mem_of_getElem? (i := 130) rfl) rfl
set_option maxRecDepth 100000 in
theorem lm_L_196 : Cond.methodLink RL 196 yX11_undo ∈ tb := tb_8 (List.mem_of_getElem? (i := 134) rfl) rfl
set_option maxRecDepth 100000 in
theorem lm_L_200 : Cond.methodLink RL 200 yX11_base ∈ tb := tb_8 (List.mem_of_getElem? (i := 138) rfl) rfl
set_option maxRecDepth 100000 in
theorem lm_L_203 : Cond.methodLink RL 203 yX11_below ∈ tb := tb_8 (List.mem_of_getElem? (i := 142) rfl) rfl
set_option maxRecDepth 100000 in
theorem lm_L_207 : Cond.methodLink RL 207 yX11_worth ∈ tb := tb_8 (List.mem_of_getElem? (i := 146) rfl) rfl
set_option maxRecDepth 100000 in
theorem lc_X11_407 : Cond.constantLong RX11 407 (-1) ∈ tb := tb_8 (List.mem_of_getElem? (i := 150) rfl) rfl
set_option maxRecDepth 100000 in
theorem lm_X11_419 : Cond.methodLink RX11 419 yX11_worthOf ∈ tb := tb_8 (List.mem_of_getElem? (i := 151) rfl) rfl
set_option maxRecDepth 100000 in
theorem lm_X11_411 : Cond.methodLink RX11 411 yX11_finds ∈ tb := tb_8 (List.mem_of_getElem? (i := 155) rfl) rfl
set_option maxRecDepth 100000 in
theorem lm_X11_392 : Cond.methodLink RX11 392 yX11_nearestLevel ∈ tb := tb_8 (List.mem_of_getElem? (i := 159) rfl) rfl
set_option maxRecDepth 100000 in
theorem lm_X11_385 : Cond.methodLink RX11 385 yX11_isOf ∈ tb := tb_8 (List.mem_of_getElem? (i := 163) rfl) rfl
set_option maxRecDepth 100000 in
theorem lm_X11_389 : Cond.methodLink RX11 389 yX11_apart ∈ tb := tb_8 (List.mem_of_getElem? (i := 167) rfl) rfl
set_option maxRecDepth 100000 in
theorem lm_X11_404 : Cond.methodLink RX11 404 yX11_likeModel ∈ tb := tb_8 (List.mem_of_getElem? (i := 170) rfl) rfl
set_option maxRecDepth 100000 in
theorem lc_X11_409 : Cond.constantLong RX11 409 (1000) ∈ tb := tb_8 (List.mem_of_getElem? (i := 174) rfl) rfl
set_option maxRecDepth 100000 in
theorem lm_X11_415 : Cond.methodLink RX11 415 yX11_averageIn ∈ tb := tb_8 (List.mem_of_getElem? (i := 175) rfl) rfl
set_option maxRecDepth 100000 in
theorem lm_L_210 : Cond.methodLink RL 210 yX11_found ∈ tb := tb_8 (List.mem_of_getElem? (i := 179) rfl) rfl
set_option maxRecDepth 100000 in
theorem lm_L_213 : Cond.methodLink RL 213 yX11_match ∈ tb := tb_8 (List.mem_of_getElem? (i := 183) rfl) rfl
set_option maxRecDepth 100000 in
theorem lm_X11_425 : Cond.methodLink RX11 425 yX11_isExport ∈ tb := tb_8 (List.mem_of_getElem? (i := 187) rfl) rfl
set_option maxRecDepth 100000 in
theorem lm_X11_428 : Cond.methodLink RX11 428 yX11_matchOf ∈ tb := tb_8 (List.mem_of_getElem? (i := 191) rfl) rfl
set_option maxRecDepth 100000 in
theorem lm_X11_422 : Cond.methodLink RX11 422 yX11_isNearer ∈ tb := tb_8 (List.mem_of_getElem? (i := 195) rfl) rfl
set_option maxRecDepth 100000 in
theorem lm_L_216 : Cond.methodLink RL 216 yX11_difference ∈ tb := tb_8 (List.mem_of_getElem? (i := 199) rfl) rfl
set_option maxRecDepth 100000 in
theorem lm_X11_434 : Cond.methodLink RX11 434 yX11_differenceOf ∈ tb := tb_8 (List.mem_of_getElem? (i := 203) rfl) rfl
set_option maxRecDepth 100000 in
theorem lm_X11_431 : Cond.methodLink RX11 431 yX11_monthFor ∈ tb := tb_8 (List.mem_of_getElem? (i := 207) rfl) rfl
set_option maxRecDepth 100000 in
theorem lm_L_219 : Cond.methodLink RL 219 yX11_groups ∈ tb := tb_8 (List.mem_of_getElem? (i := 211) rfl) rfl
set_option maxRecDepth 100000 in
theorem lm_X11_446 : Cond.methodLink RX11 446 yX11_laysGroups ∈ tb := tb_8 (List.mem_of_getElem? (i := 215) rfl) rfl
set_option maxRecDepth 100000 in
theorem lm_X11_440 : Cond.methodLink RX11 440 yX11_isSameGroup ∈ tb := tb_8 (List.mem_of_getElem? (i := 219) rfl) rfl
set_option maxRecDepth 100000 in
theorem lm_X11_443 : Cond.methodLink RX11 443 yX11_laysGroup ∈ tb := tb_8 (List.mem_of_getElem? (i := 223) rfl) rfl
set_option maxRecDepth 100000 in
theorem lm_L_222 : Cond.methodLink RL 222 yX11_group ∈ tb := tb_8 (List.mem_of_getElem? (i := 227) rfl) rfl
set_option maxRecDepth 100000 in
theorem lc_X11_449 : Cond.constantLong RX11 449 (6) ∈ tb := tb_8 (List.mem_of_getElem? (i := 231) rfl) rfl
set_option maxRecDepth 100000 in
theorem lm_L_226 : Cond.methodLink RL 226 yX11_sum ∈ tb := tb_8 (List.mem_of_getElem? (i := 232) rfl) rfl
set_option maxRecDepth 100000 in
theorem lm_X11_451 : Cond.methodLink RX11 451 yX11_isMethod ∈ tb := tb_8 (List.mem_of_getElem? (i := 236) rfl) rfl
set_option maxRecDepth 100000 in
theorem lm_X11_454 : Cond.methodLink RX11 454 yX11_laysParts ∈ tb := tb_8 (List.mem_of_getElem? (i := 239) rfl) rfl
set_option maxRecDepth 100000 in
theorem lm_X11_457 : Cond.methodLink RX11 457 yX11_sumBy ∈ tb := tb_9 (List.mem_of_getElem? (i := 3) rfl) rfl
set_option maxRecDepth 100000 in
theorem lm_L_229 : Cond.methodLink RL 229 yX11_value ∈ tb := tb_9 (List.mem_of_getElem? (i := 7) rfl) rfl
set_option maxRecDepth 100000 in
theorem lm_X11_461 : Cond.methodLink RX11 461 yX11_valueBy ∈ tb := tb_9 (List.mem_of_getElem? (i := 11) rfl) rfl
set_option maxRecDepth 100000 in
theorem lm_L_232 : Cond.methodLink RL 232 yX11_margin ∈ tb := tb_9 (List.mem_of_getElem? (i := 15) rfl) rfl
set_option maxRecDepth 100000 in
theorem lm_X11_479 : Cond.methodLink RX11 479 yX11_marginOf ∈ tb := tb_9 (List.mem_of_getElem? (i := 19) rfl) rfl
set_option maxRecDepth 100000 in
theorem lm_X11_473 : Cond.methodLink RX11 473 yX11_isSilent ∈ tb := tb_9 (List.mem_of_getElem? (i := 23) rfl) rfl
set_option maxRecDepth 100000 in
theorem lm_X11_476 : Cond.methodLink RX11 476 yX11_ownMargin ∈ tb := tb_9 (List.mem_of_getElem? (i := 27) rfl) rfl
set_option maxRecDepth 100000 in
theorem lm_X11_469 : Cond.methodLink RX11 469 yX11_shareOf ∈ tb := tb_9 (List.mem_of_getElem? (i := 31) rfl) rfl
set_option maxRecDepth 100000 in
theorem lc_X11_465 : Cond.constantLong RX11 465 (10000) ∈ tb := tb_9 (List.mem_of_getElem? (i := 34) rfl) rfl
set_option maxRecDepth 100000 in
theorem lc_X11_467 : Cond.constantLong RX11 467 (99999) ∈ tb := tb_9 (List.mem_of_getElem? (i := 35) rfl) rfl
set_option maxRecDepth 100000 in
theorem lm_L_235 : Cond.methodLink RL 235 yX11_negligible ∈ tb := tb_9 (List.mem_of_getElem? (i := 36) rfl) rfl
set_option maxRecDepth 100000 in
theorem lm_X11_485 : Cond.methodLink RX11 485 yX11_isNegligible ∈ tb := tb_9 (List.mem_of_getElem? (i := 40) rfl) rfl
set_option maxRecDepth 100000 in
theorem lm_X11_482 : Cond.methodLink RX11 482 yX11_isSmall ∈ tb := tb_9 (List.mem_of_getElem? (i := 44) rfl) rfl
set_option maxRecDepth 100000 in
theorem lm_L_238 : Cond.methodLink RL 238 yX11_duty ∈ tb := tb_9 (List.mem_of_getElem? (i := 48) rfl) rfl
set_option maxRecDepth 100000 in
theorem lm_X11_491 : Cond.methodLink RX11 491 yX11_toldMargin ∈ tb := tb_9 (List.mem_of_getElem? (i := 52) rfl) rfl
set_option maxRecDepth 100000 in
theorem lm_X11_488 : Cond.methodLink RX11 488 yX11_isZeroing ∈ tb := tb_9 (List.mem_of_getElem? (i := 56) rfl) rfl
set_option maxRecDepth 100000 in
theorem lm_X11_497 : Cond.methodLink RX11 497 yX11_rateOf ∈ tb := tb_9 (List.mem_of_getElem? (i := 60) rfl) rfl
set_option maxRecDepth 100000 in
theorem lm_X11_503 : Cond.methodLink RX11 503 yX11_injuryOf ∈ tb := tb_9 (List.mem_of_getElem? (i := 64) rfl) rfl
set_option maxRecDepth 100000 in
theorem lm_X11_494 : Cond.methodLink RX11 494 yX11_isTargeted ∈ tb := tb_9 (List.mem_of_getElem? (i := 68) rfl) rfl
set_option maxRecDepth 100000 in
theorem lm_X11_506 : Cond.methodLink RX11 506 yX11_dutyOf ∈ tb := tb_9 (List.mem_of_getElem? (i := 72) rfl) rfl
set_option maxRecDepth 100000 in
theorem lm_X11_500 : Cond.methodLink RX11 500 yX11_hasTarget ∈ tb := tb_9 (List.mem_of_getElem? (i := 76) rfl) rfl
set_option maxRecDepth 100000 in
theorem lm_L_242 : Cond.methodLink RL 242 yX11_others ∈ tb := tb_9 (List.mem_of_getElem? (i := 80) rfl) rfl
set_option maxRecDepth 100000 in
theorem lm_L_245 : Cond.methodLink RL 245 yX11_method ∈ tb := tb_9 (List.mem_of_getElem? (i := 84) rfl) rfl
set_option maxRecDepth 100000 in
theorem lm_L_248 : Cond.methodLink RL 248 yX11_undertaking ∈ tb := tb_9 (List.mem_of_getElem? (i := 88) rfl) rfl
set_option maxRecDepth 100000 in
theorem lm_L_251 : Cond.methodLink RL 251 yX11_picked ∈ tb := tb_9 (List.mem_of_getElem? (i := 92) rfl) rfl
set_option maxRecDepth 100000 in
theorem lm_X11_509 : Cond.methodLink RX11 509 yX11_isPicked ∈ tb := tb_9 (List.mem_of_getElem? (i := 96) rfl) rfl
set_option maxRecDepth 100000 in
theorem lc_X11_512 : Cond.constantLong RX11 512 (100) ∈ tb := tb_9 (List.mem_of_getElem? (i := 100) rfl) rfl
set_option maxRecDepth 100000 in
theorem lc_X11_514 : Cond.constantLong RX11 514 (98) ∈ tb := tb_9 (List.mem_of_getElem? (i := 101) rfl) rfl
set_option maxRecDepth 100000 in
theorem lm_L_254 : Cond.methodLink RL 254 yX11_collected ∈ tb := tb_9 (List.mem_of_getElem? (i := 102) rfl) rfl
set_option maxRecDepth 100000 in
theorem lm_X11_516 : Cond.methodLink RX11 516 yX11_owedOf ∈ tb := tb_9 (List.mem_of_getElem? (i := 106) rfl) rfl
set_option maxRecDepth 100000 in
theorem lm_X11_520 : Cond.methodLink RX11 520 yX11_depositOf ∈ tb := tb_9 (List.mem_of_getElem? (i := 110) rfl) rfl
set_option maxRecDepth 100000 in
theorem lm_L_257 : Cond.methodLink RL 257 yX11_back ∈ tb := tb_9 (List.mem_of_getElem? (i := 114) rfl) rfl
set_option maxRecDepth 100000 in
theorem lm_L_260 : Cond.methodLink RL 260 yX11_weight ∈ tb := tb_9 (List.mem_of_getElem? (i := 118) rfl) rfl
set_option maxRecDepth 100000 in
theorem lm_X11_523 : Cond.methodLink RX11 523 yX11_weightOf ∈ tb := tb_9 (List.mem_of_getElem? (i := 122) rfl) rfl
set_option maxRecDepth 100000 in
theorem lm_L_263 : Cond.methodLink RL 263 yX11_heaviest ∈ tb := tb_9 (List.mem_of_getElem? (i := 126) rfl) rfl
set_option maxRecDepth 100000 in
theorem lm_L_267 : Cond.methodLink RL 267 yX11_ranked ∈ tb := tb_9 (List.mem_of_getElem? (i := 130) rfl) rfl
set_option maxRecDepth 100000 in
theorem lm_L_270 : Cond.methodLink RL 270 yX11_write ∈ tb := tb_9 (List.mem_of_getElem? (i := 134) rfl) rfl
set_option maxRecDepth 100000 in
theorem lm_X11_529 : Cond.methodLink RX11 529 yX11_writes ∈ tb := tb_9 (List.mem_of_getElem? (i := 138) rfl) rfl
set_option maxRecDepth 100000 in
theorem lm_X11_532 : Cond.methodLink RX11 532 yX11_writesNumber ∈ tb := tb_9 (List.mem_of_getElem? (i := 142) rfl) rfl
set_option maxRecDepth 100000 in
theorem lm_X11_537 : Cond.methodLink RX11 537 yX11_writesText ∈ tb := tb_9 (List.mem_of_getElem? (i := 147) rfl) rfl
set_option maxRecDepth 100000 in
theorem lm_L_274 : Cond.methodLink RL 274 yX11_octet ∈ tb := tb_9 (List.mem_of_getElem? (i := 152) rfl) rfl
set_option maxRecDepth 100000 in
theorem lm_L_278 : Cond.methodLink RL 278 yX11_count ∈ tb := tb_9 (List.mem_of_getElem? (i := 156) rfl) rfl
set_option maxRecDepth 100000 in
theorem lc_X11_543 : Cond.constantLong RX11 543 (4) ∈ tb := tb_9 (List.mem_of_getElem? (i := 160) rfl) rfl
set_option maxRecDepth 100000 in
theorem lc_X11_545 : Cond.constantLong RX11 545 (9) ∈ tb := tb_9 (List.mem_of_getElem? (i := 161) rfl) rfl
