set_option maxRecDepth 100000 in
theorem fw_X0_0 : u_lay RX0 TX0 0 ∈ tb := tb_2 (List.mem_of_getElem? (i := 42) rfl) rfl
set_option maxRecDepth 100000 in
theorem fw_X0_1 : u_lay RX0 TX0 1 ∈ tb := tb_2 (List.mem_of_getElem? (i := 44) rfl) rfl
set_option maxRecDepth 100000 in
theorem fw_X0_2 : u_lay RX0 TX0 2 ∈ tb := tb_2 (List.mem_of_getElem? (i := 46) rfl) rfl
set_option maxRecDepth 100000 in
theorem fw_X0_3 : u_lay RX0 TX0 3 ∈ tb := tb_2 (List.mem_of_getElem? (i := 48) rfl) rfl
set_option maxRecDepth 100000 in
theorem fw_X0_4 : u_lay RX0 TX0 4 ∈ tb := tb_2 (List.mem_of_getElem? (i := 50) rfl) rfl
theorem in_X0 : ∀ w ∈ u_ws RX0 TX0 5, w ∈ tb := by
  intro w hw
  obtain ⟨k, hk, rfl⟩ := List.mem_map.mp hw
  have hk := List.mem_range.mp hk
  match k, hk with
  | 0, _ => exact fw_X0_0
  | 1, _ => exact fw_X0_1
  | 2, _ => exact fw_X0_2
  | 3, _ => exact fw_X0_3
  | 4, _ => exact fw_X0_4
  | k + 5, h => omega
theorem tf_X0 : tyf 0 = [2, 2, 2, 0, 0] := by decide +kernel
set_option maxRecDepth 100000 in
theorem fw_X1_0 : u_lay RX1 TX1 0 ∈ tb := tb_1 (List.mem_of_getElem? (i := 219) rfl) rfl
set_option maxRecDepth 100000 in
theorem fw_X1_1 : u_lay RX1 TX1 1 ∈ tb := tb_1 (List.mem_of_getElem? (i := 221) rfl) rfl
set_option maxRecDepth 100000 in
theorem fw_X1_2 : u_lay RX1 TX1 2 ∈ tb := tb_1 (List.mem_of_getElem? (i := 223) rfl) rfl
set_option maxRecDepth 100000 in
theorem fw_X1_3 : u_lay RX1 TX1 3 ∈ tb := tb_1 (List.mem_of_getElem? (i := 225) rfl) rfl
set_option maxRecDepth 100000 in
theorem fw_X1_4 : u_lay RX1 TX1 4 ∈ tb := tb_1 (List.mem_of_getElem? (i := 227) rfl) rfl
set_option maxRecDepth 100000 in
theorem fw_X1_5 : u_lay RX1 TX1 5 ∈ tb := tb_1 (List.mem_of_getElem? (i := 229) rfl) rfl
set_option maxRecDepth 100000 in
theorem fw_X1_6 : u_lay RX1 TX1 6 ∈ tb := tb_1 (List.mem_of_getElem? (i := 231) rfl) rfl
set_option maxRecDepth 100000 in
theorem fw_X1_7 : u_lay RX1 TX1 7 ∈ tb := tb_1 (List.mem_of_getElem? (i := 233) rfl) rfl
set_option maxRecDepth 100000 in
theorem fw_X1_8 : u_lay RX1 TX1 8 ∈ tb := tb_1 (List.mem_of_getElem? (i := 235) rfl) rfl
set_option maxRecDepth 100000 in
theorem fw_X1_9 : u_lay RX1 TX1 9 ∈ tb := tb_1 (List.mem_of_getElem? (i := 237) rfl) rfl
theorem in_X1 : ∀ w ∈ u_ws RX1 TX1 10, w ∈ tb := by
  intro w hw
  obtain ⟨k, hk, rfl⟩ := List.mem_map.mp hw
  have hk := List.mem_range.mp hk
  match k, hk with
  | 0, _ => exact fw_X1_0
  | 1, _ => exact fw_X1_1
  | 2, _ => exact fw_X1_2
  | 3, _ => exact fw_X1_3
  | 4, _ => exact fw_X1_4
  | 5, _ => exact fw_X1_5
  | 6, _ => exact fw_X1_6
  | 7, _ => exact fw_X1_7
  | 8, _ => exact fw_X1_8
  | 9, _ => exact fw_X1_9
  | k + 10, h => omega
theorem tf_X1 : tyf 1 = [2, 2, 2, 2, 2, 2, 2, 2, 2, 2] := by decide +kernel
set_option maxRecDepth 100000 in
theorem fw_X2_0 : u_lay RX2 TX2 0 ∈ tb := tb_2 (List.mem_of_getElem? (i := 117) rfl) rfl
set_option maxRecDepth 100000 in
theorem fw_X2_1 : u_lay RX2 TX2 1 ∈ tb := tb_2 (List.mem_of_getElem? (i := 119) rfl) rfl
set_option maxRecDepth 100000 in
theorem fw_X2_2 : u_lay RX2 TX2 2 ∈ tb := tb_2 (List.mem_of_getElem? (i := 121) rfl) rfl
set_option maxRecDepth 100000 in
theorem fw_X2_3 : u_lay RX2 TX2 3 ∈ tb := tb_2 (List.mem_of_getElem? (i := 123) rfl) rfl
set_option maxRecDepth 100000 in
theorem fw_X2_4 : u_lay RX2 TX2 4 ∈ tb := tb_2 (List.mem_of_getElem? (i := 125) rfl) rfl
set_option maxRecDepth 100000 in
theorem fw_X2_5 : u_lay RX2 TX2 5 ∈ tb := tb_2 (List.mem_of_getElem? (i := 127) rfl) rfl
set_option maxRecDepth 100000 in
theorem fw_X2_6 : u_lay RX2 TX2 6 ∈ tb := tb_2 (List.mem_of_getElem? (i := 129) rfl) rfl
set_option maxRecDepth 100000 in
theorem fw_X2_7 : u_lay RX2 TX2 7 ∈ tb := tb_2 (List.mem_of_getElem? (i := 131) rfl) rfl
theorem in_X2 : ∀ w ∈ u_ws RX2 TX2 8, w ∈ tb := by
  intro w hw
  obtain ⟨k, hk, rfl⟩ := List.mem_map.mp hw
  have hk := List.mem_range.mp hk
  match k, hk with
  | 0, _ => exact fw_X2_0
  | 1, _ => exact fw_X2_1
  | 2, _ => exact fw_X2_2
  | 3, _ => exact fw_X2_3
  | 4, _ => exact fw_X2_4
  | 5, _ => exact fw_X2_5
  | 6, _ => exact fw_X2_6
  | 7, _ => exact fw_X2_7
  | k + 8, h => omega
theorem tf_X2 : tyf 2 = [2, 2, 2, 2, 2, 0, 1, 1] := by decide +kernel
set_option maxRecDepth 100000 in
theorem fw_X3_0 : u_lay RX3 TX3 0 ∈ tb := tb_2 (List.mem_of_getElem? (i := 155) rfl) rfl
set_option maxRecDepth 100000 in
theorem fw_X3_1 : u_lay RX3 TX3 1 ∈ tb := tb_2 (List.mem_of_getElem? (i := 157) rfl) rfl
set_option maxRecDepth 100000 in
theorem fw_X3_2 : u_lay RX3 TX3 2 ∈ tb := tb_2 (List.mem_of_getElem? (i := 159) rfl) rfl
set_option maxRecDepth 100000 in
theorem fw_X3_3 : u_lay RX3 TX3 3 ∈ tb := tb_2 (List.mem_of_getElem? (i := 161) rfl) rfl
set_option maxRecDepth 100000 in
theorem fw_X3_4 : u_lay RX3 TX3 4 ∈ tb := tb_2 (List.mem_of_getElem? (i := 163) rfl) rfl
set_option maxRecDepth 100000 in
theorem fw_X3_5 : u_lay RX3 TX3 5 ∈ tb := tb_2 (List.mem_of_getElem? (i := 165) rfl) rfl
set_option maxRecDepth 100000 in
theorem fw_X3_6 : u_lay RX3 TX3 6 ∈ tb := tb_2 (List.mem_of_getElem? (i := 167) rfl) rfl
set_option maxRecDepth 100000 in
theorem fw_X3_7 : u_lay RX3 TX3 7 ∈ tb := tb_2 (List.mem_of_getElem? (i := 169) rfl) rfl
set_option maxRecDepth 100000 in
theorem fw_X3_8 : u_lay RX3 TX3 8 ∈ tb := tb_2 (List.mem_of_getElem? (i := 171) rfl) rfl
set_option maxRecDepth 100000 in
theorem fw_X3_9 : u_lay RX3 TX3 9 ∈ tb := tb_2 (List.mem_of_getElem? (i := 173) rfl) rfl
theorem in_X3 : ∀ w ∈ u_ws RX3 TX3 10, w ∈ tb := by
  intro w hw
  obtain ⟨k, hk, rfl⟩ := List.mem_map.mp hw
  have hk := List.mem_range.mp hk
  match k, hk with
  | 0, _ => exact fw_X3_0
  | 1, _ => exact fw_X3_1
  | 2, _ => exact fw_X3_2
  | 3, _ => exact fw_X3_3
  | 4, _ => exact fw_X3_4
  | 5, _ => exact fw_X3_5
  | 6, _ => exact fw_X3_6
  | 7, _ => exact fw_X3_7
  | 8, _ => exact fw_X3_8
  | 9, _ => exact fw_X3_9
  | k + 10, h => omega
theorem tf_X3 : tyf 3 = [2, 2, 2, 2, 2, 2, 2, 2, 2, 0] := by decide +kernel
set_option maxRecDepth 100000 in
theorem fw_X4_0 : u_lay RX4 TX4 0 ∈ tb := tb_1 (List.mem_of_getElem? (i := 54) rfl) rfl
set_option maxRecDepth 100000 in
theorem fw_X4_1 : u_lay RX4 TX4 1 ∈ tb := tb_1 (List.mem_of_getElem? (i := 56) rfl) rfl
set_option maxRecDepth 100000 in
theorem fw_X4_2 : u_lay RX4 TX4 2 ∈ tb := tb_1 (List.mem_of_getElem? (i := 58) rfl) rfl
theorem in_X4 : ∀ w ∈ u_ws RX4 TX4 3, w ∈ tb := by
  intro w hw
  obtain ⟨k, hk, rfl⟩ := List.mem_map.mp hw
  have hk := List.mem_range.mp hk
  match k, hk with
  | 0, _ => exact fw_X4_0
  | 1, _ => exact fw_X4_1
  | 2, _ => exact fw_X4_2
  | k + 3, h => omega
theorem tf_X4 : tyf 4 = [2, 2, 0] := by decide +kernel
set_option maxRecDepth 100000 in
theorem fw_X5_0 : u_lay RX5 TX5 0 ∈ tb := tb_2 (List.mem_of_getElem? (i := 15) rfl) rfl
set_option maxRecDepth 100000 in
theorem fw_X5_1 : u_lay RX5 TX5 1 ∈ tb := tb_2 (List.mem_of_getElem? (i := 17) rfl) rfl
set_option maxRecDepth 100000 in
theorem fw_X5_2 : u_lay RX5 TX5 2 ∈ tb := tb_2 (List.mem_of_getElem? (i := 19) rfl) rfl
set_option maxRecDepth 100000 in
theorem fw_X5_3 : u_lay RX5 TX5 3 ∈ tb := tb_2 (List.mem_of_getElem? (i := 21) rfl) rfl
set_option maxRecDepth 100000 in
theorem fw_X5_4 : u_lay RX5 TX5 4 ∈ tb := tb_2 (List.mem_of_getElem? (i := 23) rfl) rfl
set_option maxRecDepth 100000 in
theorem fw_X5_5 : u_lay RX5 TX5 5 ∈ tb := tb_2 (List.mem_of_getElem? (i := 25) rfl) rfl
set_option maxRecDepth 100000 in
theorem fw_X5_6 : u_lay RX5 TX5 6 ∈ tb := tb_2 (List.mem_of_getElem? (i := 27) rfl) rfl
theorem in_X5 : ∀ w ∈ u_ws RX5 TX5 7, w ∈ tb := by
  intro w hw
  obtain ⟨k, hk, rfl⟩ := List.mem_map.mp hw
  have hk := List.mem_range.mp hk
  match k, hk with
  | 0, _ => exact fw_X5_0
  | 1, _ => exact fw_X5_1
  | 2, _ => exact fw_X5_2
  | 3, _ => exact fw_X5_3
  | 4, _ => exact fw_X5_4
  | 5, _ => exact fw_X5_5
  | 6, _ => exact fw_X5_6
  | k + 7, h => omega
theorem tf_X5 : tyf 5 = [2, 0, 0, 3, 0, 0, 0] := by decide +kernel
set_option maxRecDepth 100000 in
theorem fw_X6_0 : u_lay RX6 TX6 0 ∈ tb := tb_2 (List.mem_of_getElem? (i := 186) rfl) rfl
set_option maxRecDepth 100000 in
theorem fw_X6_1 : u_lay RX6 TX6 1 ∈ tb := tb_2 (List.mem_of_getElem? (i := 188) rfl) rfl
theorem in_X6 : ∀ w ∈ u_ws RX6 TX6 2, w ∈ tb := by
  intro w hw
  obtain ⟨k, hk, rfl⟩ := List.mem_map.mp hw
  have hk := List.mem_range.mp hk
  match k, hk with
  | 0, _ => exact fw_X6_0
  | 1, _ => exact fw_X6_1
  | k + 2, h => omega
theorem tf_X6 : tyf 6 = [2, 0] := by decide +kernel
set_option maxRecDepth 100000 in
theorem fw_X7_0 : u_lay RX7 TX7 0 ∈ tb := tb_1 (List.mem_of_getElem? (i := 153) rfl) rfl
set_option maxRecDepth 100000 in
theorem fw_X7_1 : u_lay RX7 TX7 1 ∈ tb := tb_1 (List.mem_of_getElem? (i := 155) rfl) rfl
set_option maxRecDepth 100000 in
theorem fw_X7_2 : u_lay RX7 TX7 2 ∈ tb := tb_1 (List.mem_of_getElem? (i := 157) rfl) rfl
set_option maxRecDepth 100000 in
theorem fw_X7_3 : u_lay RX7 TX7 3 ∈ tb := tb_1 (List.mem_of_getElem? (i := 159) rfl) rfl
set_option maxRecDepth 100000 in
theorem fw_X7_4 : u_lay RX7 TX7 4 ∈ tb := tb_1 (List.mem_of_getElem? (i := 161) rfl) rfl
set_option maxRecDepth 100000 in
theorem fw_X7_5 : u_lay RX7 TX7 5 ∈ tb := tb_1 (List.mem_of_getElem? (i := 163) rfl) rfl
set_option maxRecDepth 100000 in
theorem fw_X7_6 : u_lay RX7 TX7 6 ∈ tb := tb_1 (List.mem_of_getElem? (i := 165) rfl) rfl
set_option maxRecDepth 100000 in
theorem fw_X7_7 : u_lay RX7 TX7 7 ∈ tb := tb_1 (List.mem_of_getElem? (i := 167) rfl) rfl
set_option maxRecDepth 100000 in
theorem fw_X7_8 : u_lay RX7 TX7 8 ∈ tb := tb_1 (List.mem_of_getElem? (i := 169) rfl) rfl
set_option maxRecDepth 100000 in
theorem fw_X7_9 : u_lay RX7 TX7 9 ∈ tb := tb_1 (List.mem_of_getElem? (i := 171) rfl) rfl
set_option maxRecDepth 100000 in
theorem fw_X7_10 : u_lay RX7 TX7 10 ∈ tb := tb_1 (List.mem_of_getElem? (i := 173) rfl) rfl
theorem in_X7 : ∀ w ∈ u_ws RX7 TX7 11, w ∈ tb := by
  intro w hw
  obtain ⟨k, hk, rfl⟩ := List.mem_map.mp hw
  have hk := List.mem_range.mp hk
  match k, hk with
  | 0, _ => exact fw_X7_0
  | 1, _ => exact fw_X7_1
  | 2, _ => exact fw_X7_2
  | 3, _ => exact fw_X7_3
  | 4, _ => exact fw_X7_4
  | 5, _ => exact fw_X7_5
  | 6, _ => exact fw_X7_6
  | 7, _ => exact fw_X7_7
  | 8, _ => exact fw_X7_8
  | 9, _ => exact fw_X7_9
  | 10, _ => exact fw_X7_10
  | k + 11, h => omega
theorem tf_X7 : tyf 7 = [2, 2, 2, 2, 2, 2, 2, 2, 2, 2, 0] := by decide +kernel
set_option maxRecDepth 100000 in
theorem fw_X8_0 : u_lay RX8 TX8 0 ∈ tb := tb_2 (List.mem_of_getElem? (i := 75) rfl) rfl
set_option maxRecDepth 100000 in
theorem fw_X8_1 : u_lay RX8 TX8 1 ∈ tb := tb_2 (List.mem_of_getElem? (i := 77) rfl) rfl
set_option maxRecDepth 100000 in
theorem fw_X8_2 : u_lay RX8 TX8 2 ∈ tb := tb_2 (List.mem_of_getElem? (i := 79) rfl) rfl
set_option maxRecDepth 100000 in
theorem fw_X8_3 : u_lay RX8 TX8 3 ∈ tb := tb_2 (List.mem_of_getElem? (i := 81) rfl) rfl
set_option maxRecDepth 100000 in
theorem fw_X8_4 : u_lay RX8 TX8 4 ∈ tb := tb_2 (List.mem_of_getElem? (i := 83) rfl) rfl
set_option maxRecDepth 100000 in
theorem fw_X8_5 : u_lay RX8 TX8 5 ∈ tb := tb_2 (List.mem_of_getElem? (i := 85) rfl) rfl
set_option maxRecDepth 100000 in
theorem fw_X8_6 : u_lay RX8 TX8 6 ∈ tb := tb_2 (List.mem_of_getElem? (i := 87) rfl) rfl
set_option maxRecDepth 100000 in
theorem fw_X8_7 : u_lay RX8 TX8 7 ∈ tb := tb_2 (List.mem_of_getElem? (i := 89) rfl) rfl
set_option maxRecDepth 100000 in
theorem fw_X8_8 : u_lay RX8 TX8 8 ∈ tb := tb_2 (List.mem_of_getElem? (i := 91) rfl) rfl
set_option maxRecDepth 100000 in
theorem fw_X8_9 : u_lay RX8 TX8 9 ∈ tb := tb_2 (List.mem_of_getElem? (i := 93) rfl) rfl
set_option maxRecDepth 100000 in
theorem fw_X8_10 : u_lay RX8 TX8 10 ∈ tb := tb_2 (List.mem_of_getElem? (i := 95) rfl) rfl
theorem in_X8 : ∀ w ∈ u_ws RX8 TX8 11, w ∈ tb := by
  intro w hw
  obtain ⟨k, hk, rfl⟩ := List.mem_map.mp hw
  have hk := List.mem_range.mp hk
  match k, hk with
  | 0, _ => exact fw_X8_0
  | 1, _ => exact fw_X8_1
  | 2, _ => exact fw_X8_2
  | 3, _ => exact fw_X8_3
  | 4, _ => exact fw_X8_4
  | 5, _ => exact fw_X8_5
  | 6, _ => exact fw_X8_6
  | 7, _ => exact fw_X8_7
  | 8, _ => exact fw_X8_8
  | 9, _ => exact fw_X8_9
  | 10, _ => exact fw_X8_10
  | k + 11, h => omega
theorem tf_X8 : tyf 8 = [2, 2, 2, 2, 0, 2, 2, 2, 2, 3, 0] := by decide +kernel
set_option maxRecDepth 100000 in
theorem fw_X9_0 : u_lay RX9 TX9 0 ∈ tb := tb_1 (List.mem_of_getElem? (i := 75) rfl) rfl
set_option maxRecDepth 100000 in
theorem fw_X9_1 : u_lay RX9 TX9 1 ∈ tb := tb_1 (List.mem_of_getElem? (i := 77) rfl) rfl
set_option maxRecDepth 100000 in
theorem fw_X9_2 : u_lay RX9 TX9 2 ∈ tb := tb_1 (List.mem_of_getElem? (i := 79) rfl) rfl
set_option maxRecDepth 100000 in
theorem fw_X9_3 : u_lay RX9 TX9 3 ∈ tb := tb_1 (List.mem_of_getElem? (i := 81) rfl) rfl
set_option maxRecDepth 100000 in
theorem fw_X9_4 : u_lay RX9 TX9 4 ∈ tb := tb_1 (List.mem_of_getElem? (i := 83) rfl) rfl
theorem in_X9 : ∀ w ∈ u_ws RX9 TX9 5, w ∈ tb := by
  intro w hw
  obtain ⟨k, hk, rfl⟩ := List.mem_map.mp hw
  have hk := List.mem_range.mp hk
  match k, hk with
  | 0, _ => exact fw_X9_0
  | 1, _ => exact fw_X9_1
  | 2, _ => exact fw_X9_2
  | 3, _ => exact fw_X9_3
  | 4, _ => exact fw_X9_4
  | k + 5, h => omega
theorem tf_X9 : tyf 9 = [2, 2, 2, 2, 0] := by decide +kernel
set_option maxRecDepth 100000 in
theorem fw_X10_0 : u_lay RX10 TX10 0 ∈ tb := tb_2 (List.mem_of_getElem? (i := 199) rfl) rfl
set_option maxRecDepth 100000 in
theorem fw_X10_1 : u_lay RX10 TX10 1 ∈ tb := tb_2 (List.mem_of_getElem? (i := 201) rfl) rfl
set_option maxRecDepth 100000 in
theorem fw_X10_2 : u_lay RX10 TX10 2 ∈ tb := tb_2 (List.mem_of_getElem? (i := 203) rfl) rfl
set_option maxRecDepth 100000 in
theorem fw_X10_3 : u_lay RX10 TX10 3 ∈ tb := tb_2 (List.mem_of_getElem? (i := 205) rfl) rfl
set_option maxRecDepth 100000 in
theorem fw_X10_4 : u_lay RX10 TX10 4 ∈ tb := tb_2 (List.mem_of_getElem? (i := 207) rfl) rfl
set_option maxRecDepth 100000 in
theorem fw_X10_5 : u_lay RX10 TX10 5 ∈ tb := tb_2 (List.mem_of_getElem? (i := 209) rfl) rfl
set_option maxRecDepth 100000 in
theorem fw_X10_6 : u_lay RX10 TX10 6 ∈ tb := tb_2 (List.mem_of_getElem? (i := 211) rfl) rfl
set_option maxRecDepth 100000 in
theorem fw_X10_7 : u_lay RX10 TX10 7 ∈ tb := tb_2 (List.mem_of_getElem? (i := 213) rfl) rfl
theorem in_X10 : ∀ w ∈ u_ws RX10 TX10 8, w ∈ tb := by
  intro w hw
  obtain ⟨k, hk, rfl⟩ := List.mem_map.mp hw
  have hk := List.mem_range.mp hk
  match k, hk with
  | 0, _ => exact fw_X10_0
  | 1, _ => exact fw_X10_1
  | 2, _ => exact fw_X10_2
  | 3, _ => exact fw_X10_3
  | 4, _ => exact fw_X10_4
  | 5, _ => exact fw_X10_5
  | 6, _ => exact fw_X10_6
  | 7, _ => exact fw_X10_7
  | k + 8, h => omega
theorem tf_X10 : tyf 10 = [2, 2, 2, 2, 2, 2, 3, 3] := by decide +kernel
set_option maxRecDepth 100000 in
theorem fw_X11_0 : u_lay RX11 TX11 0 ∈ tb := tb_6 (List.mem_of_getElem? (i := 221) rfl) rfl
set_option maxRecDepth 100000 in
theorem fw_X11_1 : u_lay RX11 TX11 1 ∈ tb := tb_6 (List.mem_of_getElem? (i := 223) rfl) rfl
set_option maxRecDepth 100000 in
theorem fw_X11_2 : u_lay RX11 TX11 2 ∈ tb := tb_6 (List.mem_of_getElem? (i := 225) rfl) rfl
set_option maxRecDepth 100000 in
theorem fw_X11_3 : u_lay RX11 TX11 3 ∈ tb := tb_6 (List.mem_of_getElem? (i := 227) rfl) rfl
set_option maxRecDepth 100000 in
theorem fw_X11_4 : u_lay RX11 TX11 4 ∈ tb := tb_6 (List.mem_of_getElem? (i := 229) rfl) rfl
set_option maxRecDepth 100000 in
theorem fw_X11_5 : u_lay RX11 TX11 5 ∈ tb := tb_6 (List.mem_of_getElem? (i := 231) rfl) rfl
set_option maxRecDepth 100000 in
theorem fw_X11_6 : u_lay RX11 TX11 6 ∈ tb := tb_6 (List.mem_of_getElem? (i := 233) rfl) rfl
set_option maxRecDepth 100000 in
theorem fw_X11_7 : u_lay RX11 TX11 7 ∈ tb := tb_6 (List.mem_of_getElem? (i := 235) rfl) rfl
set_option maxRecDepth 100000 in
theorem fw_X11_8 : u_lay RX11 TX11 8 ∈ tb := tb_6 (List.mem_of_getElem? (i := 237) rfl) rfl
set_option maxRecDepth 100000 in
theorem fw_X11_9 : u_lay RX11 TX11 9 ∈ tb := tb_6 (List.mem_of_getElem? (i := 239) rfl) rfl
set_option maxRecDepth 100000 in
theorem fw_X11_10 : u_lay RX11 TX11 10 ∈ tb := tb_7 (List.mem_of_getElem? (i := 1) rfl) rfl
set_option maxRecDepth 100000 in
theorem fw_X11_11 : u_lay RX11 TX11 11 ∈ tb := tb_7 (List.mem_of_getElem? (i := 3) rfl) rfl
set_option maxRecDepth 100000 in
theorem fw_X11_12 : u_lay RX11 TX11 12 ∈ tb := tb_7 (List.mem_of_getElem? (i := 5) rfl) rfl
set_option maxRecDepth 100000 in
theorem fw_X11_13 : u_lay RX11 TX11 13 ∈ tb := tb_7 (List.mem_of_getElem? (i := 7) rfl) rfl
set_option maxRecDepth 100000 in
theorem fw_X11_14 : u_lay RX11 TX11 14 ∈ tb := tb_7 (List.mem_of_getElem? (i := 9) rfl) rfl
set_option maxRecDepth 100000 in
theorem fw_X11_15 : u_lay RX11 TX11 15 ∈ tb := tb_7 (List.mem_of_getElem? (i := 11) rfl) rfl
set_option maxRecDepth 100000 in
theorem fw_X11_16 : u_lay RX11 TX11 16 ∈ tb := tb_7 (List.mem_of_getElem? (i := 13) rfl) rfl
set_option maxRecDepth 100000 in
theorem fw_X11_17 : u_lay RX11 TX11 17 ∈ tb := tb_7 (List.mem_of_getElem? (i := 15) rfl) rfl
set_option maxRecDepth 100000 in
theorem fw_X11_18 : u_lay RX11 TX11 18 ∈ tb := tb_7 (List.mem_of_getElem? (i := 17) rfl) rfl
set_option maxRecDepth 100000 in
theorem fw_X11_19 : u_lay RX11 TX11 19 ∈ tb := tb_7 (List.mem_of_getElem? (i := 19) rfl) rfl
set_option maxRecDepth 100000 in
theorem fw_X11_20 : u_lay RX11 TX11 20 ∈ tb := tb_7 (List.mem_of_getElem? (i := 21) rfl) rfl
set_option maxRecDepth 100000 in
theorem fw_X11_21 : u_lay RX11 TX11 21 ∈ tb := tb_7 (List.mem_of_getElem? (i := 23) rfl) rfl
set_option maxRecDepth 100000 in
theorem fw_X11_22 : u_lay RX11 TX11 22 ∈ tb := tb_7 (List.mem_of_getElem? (i := 25) rfl) rfl
set_option maxRecDepth 100000 in
theorem fw_X11_23 : u_lay RX11 TX11 23 ∈ tb := tb_7 (List.mem_of_getElem? (i := 27) rfl) rfl
set_option maxRecDepth 100000 in
theorem fw_X11_24 : u_lay RX11 TX11 24 ∈ tb := tb_7 (List.mem_of_getElem? (i := 29) rfl) rfl
set_option maxRecDepth 100000 in
theorem fw_X11_25 : u_lay RX11 TX11 25 ∈ tb := tb_7 (List.mem_of_getElem? (i := 31) rfl) rfl
set_option maxRecDepth 100000 in
theorem fw_X11_26 : u_lay RX11 TX11 26 ∈ tb := tb_7 (List.mem_of_getElem? (i := 33) rfl) rfl
set_option maxRecDepth 100000 in
theorem fw_X11_27 : u_lay RX11 TX11 27 ∈ tb := tb_7 (List.mem_of_getElem? (i := 35) rfl) rfl
set_option maxRecDepth 100000 in
theorem fw_X11_28 : u_lay RX11 TX11 28 ∈ tb := tb_7 (List.mem_of_getElem? (i := 37) rfl) rfl
set_option maxRecDepth 100000 in
theorem fw_X11_29 : u_lay RX11 TX11 29 ∈ tb := tb_7 (List.mem_of_getElem? (i := 39) rfl) rfl
set_option maxRecDepth 100000 in
theorem fw_X11_30 : u_lay RX11 TX11 30 ∈ tb := tb_7 (List.mem_of_getElem? (i := 41) rfl) rfl
set_option maxRecDepth 100000 in
theorem fw_X11_31 : u_lay RX11 TX11 31 ∈ tb := tb_7 (List.mem_of_getElem? (i := 43) rfl) rfl
set_option maxRecDepth 100000 in
theorem fw_X11_32 : u_lay RX11 TX11 32 ∈ tb := tb_7 (List.mem_of_getElem? (i := 45) rfl) rfl
set_option maxRecDepth 100000 in
theorem fw_X11_33 : u_lay RX11 TX11 33 ∈ tb := tb_7 (List.mem_of_getElem? (i := 47) rfl) rfl
set_option maxRecDepth 100000 in
theorem fw_X11_34 : u_lay RX11 TX11 34 ∈ tb := tb_7 (List.mem_of_getElem? (i := 49) rfl) rfl
set_option maxRecDepth 100000 in
theorem fw_X11_35 : u_lay RX11 TX11 35 ∈ tb := tb_7 (List.mem_of_getElem? (i := 51) rfl) rfl
set_option maxRecDepth 100000 in
theorem fw_X11_36 : u_lay RX11 TX11 36 ∈ tb := tb_7 (List.mem_of_getElem? (i := 53) rfl) rfl
set_option maxRecDepth 100000 in
theorem fw_X11_37 : u_lay RX11 TX11 37 ∈ tb := tb_7 (List.mem_of_getElem? (i := 55) rfl) rfl
set_option maxRecDepth 100000 in
theorem fw_X11_38 : u_lay RX11 TX11 38 ∈ tb := tb_7 (List.mem_of_getElem? (i := 57) rfl) rfl
set_option maxRecDepth 100000 in
theorem fw_X11_39 : u_lay RX11 TX11 39 ∈ tb := tb_7 (List.mem_of_getElem? (i := 59) rfl) rfl
set_option maxRecDepth 100000 in
theorem fw_X11_40 : u_lay RX11 TX11 40 ∈ tb := tb_7 (List.mem_of_getElem? (i := 61) rfl) rfl
set_option maxRecDepth 100000 in
theorem fw_X11_41 : u_lay RX11 TX11 41 ∈ tb := tb_7 (List.mem_of_getElem? (i := 63) rfl) rfl
set_option maxRecDepth 100000 in
theorem fw_X11_42 : u_lay RX11 TX11 42 ∈ tb := tb_7 (List.mem_of_getElem? (i := 65) rfl) rfl
set_option maxRecDepth 100000 in
theorem fw_X11_43 : u_lay RX11 TX11 43 ∈ tb := tb_7 (List.mem_of_getElem? (i := 67) rfl) rfl
set_option maxRecDepth 100000 in
theorem fw_X11_44 : u_lay RX11 TX11 44 ∈ tb := tb_7 (List.mem_of_getElem? (i := 69) rfl) rfl
set_option maxRecDepth 100000 in
theorem fw_X11_45 : u_lay RX11 TX11 45 ∈ tb := tb_7 (List.mem_of_getElem? (i := 71) rfl) rfl
set_option maxRecDepth 100000 in
theorem fw_X11_46 : u_lay RX11 TX11 46 ∈ tb := tb_7 (List.mem_of_getElem? (i := 73) rfl) rfl
set_option maxRecDepth 100000 in
theorem fw_X11_47 : u_lay RX11 TX11 47 ∈ tb := tb_7 (List.mem_of_getElem? (i := 75) rfl) rfl
theorem in_X11 : ∀ w ∈ u_ws RX11 TX11 48, w ∈ tb := by
  intro w hw
  obtain ⟨k, hk, rfl⟩ := List.mem_map.mp hw
  have hk := List.mem_range.mp hk
  match k, hk with
  | 0, _ => exact fw_X11_0
  | 1, _ => exact fw_X11_1
  | 2, _ => exact fw_X11_2
  | 3, _ => exact fw_X11_3
  | 4, _ => exact fw_X11_4
  | 5, _ => exact fw_X11_5
  | 6, _ => exact fw_X11_6
  | 7, _ => exact fw_X11_7
  | 8, _ => exact fw_X11_8
  | 9, _ => exact fw_X11_9
  | 10, _ => exact fw_X11_10
  | 11, _ => exact fw_X11_11
  | 12, _ => exact fw_X11_12
  | 13, _ => exact fw_X11_13
  | 14, _ => exact fw_X11_14
  | 15, _ => exact fw_X11_15
  | 16, _ => exact fw_X11_16
  | 17, _ => exact fw_X11_17
  | 18, _ => exact fw_X11_18
  | 19, _ => exact fw_X11_19
  | 20, _ => exact fw_X11_20
  | 21, _ => exact fw_X11_21
  | 22, _ => exact fw_X11_22
  | 23, _ => exact fw_X11_23
  | 24, _ => exact fw_X11_24
  | 25, _ => exact fw_X11_25
  | 26, _ => exact fw_X11_26
  | 27, _ => exact fw_X11_27
  | 28, _ => exact fw_X11_28
  | 29, _ => exact fw_X11_29
  | 30, _ => exact fw_X11_30
  | 31, _ => exact fw_X11_31
  | 32, _ => exact fw_X11_32
  | 33, _ => exact fw_X11_33
  | 34, _ => exact fw_X11_34
  | 35, _ => exact fw_X11_35
  | 36, _ => exact fw_X11_36
  | 37, _ => exact fw_X11_37
  | 38, _ => exact fw_X11_38
  | 39, _ => exact fw_X11_39
  | 40, _ => exact fw_X11_40
  | 41, _ => exact fw_X11_41
  | 42, _ => exact fw_X11_42
  | 43, _ => exact fw_X11_43
  | 44, _ => exact fw_X11_44
  | 45, _ => exact fw_X11_45
  | 46, _ => exact fw_X11_46
  | 47, _ => exact fw_X11_47
  | k + 48, h => omega
theorem tf_X11 : tyf 11 = [0, 2, 2, 2, 0, 0, 0, 2, 2, 2, 2, 2, 2, 2, 0, 0, 0, 0, 0, 0, 2, 2, 2, 2, 2, 2, 0, 0, 2, 0, 0, 2, 2, 2, 2, 2, 2, 0, 0, 0, 2, 2, 2, 2, 2, 0, 2, 0] := by decide +kernel
