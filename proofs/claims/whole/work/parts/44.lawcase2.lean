theorem walkC14 {X : Ctx} {aM : Nat → Nat} {b L : Nat} {xs : Nat → Int32} {z : Mem × Mem} (hX : FL X aM b L xs) {i : Int32} {v : Nat → Int32} (hv : VI L xs i v) (N : Nat) (μ ν : Mem) {k n : Nat} (hk : k + 8 ≤ room_1.cells) (hn : n + 48 ≤ room_1.slots) (hC : CL X aM z [(0, .ref b), (1, .ref (cx_ad X 0)), (2, .ref (aM 0)), (3, .ref (cx_ad X 90)), (4, .int i)] (k + 8) (n + 48)) : GL X aM z 1146 [(0, .ref b), (1, .ref (cx_ad X 0)), (2, .ref (aM 0)), (3, .ref (cx_ad X 90)), (4, .int i)] [] μ ν k n (lawC14 N v μ ν) := by
  unfold lawC14
  refine L_aload_n hX 1 rfl rfl dL_law_1146 ?_
  refine L_cCi hX 10 (fun ad adK => []) [] (fun z2 h2 => cX10_undo_ok (cx_l X) N μ z2 h2) ok_X10_undo lm_L_193 rfl rfl rfl (fun _ _ => rfl) (Nat.le_of_ble_eq_true rfl) ⟨rfl, rfl, Nat.le_of_ble_eq_true rfl, Nat.le_of_ble_eq_true rfl⟩ ⟨by omega, by omega⟩ dL_law_1147 (fun r1 μ2 => ?_)
  refine L_aload_n hX 2 rfl rfl dL_law_1150 ?_
  refine L_cMi hX 11 (fun ad adK => []) [.int r1] (fun z2 h2 => cX11_undo_ok (cx_l X) N ν z2 h2) ok_X11_undo lm_L_196 rfl rfl rfl (fun _ _ => rfl) (Nat.le_of_ble_eq_true rfl) ⟨rfl, rfl, Nat.le_of_ble_eq_true rfl, Nat.le_of_ble_eq_true rfl⟩ ⟨by omega, by omega⟩ dL_law_1151 (fun r3 ν4 => ?_)
  refine L_icmp_eq hX 2715 rfl dL_law_1154 ?_ ?_
  · skip
    exact L_end hC [0, 1, 2, 3, 4] rfl ⟨by omega, by omega⟩
  · skip
    exact L_none
theorem walkC15 {X : Ctx} {aM : Nat → Nat} {b L : Nat} {xs : Nat → Int32} {z : Mem × Mem} (hX : FL X aM b L xs) {i : Int32} {v : Nat → Int32} (hv : VI L xs i v) (N : Nat) (μ ν : Mem) {k n : Nat} (hk : k + 8 ≤ room_1.cells) (hn : n + 48 ≤ room_1.slots) (hC : CL X aM z [(0, .ref b), (1, .ref (cx_ad X 0)), (2, .ref (aM 0)), (3, .ref (cx_ad X 90)), (4, .int i)] (k + 8) (n + 48)) : GL X aM z 1159 [(0, .ref b), (1, .ref (cx_ad X 0)), (2, .ref (aM 0)), (3, .ref (cx_ad X 90)), (4, .int i)] [] μ ν k n (lawC15 N v μ ν) := by
  unfold lawC15
  refine L_aload_n hX 1 rfl rfl dL_law_1159 ?_
  refine L_aload_n hX 0 rfl rfl dL_law_1160 ?_
  refine L_iload hX 4 rfl dL_law_1161 ?_
  refine L_iconst hX (1 : Int32) rfl dL_law_1163 ?_
  refine L_iadd hX dL_law_1164 ?_
  refine L_sv hX hv 1 (by decide) rfl dL_law_1165 ?_
  refine L_aload_n hX 3 rfl rfl dL_law_1166 ?_
  refine L_h hX (fun ad adK => [.ref (ad 0), .int (v 1), .ref (ad 90)]) [] (fun z2 h2 => cL_base_ok (cx_l X) hX.2.2.2.2.2.2.2.2.2.2.2.2 N (v 1) μ z2 h2) okh_L_base lm_L_197 rfl (fun _ _ => rfl) (Nat.le_of_ble_eq_true rfl) ⟨rfl, rfl, Nat.le_of_ble_eq_true rfl, Nat.le_of_ble_eq_true rfl⟩ ⟨by omega, by omega⟩ dL_law_1167 (fun r1 μ2 => ?_)
  refine L_istore hX [(5, .int r1), (0, .ref b), (1, .ref (cx_ad X 0)), (2, .ref (aM 0)), (3, .ref (cx_ad X 90)), (4, .int i)] (by decide) rfl dL_law_1170 ?_
  refine L_aload_n hX 3 rfl rfl dL_law_1172 ?_
  refine L_aload_n hX 1 rfl rfl dL_law_1173 ?_
  refine L_iload hX 5 rfl dL_law_1174 ?_
  refine L_iconst hX (1 : Int32) rfl dL_law_1176 ?_
  refine L_iadd hX dL_law_1177 ?_
  refine L_sv hX hv 1 (by decide) rfl dL_law_1178 ?_
  refine L_cMi hX 11 (fun ad adK => [.int (v 1)]) [] (fun z2 h2 => cX11_base_ok (cx_l X) N (v 1) ν z2 h2) ok_X11_base lm_L_200 rfl rfl rfl (fun _ _ => rfl) (Nat.le_of_ble_eq_true rfl) ⟨rfl, rfl, Nat.le_of_ble_eq_true rfl, Nat.le_of_ble_eq_true rfl⟩ ⟨by omega, by omega⟩ dL_law_1179 (fun r3 ν4 => ?_)
  refine L_istore hX [(6, .int r3), (5, .int r1), (0, .ref b), (1, .ref (cx_ad X 0)), (2, .ref (aM 0)), (3, .ref (cx_ad X 90)), (4, .int i)] (by decide) rfl dL_law_1182 ?_
  refine L_aload_n hX 4 rfl rfl dL_law_1184 ?_
  refine L_cMi hX 11 (fun ad adK => []) [] (fun z2 h2 => cX11_thrown_ok (cx_l X) N ν4 z2 h2) ok_X11_thrown lm_L_150 rfl rfl rfl (fun _ _ => rfl) (Nat.le_of_ble_eq_true rfl) ⟨rfl, rfl, Nat.le_of_ble_eq_true rfl, Nat.le_of_ble_eq_true rfl⟩ ⟨by omega, by omega⟩ dL_law_1185 (fun r5 ν6 => ?_)
  refine L_iload hX 1 rfl dL_law_1188 ?_
  refine L_icmp_eq hX 1195 rfl dL_law_1190 ?_ ?_
  · skip
    refine L_iload hX 1 rfl dL_law_1195 ?_
    refine L_if_ne hX 1212 rfl dL_law_1197 ?_ ?_
    · skip
      refine L_goto hX 2715 rfl dL_law_1212 ?_
      exact L_end hC [2, 3, 4, 5, 6] rfl ⟨by omega, by omega⟩
    · skip
      refine L_aload_n hX 5 rfl rfl dL_law_1200 ?_
      refine L_iconst hX (0 : Int32) rfl dL_law_1201 ?_
      refine L_outn hX dL_law_1202 (fun y7 => ?_)
      refine L_iload hX 0 rfl dL_law_1203 ?_
      refine L_i2l hX dL_law_1205 ?_
      refine L_lcmp hX dL_law_1206 ?_
      refine L_if_eq hX 1212 rfl dL_law_1207 ?_ ?_
      · skip
        refine L_goto hX 2715 rfl dL_law_1212 ?_
        exact L_end hC [2, 3, 4, 5, 6] rfl ⟨by omega, by omega⟩
      · skip
        exact L_none
  · skip
    exact L_none
theorem walkC16 {X : Ctx} {aM : Nat → Nat} {b L : Nat} {xs : Nat → Int32} {z : Mem × Mem} (hX : FL X aM b L xs) {i : Int32} {v : Nat → Int32} (hv : VI L xs i v) (N : Nat) (μ ν : Mem) {k n : Nat} (hk : k + 8 ≤ room_1.cells) (hn : n + 48 ≤ room_1.slots) (hC : CL X aM z [(0, .ref b), (1, .ref (cx_ad X 0)), (2, .ref (aM 0)), (3, .ref (cx_ad X 90)), (4, .int i)] (k + 8) (n + 48)) : GL X aM z 1215 [(0, .ref b), (1, .ref (cx_ad X 0)), (2, .ref (aM 0)), (3, .ref (cx_ad X 90)), (4, .int i)] [] μ ν k n (lawC16 N v μ ν) := by
  unfold lawC16
  refine L_aload_n hX 1 rfl rfl dL_law_1215 ?_
  refine L_aload_n hX 0 rfl rfl dL_law_1216 ?_
  refine L_iload hX 4 rfl dL_law_1217 ?_
  refine L_iconst hX (1 : Int32) rfl dL_law_1219 ?_
  refine L_iadd hX dL_law_1220 ?_
  refine L_sv hX hv 1 (by decide) rfl dL_law_1221 ?_
  refine L_aload_n hX 0 rfl rfl dL_law_1222 ?_
  refine L_iload hX 4 rfl dL_law_1223 ?_
  refine L_iconst hX (2 : Int32) rfl dL_law_1225 ?_
  refine L_iadd hX dL_law_1226 ?_
  refine L_sv hX hv 2 (by decide) rfl dL_law_1227 ?_
  refine L_aload_n hX 0 rfl rfl dL_law_1228 ?_
  refine L_iload hX 4 rfl dL_law_1229 ?_
  refine L_iconst hX (3 : Int32) rfl dL_law_1231 ?_
  refine L_iadd hX dL_law_1232 ?_
  refine L_sv hX hv 3 (by decide) rfl dL_law_1233 ?_
  refine L_aload_n hX 3 rfl rfl dL_law_1234 ?_
  refine L_h hX (fun ad adK => [.ref (ad 0), .int (v 1), .int (v 2), .int (v 3), .ref (ad 90)]) [] (fun z2 h2 => cL_below_ok (cx_l X) hX.2.2.2.2.2.2.2.2.2.2.2.2 N (v 1) (v 2) (v 3) μ z2 h2) okh_L_below lm_L_201 rfl (fun _ _ => rfl) (Nat.le_of_ble_eq_true rfl) ⟨rfl, rfl, Nat.le_of_ble_eq_true rfl, Nat.le_of_ble_eq_true rfl⟩ ⟨by omega, by omega⟩ dL_law_1235 (fun r1 μ2 => ?_)
  refine L_istore hX [(5, .int r1), (0, .ref b), (1, .ref (cx_ad X 0)), (2, .ref (aM 0)), (3, .ref (cx_ad X 90)), (4, .int i)] (by decide) rfl dL_law_1238 ?_
  refine L_aload_n hX 3 rfl rfl dL_law_1240 ?_
  refine L_aload_n hX 1 rfl rfl dL_law_1241 ?_
  refine L_iload hX 5 rfl dL_law_1242 ?_
  refine L_iconst hX (1 : Int32) rfl dL_law_1244 ?_
  refine L_iadd hX dL_law_1245 ?_
  refine L_sv hX hv 1 (by decide) rfl dL_law_1246 ?_
  refine L_aload_n hX 1 rfl rfl dL_law_1247 ?_
  refine L_iload hX 5 rfl dL_law_1248 ?_
  refine L_iconst hX (2 : Int32) rfl dL_law_1250 ?_
  refine L_iadd hX dL_law_1251 ?_
  refine L_sv hX hv 2 (by decide) rfl dL_law_1252 ?_
  refine L_aload_n hX 1 rfl rfl dL_law_1253 ?_
  refine L_iload hX 5 rfl dL_law_1254 ?_
  refine L_iconst hX (3 : Int32) rfl dL_law_1256 ?_
  refine L_iadd hX dL_law_1257 ?_
  refine L_sv hX hv 3 (by decide) rfl dL_law_1258 ?_
  refine L_cMi hX 11 (fun ad adK => [.int (v 1), .int (v 2), .int (v 3)]) [] (fun z2 h2 => cX11_below_ok (cx_l X) N (v 1) (v 2) (v 3) ν z2 h2) ok_X11_below lm_L_203 rfl rfl rfl (fun _ _ => rfl) (Nat.le_of_ble_eq_true rfl) ⟨rfl, rfl, Nat.le_of_ble_eq_true rfl, Nat.le_of_ble_eq_true rfl⟩ ⟨by omega, by omega⟩ dL_law_1259 (fun r3 ν4 => ?_)
  refine L_istore hX [(6, .int r3), (5, .int r1), (0, .ref b), (1, .ref (cx_ad X 0)), (2, .ref (aM 0)), (3, .ref (cx_ad X 90)), (4, .int i)] (by decide) rfl dL_law_1262 ?_
  refine L_aload_n hX 4 rfl rfl dL_law_1264 ?_
  refine L_cMi hX 11 (fun ad adK => []) [] (fun z2 h2 => cX11_thrown_ok (cx_l X) N ν4 z2 h2) ok_X11_thrown lm_L_150 rfl rfl rfl (fun _ _ => rfl) (Nat.le_of_ble_eq_true rfl) ⟨rfl, rfl, Nat.le_of_ble_eq_true rfl, Nat.le_of_ble_eq_true rfl⟩ ⟨by omega, by omega⟩ dL_law_1265 (fun r5 ν6 => ?_)
  refine L_iload hX 1 rfl dL_law_1268 ?_
  refine L_icmp_eq hX 1275 rfl dL_law_1270 ?_ ?_
  · skip
    refine L_iload hX 1 rfl dL_law_1275 ?_
    refine L_if_ne hX 1292 rfl dL_law_1277 ?_ ?_
    · skip
      refine L_goto hX 2715 rfl dL_law_1292 ?_
      exact L_end hC [2, 3, 4, 5, 6] rfl ⟨by omega, by omega⟩
    · skip
      refine L_aload_n hX 5 rfl rfl dL_law_1280 ?_
      refine L_iconst hX (0 : Int32) rfl dL_law_1281 ?_
      refine L_outn hX dL_law_1282 (fun y7 => ?_)
      refine L_iload hX 0 rfl dL_law_1283 ?_
      refine L_i2l hX dL_law_1285 ?_
      refine L_lcmp hX dL_law_1286 ?_
      refine L_if_eq hX 1292 rfl dL_law_1287 ?_ ?_
      · skip
        refine L_goto hX 2715 rfl dL_law_1292 ?_
        exact L_end hC [2, 3, 4, 5, 6] rfl ⟨by omega, by omega⟩
      · skip
        exact L_none
  · skip
    exact L_none
theorem walkC17 {X : Ctx} {aM : Nat → Nat} {b L : Nat} {xs : Nat → Int32} {z : Mem × Mem} (hX : FL X aM b L xs) {i : Int32} {v : Nat → Int32} (hv : VI L xs i v) (N : Nat) (μ ν : Mem) {k n : Nat} (hk : k + 8 ≤ room_1.cells) (hn : n + 48 ≤ room_1.slots) (hC : CL X aM z [(0, .ref b), (1, .ref (cx_ad X 0)), (2, .ref (aM 0)), (3, .ref (cx_ad X 90)), (4, .int i)] (k + 8) (n + 48)) : GL X aM z 1295 [(0, .ref b), (1, .ref (cx_ad X 0)), (2, .ref (aM 0)), (3, .ref (cx_ad X 90)), (4, .int i)] [] μ ν k n (lawC17 N v μ ν) := by
  unfold lawC17
  refine L_aload_n hX 1 rfl rfl dL_law_1295 ?_
  refine L_aload_n hX 0 rfl rfl dL_law_1296 ?_
  refine L_iload hX 4 rfl dL_law_1297 ?_
  refine L_iconst hX (1 : Int32) rfl dL_law_1299 ?_
  refine L_iadd hX dL_law_1300 ?_
  refine L_sv hX hv 1 (by decide) rfl dL_law_1301 ?_
  refine L_aload_n hX 0 rfl rfl dL_law_1302 ?_
  refine L_iload hX 4 rfl dL_law_1303 ?_
  refine L_iconst hX (2 : Int32) rfl dL_law_1305 ?_
  refine L_iadd hX dL_law_1306 ?_
  refine L_sv hX hv 2 (by decide) rfl dL_law_1307 ?_
  refine L_aload_n hX 0 rfl rfl dL_law_1308 ?_
  refine L_iload hX 4 rfl dL_law_1309 ?_
  refine L_iconst hX (3 : Int32) rfl dL_law_1311 ?_
  refine L_iadd hX dL_law_1312 ?_
  refine L_sv hX hv 3 (by decide) rfl dL_law_1313 ?_
  refine L_aload_n hX 0 rfl rfl dL_law_1314 ?_
  refine L_iload hX 4 rfl dL_law_1315 ?_
  refine L_iconst hX (4 : Int32) rfl dL_law_1317 ?_
  refine L_iadd hX dL_law_1318 ?_
  refine L_sv hX hv 4 (by decide) rfl dL_law_1319 ?_
  refine L_aload_n hX 3 rfl rfl dL_law_1320 ?_
  refine L_h hX (fun ad adK => [.ref (ad 0), .int (v 1), .int (v 2), .int (v 3), .int (v 4), .ref (ad 90)]) [] (fun z2 h2 => cL_worth_ok (cx_l X) hX.2.2.2.2.2.2.2.2.2.2.2.2 N (v 1) (v 2) (v 3) (v 4) μ z2 h2) okh_L_worth lm_L_204 rfl (fun _ _ => rfl) (Nat.le_of_ble_eq_true rfl) ⟨rfl, rfl, Nat.le_of_ble_eq_true rfl, Nat.le_of_ble_eq_true rfl⟩ ⟨by omega, by omega⟩ dL_law_1321 (fun r1 μ2 => ?_)
  refine L_istore hX [(5, .int r1), (0, .ref b), (1, .ref (cx_ad X 0)), (2, .ref (aM 0)), (3, .ref (cx_ad X 90)), (4, .int i)] (by decide) rfl dL_law_1324 ?_
  refine L_aload_n hX 3 rfl rfl dL_law_1326 ?_
  refine L_aload_n hX 1 rfl rfl dL_law_1327 ?_
  refine L_iload hX 5 rfl dL_law_1328 ?_
  refine L_iconst hX (1 : Int32) rfl dL_law_1330 ?_
  refine L_iadd hX dL_law_1331 ?_
  refine L_sv hX hv 1 (by decide) rfl dL_law_1332 ?_
  refine L_aload_n hX 1 rfl rfl dL_law_1333 ?_
  refine L_iload hX 5 rfl dL_law_1334 ?_
  refine L_iconst hX (2 : Int32) rfl dL_law_1336 ?_
  refine L_iadd hX dL_law_1337 ?_
  refine L_sv hX hv 2 (by decide) rfl dL_law_1338 ?_
  refine L_aload_n hX 1 rfl rfl dL_law_1339 ?_
  refine L_iload hX 5 rfl dL_law_1340 ?_
  refine L_iconst hX (3 : Int32) rfl dL_law_1342 ?_
  refine L_iadd hX dL_law_1343 ?_
  refine L_sv hX hv 3 (by decide) rfl dL_law_1344 ?_
  refine L_aload_n hX 1 rfl rfl dL_law_1345 ?_
  refine L_iload hX 5 rfl dL_law_1346 ?_
  refine L_iconst hX (4 : Int32) rfl dL_law_1348 ?_
  refine L_iadd hX dL_law_1349 ?_
  refine L_sv hX hv 4 (by decide) rfl dL_law_1350 ?_
  refine L_cMl hX 11 (fun ad adK => [.int (v 1), .int (v 2), .int (v 3), .int (v 4)]) [] (fun z2 h2 => cX11_worth_ok (cx_l X) N (v 1) (v 2) (v 3) (v 4) ν z2 h2) ok_X11_worth lm_L_207 rfl rfl rfl (fun _ _ => rfl) (Nat.le_of_ble_eq_true rfl) ⟨rfl, rfl, Nat.le_of_ble_eq_true rfl, Nat.le_of_ble_eq_true rfl⟩ ⟨by omega, by omega⟩ dL_law_1351 (fun r3 ν4 => ?_)
  refine L_lstore hX [(6, .long r3), (5, .int r1), (0, .ref b), (1, .ref (cx_ad X 0)), (2, .ref (aM 0)), (3, .ref (cx_ad X 90)), (4, .int i)] (by decide) rfl dL_law_1354 ?_
  refine L_aload_n hX 4 rfl rfl dL_law_1356 ?_
  refine L_cMi hX 11 (fun ad adK => []) [] (fun z2 h2 => cX11_thrown_ok (cx_l X) N ν4 z2 h2) ok_X11_thrown lm_L_150 rfl rfl rfl (fun _ _ => rfl) (Nat.le_of_ble_eq_true rfl) ⟨rfl, rfl, Nat.le_of_ble_eq_true rfl, Nat.le_of_ble_eq_true rfl⟩ ⟨by omega, by omega⟩ dL_law_1357 (fun r5 ν6 => ?_)
  refine L_iload hX 1 rfl dL_law_1360 ?_
  refine L_icmp_eq hX 1367 rfl dL_law_1362 ?_ ?_
  · skip
    refine L_iload hX 1 rfl dL_law_1367 ?_
    refine L_if_ne hX 1383 rfl dL_law_1369 ?_ ?_
    · skip
      refine L_goto hX 2715 rfl dL_law_1383 ?_
      exact L_end hC [2, 3, 4, 5, 6] rfl ⟨by omega, by omega⟩
    · skip
      refine L_aload_n hX 5 rfl rfl dL_law_1372 ?_
      refine L_iconst hX (0 : Int32) rfl dL_law_1373 ?_
      refine L_outn hX dL_law_1374 (fun y7 => ?_)
      refine L_lload hX 0 rfl dL_law_1375 ?_
      refine L_lcmp hX dL_law_1377 ?_
      refine L_if_eq hX 1383 rfl dL_law_1378 ?_ ?_
      · skip
        refine L_goto hX 2715 rfl dL_law_1383 ?_
        exact L_end hC [2, 3, 4, 5, 6] rfl ⟨by omega, by omega⟩
      · skip
        exact L_none
  · skip
    exact L_none
theorem walkC18 {X : Ctx} {aM : Nat → Nat} {b L : Nat} {xs : Nat → Int32} {z : Mem × Mem} (hX : FL X aM b L xs) {i : Int32} {v : Nat → Int32} (hv : VI L xs i v) (N : Nat) (μ ν : Mem) {k n : Nat} (hk : k + 8 ≤ room_1.cells) (hn : n + 48 ≤ room_1.slots) (hC : CL X aM z [(0, .ref b), (1, .ref (cx_ad X 0)), (2, .ref (aM 0)), (3, .ref (cx_ad X 90)), (4, .int i)] (k + 8) (n + 48)) : GL X aM z 1386 [(0, .ref b), (1, .ref (cx_ad X 0)), (2, .ref (aM 0)), (3, .ref (cx_ad X 90)), (4, .int i)] [] μ ν k n (lawC18 N v μ ν) := by
  unfold lawC18
  refine L_aload_n hX 1 rfl rfl dL_law_1386 ?_
  refine L_aload_n hX 0 rfl rfl dL_law_1387 ?_
  refine L_iload hX 4 rfl dL_law_1388 ?_
  refine L_iconst hX (1 : Int32) rfl dL_law_1390 ?_
  refine L_iadd hX dL_law_1391 ?_
  refine L_sv hX hv 1 (by decide) rfl dL_law_1392 ?_
  refine L_aload_n hX 0 rfl rfl dL_law_1393 ?_
  refine L_iload hX 4 rfl dL_law_1394 ?_
  refine L_iconst hX (2 : Int32) rfl dL_law_1396 ?_
  refine L_iadd hX dL_law_1397 ?_
  refine L_sv hX hv 2 (by decide) rfl dL_law_1398 ?_
  refine L_aload_n hX 0 rfl rfl dL_law_1399 ?_
  refine L_iload hX 4 rfl dL_law_1400 ?_
  refine L_iconst hX (3 : Int32) rfl dL_law_1402 ?_
  refine L_iadd hX dL_law_1403 ?_
  refine L_sv hX hv 3 (by decide) rfl dL_law_1404 ?_
  refine L_aload_n hX 0 rfl rfl dL_law_1405 ?_
  refine L_iload hX 4 rfl dL_law_1406 ?_
  refine L_iconst hX (4 : Int32) rfl dL_law_1408 ?_
  refine L_iadd hX dL_law_1409 ?_
  refine L_sv hX hv 4 (by decide) rfl dL_law_1410 ?_
  refine L_aload_n hX 3 rfl rfl dL_law_1411 ?_
  refine L_h hX (fun ad adK => [.ref (ad 0), .int (v 1), .int (v 2), .int (v 3), .int (v 4), .ref (ad 90)]) [] (fun z2 h2 => cL_found_ok (cx_l X) hX.2.2.2.2.2.2.2.2.2.2.2.2 N (v 1) (v 2) (v 3) (v 4) μ z2 h2) okh_L_found lm_L_208 rfl (fun _ _ => rfl) (Nat.le_of_ble_eq_true rfl) ⟨rfl, rfl, Nat.le_of_ble_eq_true rfl, Nat.le_of_ble_eq_true rfl⟩ ⟨by omega, by omega⟩ dL_law_1412 (fun r1 μ2 => ?_)
  refine L_istore hX [(5, .int r1), (0, .ref b), (1, .ref (cx_ad X 0)), (2, .ref (aM 0)), (3, .ref (cx_ad X 90)), (4, .int i)] (by decide) rfl dL_law_1415 ?_
  refine L_aload_n hX 3 rfl rfl dL_law_1417 ?_
  refine L_aload_n hX 1 rfl rfl dL_law_1418 ?_
  refine L_iload hX 5 rfl dL_law_1419 ?_
  refine L_iconst hX (1 : Int32) rfl dL_law_1421 ?_
  refine L_iadd hX dL_law_1422 ?_
  refine L_sv hX hv 1 (by decide) rfl dL_law_1423 ?_
  refine L_aload_n hX 1 rfl rfl dL_law_1424 ?_
  refine L_iload hX 5 rfl dL_law_1425 ?_
  refine L_iconst hX (2 : Int32) rfl dL_law_1427 ?_
  refine L_iadd hX dL_law_1428 ?_
  refine L_sv hX hv 2 (by decide) rfl dL_law_1429 ?_
  refine L_aload_n hX 1 rfl rfl dL_law_1430 ?_
  refine L_iload hX 5 rfl dL_law_1431 ?_
  refine L_iconst hX (3 : Int32) rfl dL_law_1433 ?_
  refine L_iadd hX dL_law_1434 ?_
  refine L_sv hX hv 3 (by decide) rfl dL_law_1435 ?_
  refine L_aload_n hX 1 rfl rfl dL_law_1436 ?_
  refine L_iload hX 5 rfl dL_law_1437 ?_
  refine L_iconst hX (4 : Int32) rfl dL_law_1439 ?_
  refine L_iadd hX dL_law_1440 ?_
  refine L_sv hX hv 4 (by decide) rfl dL_law_1441 ?_
  refine L_cMi hX 11 (fun ad adK => [.int (v 1), .int (v 2), .int (v 3), .int (v 4)]) [] (fun z2 h2 => cX11_found_ok (cx_l X) N (v 1) (v 2) (v 3) (v 4) ν z2 h2) ok_X11_found lm_L_210 rfl rfl rfl (fun _ _ => rfl) (Nat.le_of_ble_eq_true rfl) ⟨rfl, rfl, Nat.le_of_ble_eq_true rfl, Nat.le_of_ble_eq_true rfl⟩ ⟨by omega, by omega⟩ dL_law_1442 (fun r3 ν4 => ?_)
  refine L_istore hX [(6, .int r3), (5, .int r1), (0, .ref b), (1, .ref (cx_ad X 0)), (2, .ref (aM 0)), (3, .ref (cx_ad X 90)), (4, .int i)] (by decide) rfl dL_law_1445 ?_
  refine L_aload_n hX 4 rfl rfl dL_law_1447 ?_
  refine L_cMi hX 11 (fun ad adK => []) [] (fun z2 h2 => cX11_thrown_ok (cx_l X) N ν4 z2 h2) ok_X11_thrown lm_L_150 rfl rfl rfl (fun _ _ => rfl) (Nat.le_of_ble_eq_true rfl) ⟨rfl, rfl, Nat.le_of_ble_eq_true rfl, Nat.le_of_ble_eq_true rfl⟩ ⟨by omega, by omega⟩ dL_law_1448 (fun r5 ν6 => ?_)
  refine L_iload hX 1 rfl dL_law_1451 ?_
  refine L_icmp_eq hX 1458 rfl dL_law_1453 ?_ ?_
  · skip
    refine L_iload hX 1 rfl dL_law_1458 ?_
    refine L_if_ne hX 1475 rfl dL_law_1460 ?_ ?_
    · skip
      refine L_goto hX 2715 rfl dL_law_1475 ?_
      exact L_end hC [2, 3, 4, 5, 6] rfl ⟨by omega, by omega⟩
    · skip
      refine L_aload_n hX 5 rfl rfl dL_law_1463 ?_
      refine L_iconst hX (0 : Int32) rfl dL_law_1464 ?_
      refine L_outn hX dL_law_1465 (fun y7 => ?_)
      refine L_iload hX 0 rfl dL_law_1466 ?_
      refine L_i2l hX dL_law_1468 ?_
      refine L_lcmp hX dL_law_1469 ?_
      refine L_if_eq hX 1475 rfl dL_law_1470 ?_ ?_
      · skip
        refine L_goto hX 2715 rfl dL_law_1475 ?_
        exact L_end hC [2, 3, 4, 5, 6] rfl ⟨by omega, by omega⟩
      · skip
        exact L_none
  · skip
    exact L_none
theorem walkC19 {X : Ctx} {aM : Nat → Nat} {b L : Nat} {xs : Nat → Int32} {z : Mem × Mem} (hX : FL X aM b L xs) {i : Int32} {v : Nat → Int32} (hv : VI L xs i v) (N : Nat) (μ ν : Mem) {k n : Nat} (hk : k + 8 ≤ room_1.cells) (hn : n + 48 ≤ room_1.slots) (hC : CL X aM z [(0, .ref b), (1, .ref (cx_ad X 0)), (2, .ref (aM 0)), (3, .ref (cx_ad X 90)), (4, .int i)] (k + 8) (n + 48)) : GL X aM z 1478 [(0, .ref b), (1, .ref (cx_ad X 0)), (2, .ref (aM 0)), (3, .ref (cx_ad X 90)), (4, .int i)] [] μ ν k n (lawC19 N v μ ν) := by
  unfold lawC19
  refine L_aload_n hX 1 rfl rfl dL_law_1478 ?_
  refine L_aload_n hX 0 rfl rfl dL_law_1479 ?_
  refine L_iload hX 4 rfl dL_law_1480 ?_
  refine L_iconst hX (1 : Int32) rfl dL_law_1482 ?_
  refine L_iadd hX dL_law_1483 ?_
  refine L_sv hX hv 1 (by decide) rfl dL_law_1484 ?_
  refine L_aload_n hX 3 rfl rfl dL_law_1485 ?_
  refine L_h hX (fun ad adK => [.ref (ad 0), .int (v 1), .ref (ad 90)]) [] (fun z2 h2 => cL_match_ok (cx_l X) hX.2.2.2.2.2.2.2.2.2.2.2.2 N (v 1) μ z2 h2) okh_L_match lm_L_211 rfl (fun _ _ => rfl) (Nat.le_of_ble_eq_true rfl) ⟨rfl, rfl, Nat.le_of_ble_eq_true rfl, Nat.le_of_ble_eq_true rfl⟩ ⟨by omega, by omega⟩ dL_law_1486 (fun r1 μ2 => ?_)
  refine L_istore hX [(5, .int r1), (0, .ref b), (1, .ref (cx_ad X 0)), (2, .ref (aM 0)), (3, .ref (cx_ad X 90)), (4, .int i)] (by decide) rfl dL_law_1489 ?_
  refine L_aload_n hX 3 rfl rfl dL_law_1491 ?_
  refine L_aload_n hX 1 rfl rfl dL_law_1492 ?_
  refine L_iload hX 5 rfl dL_law_1493 ?_
  refine L_iconst hX (1 : Int32) rfl dL_law_1495 ?_
  refine L_iadd hX dL_law_1496 ?_
  refine L_sv hX hv 1 (by decide) rfl dL_law_1497 ?_
  refine L_cMi hX 11 (fun ad adK => [.int (v 1)]) [] (fun z2 h2 => cX11_match_ok (cx_l X) N (v 1) ν z2 h2) ok_X11_match lm_L_213 rfl rfl rfl (fun _ _ => rfl) (Nat.le_of_ble_eq_true rfl) ⟨rfl, rfl, Nat.le_of_ble_eq_true rfl, Nat.le_of_ble_eq_true rfl⟩ ⟨by omega, by omega⟩ dL_law_1498 (fun r3 ν4 => ?_)
  refine L_istore hX [(6, .int r3), (5, .int r1), (0, .ref b), (1, .ref (cx_ad X 0)), (2, .ref (aM 0)), (3, .ref (cx_ad X 90)), (4, .int i)] (by decide) rfl dL_law_1501 ?_
  refine L_aload_n hX 4 rfl rfl dL_law_1503 ?_
  refine L_cMi hX 11 (fun ad adK => []) [] (fun z2 h2 => cX11_thrown_ok (cx_l X) N ν4 z2 h2) ok_X11_thrown lm_L_150 rfl rfl rfl (fun _ _ => rfl) (Nat.le_of_ble_eq_true rfl) ⟨rfl, rfl, Nat.le_of_ble_eq_true rfl, Nat.le_of_ble_eq_true rfl⟩ ⟨by omega, by omega⟩ dL_law_1504 (fun r5 ν6 => ?_)
  refine L_iload hX 1 rfl dL_law_1507 ?_
  refine L_icmp_eq hX 1514 rfl dL_law_1509 ?_ ?_
  · skip
    refine L_iload hX 1 rfl dL_law_1514 ?_
    refine L_if_ne hX 1531 rfl dL_law_1516 ?_ ?_
    · skip
      refine L_goto hX 2715 rfl dL_law_1531 ?_
      exact L_end hC [2, 3, 4, 5, 6] rfl ⟨by omega, by omega⟩
    · skip
      refine L_aload_n hX 5 rfl rfl dL_law_1519 ?_
      refine L_iconst hX (0 : Int32) rfl dL_law_1520 ?_
      refine L_outn hX dL_law_1521 (fun y7 => ?_)
      refine L_iload hX 0 rfl dL_law_1522 ?_
      refine L_i2l hX dL_law_1524 ?_
      refine L_lcmp hX dL_law_1525 ?_
      refine L_if_eq hX 1531 rfl dL_law_1526 ?_ ?_
      · skip
        refine L_goto hX 2715 rfl dL_law_1531 ?_
        exact L_end hC [2, 3, 4, 5, 6] rfl ⟨by omega, by omega⟩
      · skip
        exact L_none
  · skip
    exact L_none
theorem walkC20 {X : Ctx} {aM : Nat → Nat} {b L : Nat} {xs : Nat → Int32} {z : Mem × Mem} (hX : FL X aM b L xs) {i : Int32} {v : Nat → Int32} (hv : VI L xs i v) (N : Nat) (μ ν : Mem) {k n : Nat} (hk : k + 8 ≤ room_1.cells) (hn : n + 48 ≤ room_1.slots) (hC : CL X aM z [(0, .ref b), (1, .ref (cx_ad X 0)), (2, .ref (aM 0)), (3, .ref (cx_ad X 90)), (4, .int i)] (k + 8) (n + 48)) : GL X aM z 1534 [(0, .ref b), (1, .ref (cx_ad X 0)), (2, .ref (aM 0)), (3, .ref (cx_ad X 90)), (4, .int i)] [] μ ν k n (lawC20 N v μ ν) := by
  unfold lawC20
  refine L_aload_n hX 1 rfl rfl dL_law_1534 ?_
  refine L_aload_n hX 0 rfl rfl dL_law_1535 ?_
  refine L_iload hX 4 rfl dL_law_1536 ?_
  refine L_iconst hX (1 : Int32) rfl dL_law_1538 ?_
  refine L_iadd hX dL_law_1539 ?_
  refine L_sv hX hv 1 (by decide) rfl dL_law_1540 ?_
  refine L_aload_n hX 0 rfl rfl dL_law_1541 ?_
  refine L_iload hX 4 rfl dL_law_1542 ?_
  refine L_iconst hX (2 : Int32) rfl dL_law_1544 ?_
  refine L_iadd hX dL_law_1545 ?_
  refine L_sv hX hv 2 (by decide) rfl dL_law_1546 ?_
  refine L_aload_n hX 3 rfl rfl dL_law_1547 ?_
  refine L_h hX (fun ad adK => [.ref (ad 0), .int (v 1), .int (v 2), .ref (ad 90)]) [] (fun z2 h2 => cL_difference_ok (cx_l X) hX.2.2.2.2.2.2.2.2.2.2.2.2 N (v 1) (v 2) μ z2 h2) okh_L_difference lm_L_214 rfl (fun _ _ => rfl) (Nat.le_of_ble_eq_true rfl) ⟨rfl, rfl, Nat.le_of_ble_eq_true rfl, Nat.le_of_ble_eq_true rfl⟩ ⟨by omega, by omega⟩ dL_law_1548 (fun r1 μ2 => ?_)
  refine L_istore hX [(5, .int r1), (0, .ref b), (1, .ref (cx_ad X 0)), (2, .ref (aM 0)), (3, .ref (cx_ad X 90)), (4, .int i)] (by decide) rfl dL_law_1551 ?_
  refine L_aload_n hX 3 rfl rfl dL_law_1553 ?_
  refine L_aload_n hX 1 rfl rfl dL_law_1554 ?_
  refine L_iload hX 5 rfl dL_law_1555 ?_
  refine L_iconst hX (1 : Int32) rfl dL_law_1557 ?_
  refine L_iadd hX dL_law_1558 ?_
  refine L_sv hX hv 1 (by decide) rfl dL_law_1559 ?_
  refine L_aload_n hX 1 rfl rfl dL_law_1560 ?_
  refine L_iload hX 5 rfl dL_law_1561 ?_
  refine L_iconst hX (2 : Int32) rfl dL_law_1563 ?_
  refine L_iadd hX dL_law_1564 ?_
  refine L_sv hX hv 2 (by decide) rfl dL_law_1565 ?_
  refine L_cMl hX 11 (fun ad adK => [.int (v 1), .int (v 2)]) [] (fun z2 h2 => cX11_difference_ok (cx_l X) N (v 1) (v 2) ν z2 h2) ok_X11_difference lm_L_216 rfl rfl rfl (fun _ _ => rfl) (Nat.le_of_ble_eq_true rfl) ⟨rfl, rfl, Nat.le_of_ble_eq_true rfl, Nat.le_of_ble_eq_true rfl⟩ ⟨by omega, by omega⟩ dL_law_1566 (fun r3 ν4 => ?_)
  refine L_lstore hX [(6, .long r3), (5, .int r1), (0, .ref b), (1, .ref (cx_ad X 0)), (2, .ref (aM 0)), (3, .ref (cx_ad X 90)), (4, .int i)] (by decide) rfl dL_law_1569 ?_
  refine L_aload_n hX 4 rfl rfl dL_law_1571 ?_
  refine L_cMi hX 11 (fun ad adK => []) [] (fun z2 h2 => cX11_thrown_ok (cx_l X) N ν4 z2 h2) ok_X11_thrown lm_L_150 rfl rfl rfl (fun _ _ => rfl) (Nat.le_of_ble_eq_true rfl) ⟨rfl, rfl, Nat.le_of_ble_eq_true rfl, Nat.le_of_ble_eq_true rfl⟩ ⟨by omega, by omega⟩ dL_law_1572 (fun r5 ν6 => ?_)
  refine L_iload hX 1 rfl dL_law_1575 ?_
  refine L_icmp_eq hX 1582 rfl dL_law_1577 ?_ ?_
  · skip
    refine L_iload hX 1 rfl dL_law_1582 ?_
    refine L_if_ne hX 1598 rfl dL_law_1584 ?_ ?_
    · skip
      refine L_goto hX 2715 rfl dL_law_1598 ?_
      exact L_end hC [2, 3, 4, 5, 6] rfl ⟨by omega, by omega⟩
    · skip
      refine L_aload_n hX 5 rfl rfl dL_law_1587 ?_
      refine L_iconst hX (0 : Int32) rfl dL_law_1588 ?_
      refine L_outn hX dL_law_1589 (fun y7 => ?_)
      refine L_lload hX 0 rfl dL_law_1590 ?_
      refine L_lcmp hX dL_law_1592 ?_
      refine L_if_eq hX 1598 rfl dL_law_1593 ?_ ?_
      · skip
        refine L_goto hX 2715 rfl dL_law_1598 ?_
        exact L_end hC [2, 3, 4, 5, 6] rfl ⟨by omega, by omega⟩
      · skip
        exact L_none
  · skip
    exact L_none
theorem walkC21 {X : Ctx} {aM : Nat → Nat} {b L : Nat} {xs : Nat → Int32} {z : Mem × Mem} (hX : FL X aM b L xs) {i : Int32} {v : Nat → Int32} (hv : VI L xs i v) (N : Nat) (μ ν : Mem) {k n : Nat} (hk : k + 8 ≤ room_1.cells) (hn : n + 48 ≤ room_1.slots) (hC : CL X aM z [(0, .ref b), (1, .ref (cx_ad X 0)), (2, .ref (aM 0)), (3, .ref (cx_ad X 90)), (4, .int i)] (k + 8) (n + 48)) : GL X aM z 1601 [(0, .ref b), (1, .ref (cx_ad X 0)), (2, .ref (aM 0)), (3, .ref (cx_ad X 90)), (4, .int i)] [] μ ν k n (lawC21 N v μ ν) := by
  unfold lawC21
  refine L_aload_n hX 1 rfl rfl dL_law_1601 ?_
  refine L_aload_n hX 0 rfl rfl dL_law_1602 ?_
  refine L_iload hX 4 rfl dL_law_1603 ?_
  refine L_iconst hX (1 : Int32) rfl dL_law_1605 ?_
  refine L_iadd hX dL_law_1606 ?_
  refine L_sv hX hv 1 (by decide) rfl dL_law_1607 ?_
  refine L_aload_n hX 3 rfl rfl dL_law_1608 ?_
  refine L_h hX (fun ad adK => [.ref (ad 0), .int (v 1), .ref (ad 90)]) [] (fun z2 h2 => cL_groups_ok (cx_l X) hX.2.2.2.2.2.2.2.2.2.2.2.2 N (v 1) μ z2 h2) okh_L_groups lm_L_217 rfl (fun _ _ => rfl) (Nat.le_of_ble_eq_true rfl) ⟨rfl, rfl, Nat.le_of_ble_eq_true rfl, Nat.le_of_ble_eq_true rfl⟩ ⟨by omega, by omega⟩ dL_law_1609 (fun r1 μ2 => ?_)
  refine L_istore hX [(5, .int r1), (0, .ref b), (1, .ref (cx_ad X 0)), (2, .ref (aM 0)), (3, .ref (cx_ad X 90)), (4, .int i)] (by decide) rfl dL_law_1612 ?_
  refine L_aload_n hX 3 rfl rfl dL_law_1614 ?_
  refine L_aload_n hX 1 rfl rfl dL_law_1615 ?_
  refine L_iload hX 5 rfl dL_law_1616 ?_
  refine L_iconst hX (1 : Int32) rfl dL_law_1618 ?_
  refine L_iadd hX dL_law_1619 ?_
  refine L_sv hX hv 1 (by decide) rfl dL_law_1620 ?_
  refine L_cMi hX 11 (fun ad adK => [.int (v 1)]) [] (fun z2 h2 => cX11_groups_ok (cx_l X) N (v 1) ν z2 h2) ok_X11_groups lm_L_219 rfl rfl rfl (fun _ _ => rfl) (Nat.le_of_ble_eq_true rfl) ⟨rfl, rfl, Nat.le_of_ble_eq_true rfl, Nat.le_of_ble_eq_true rfl⟩ ⟨by omega, by omega⟩ dL_law_1621 (fun r3 ν4 => ?_)
  refine L_istore hX [(6, .int r3), (5, .int r1), (0, .ref b), (1, .ref (cx_ad X 0)), (2, .ref (aM 0)), (3, .ref (cx_ad X 90)), (4, .int i)] (by decide) rfl dL_law_1624 ?_
  refine L_aload_n hX 4 rfl rfl dL_law_1626 ?_
  refine L_cMi hX 11 (fun ad adK => []) [] (fun z2 h2 => cX11_thrown_ok (cx_l X) N ν4 z2 h2) ok_X11_thrown lm_L_150 rfl rfl rfl (fun _ _ => rfl) (Nat.le_of_ble_eq_true rfl) ⟨rfl, rfl, Nat.le_of_ble_eq_true rfl, Nat.le_of_ble_eq_true rfl⟩ ⟨by omega, by omega⟩ dL_law_1627 (fun r5 ν6 => ?_)
  refine L_iload hX 1 rfl dL_law_1630 ?_
  refine L_icmp_eq hX 1637 rfl dL_law_1632 ?_ ?_
  · skip
    refine L_iload hX 1 rfl dL_law_1637 ?_
    refine L_if_ne hX 1654 rfl dL_law_1639 ?_ ?_
    · skip
      refine L_goto hX 2715 rfl dL_law_1654 ?_
      exact L_end hC [2, 3, 4, 5, 6] rfl ⟨by omega, by omega⟩
    · skip
      refine L_aload_n hX 5 rfl rfl dL_law_1642 ?_
      refine L_iconst hX (0 : Int32) rfl dL_law_1643 ?_
      refine L_outn hX dL_law_1644 (fun y7 => ?_)
      refine L_iload hX 0 rfl dL_law_1645 ?_
      refine L_i2l hX dL_law_1647 ?_
      refine L_lcmp hX dL_law_1648 ?_
      refine L_if_eq hX 1654 rfl dL_law_1649 ?_ ?_
      · skip
        refine L_goto hX 2715 rfl dL_law_1654 ?_
        exact L_end hC [2, 3, 4, 5, 6] rfl ⟨by omega, by omega⟩
      · skip
        exact L_none
  · skip
    exact L_none
theorem walkC22 {X : Ctx} {aM : Nat → Nat} {b L : Nat} {xs : Nat → Int32} {z : Mem × Mem} (hX : FL X aM b L xs) {i : Int32} {v : Nat → Int32} (hv : VI L xs i v) (N : Nat) (μ ν : Mem) {k n : Nat} (hk : k + 8 ≤ room_1.cells) (hn : n + 48 ≤ room_1.slots) (hC : CL X aM z [(0, .ref b), (1, .ref (cx_ad X 0)), (2, .ref (aM 0)), (3, .ref (cx_ad X 90)), (4, .int i)] (k + 8) (n + 48)) : GL X aM z 1657 [(0, .ref b), (1, .ref (cx_ad X 0)), (2, .ref (aM 0)), (3, .ref (cx_ad X 90)), (4, .int i)] [] μ ν k n (lawC22 N v μ ν) := by
  unfold lawC22
  refine L_aload_n hX 1 rfl rfl dL_law_1657 ?_
  refine L_aload_n hX 0 rfl rfl dL_law_1658 ?_
  refine L_iload hX 4 rfl dL_law_1659 ?_
  refine L_iconst hX (1 : Int32) rfl dL_law_1661 ?_
  refine L_iadd hX dL_law_1662 ?_
  refine L_sv hX hv 1 (by decide) rfl dL_law_1663 ?_
  refine L_aload_n hX 0 rfl rfl dL_law_1664 ?_
  refine L_iload hX 4 rfl dL_law_1665 ?_
  refine L_iconst hX (2 : Int32) rfl dL_law_1667 ?_
  refine L_iadd hX dL_law_1668 ?_
  refine L_sv hX hv 2 (by decide) rfl dL_law_1669 ?_
  refine L_aload_n hX 0 rfl rfl dL_law_1670 ?_
  refine L_iload hX 4 rfl dL_law_1671 ?_
  refine L_iconst hX (3 : Int32) rfl dL_law_1673 ?_
  refine L_iadd hX dL_law_1674 ?_
  refine L_sv hX hv 3 (by decide) rfl dL_law_1675 ?_
  refine L_aload_n hX 3 rfl rfl dL_law_1676 ?_
  refine L_h hX (fun ad adK => [.ref (ad 0), .int (v 1), .int (v 2), .int (v 3), .ref (ad 90)]) [] (fun z2 h2 => cL_group_ok (cx_l X) hX.2.2.2.2.2.2.2.2.2.2.2.2 N (v 1) (v 2) (v 3) μ z2 h2) okh_L_group lm_L_220 rfl (fun _ _ => rfl) (Nat.le_of_ble_eq_true rfl) ⟨rfl, rfl, Nat.le_of_ble_eq_true rfl, Nat.le_of_ble_eq_true rfl⟩ ⟨by omega, by omega⟩ dL_law_1677 (fun r1 μ2 => ?_)
  refine L_istore hX [(5, .int r1), (0, .ref b), (1, .ref (cx_ad X 0)), (2, .ref (aM 0)), (3, .ref (cx_ad X 90)), (4, .int i)] (by decide) rfl dL_law_1680 ?_
  refine L_aload_n hX 3 rfl rfl dL_law_1682 ?_
  refine L_aload_n hX 1 rfl rfl dL_law_1683 ?_
  refine L_iload hX 5 rfl dL_law_1684 ?_
  refine L_iconst hX (1 : Int32) rfl dL_law_1686 ?_
  refine L_iadd hX dL_law_1687 ?_
  refine L_sv hX hv 1 (by decide) rfl dL_law_1688 ?_
  refine L_aload_n hX 1 rfl rfl dL_law_1689 ?_
  refine L_iload hX 5 rfl dL_law_1690 ?_
  refine L_iconst hX (2 : Int32) rfl dL_law_1692 ?_
  refine L_iadd hX dL_law_1693 ?_
  refine L_sv hX hv 2 (by decide) rfl dL_law_1694 ?_
  refine L_aload_n hX 1 rfl rfl dL_law_1695 ?_
  refine L_iload hX 5 rfl dL_law_1696 ?_
  refine L_iconst hX (3 : Int32) rfl dL_law_1698 ?_
  refine L_iadd hX dL_law_1699 ?_
  refine L_sv hX hv 3 (by decide) rfl dL_law_1700 ?_
  refine L_cMl hX 11 (fun ad adK => [.int (v 1), .int (v 2), .int (v 3)]) [] (fun z2 h2 => cX11_group_ok (cx_l X) N (v 1) (v 2) (v 3) ν z2 h2) ok_X11_group lm_L_222 rfl rfl rfl (fun _ _ => rfl) (Nat.le_of_ble_eq_true rfl) ⟨rfl, rfl, Nat.le_of_ble_eq_true rfl, Nat.le_of_ble_eq_true rfl⟩ ⟨by omega, by omega⟩ dL_law_1701 (fun r3 ν4 => ?_)
  refine L_lstore hX [(6, .long r3), (5, .int r1), (0, .ref b), (1, .ref (cx_ad X 0)), (2, .ref (aM 0)), (3, .ref (cx_ad X 90)), (4, .int i)] (by decide) rfl dL_law_1704 ?_
  refine L_aload_n hX 4 rfl rfl dL_law_1706 ?_
  refine L_cMi hX 11 (fun ad adK => []) [] (fun z2 h2 => cX11_thrown_ok (cx_l X) N ν4 z2 h2) ok_X11_thrown lm_L_150 rfl rfl rfl (fun _ _ => rfl) (Nat.le_of_ble_eq_true rfl) ⟨rfl, rfl, Nat.le_of_ble_eq_true rfl, Nat.le_of_ble_eq_true rfl⟩ ⟨by omega, by omega⟩ dL_law_1707 (fun r5 ν6 => ?_)
  refine L_iload hX 1 rfl dL_law_1710 ?_
  refine L_icmp_eq hX 1717 rfl dL_law_1712 ?_ ?_
  · skip
    refine L_iload hX 1 rfl dL_law_1717 ?_
    refine L_if_ne hX 1733 rfl dL_law_1719 ?_ ?_
    · skip
      refine L_goto hX 2715 rfl dL_law_1733 ?_
      exact L_end hC [2, 3, 4, 5, 6] rfl ⟨by omega, by omega⟩
    · skip
      refine L_aload_n hX 5 rfl rfl dL_law_1722 ?_
      refine L_iconst hX (0 : Int32) rfl dL_law_1723 ?_
      refine L_outn hX dL_law_1724 (fun y7 => ?_)
      refine L_lload hX 0 rfl dL_law_1725 ?_
      refine L_lcmp hX dL_law_1727 ?_
      refine L_if_eq hX 1733 rfl dL_law_1728 ?_ ?_
      · skip
        refine L_goto hX 2715 rfl dL_law_1733 ?_
        exact L_end hC [2, 3, 4, 5, 6] rfl ⟨by omega, by omega⟩
      · skip
        exact L_none
  · skip
    exact L_none
theorem walkC23 {X : Ctx} {aM : Nat → Nat} {b L : Nat} {xs : Nat → Int32} {z : Mem × Mem} (hX : FL X aM b L xs) {i : Int32} {v : Nat → Int32} (hv : VI L xs i v) (N : Nat) (μ ν : Mem) {k n : Nat} (hk : k + 8 ≤ room_1.cells) (hn : n + 48 ≤ room_1.slots) (hC : CL X aM z [(0, .ref b), (1, .ref (cx_ad X 0)), (2, .ref (aM 0)), (3, .ref (cx_ad X 90)), (4, .int i)] (k + 8) (n + 48)) : GL X aM z 1736 [(0, .ref b), (1, .ref (cx_ad X 0)), (2, .ref (aM 0)), (3, .ref (cx_ad X 90)), (4, .int i)] [] μ ν k n (lawC23 N v μ ν) := by
  unfold lawC23
  refine L_aload_n hX 1 rfl rfl dL_law_1736 ?_
  refine L_aload_n hX 0 rfl rfl dL_law_1737 ?_
  refine L_iload hX 4 rfl dL_law_1738 ?_
  refine L_iconst hX (1 : Int32) rfl dL_law_1740 ?_
  refine L_iadd hX dL_law_1741 ?_
  refine L_sv hX hv 1 (by decide) rfl dL_law_1742 ?_
  refine L_aload_n hX 0 rfl rfl dL_law_1743 ?_
  refine L_iload hX 4 rfl dL_law_1744 ?_
  refine L_iconst hX (2 : Int32) rfl dL_law_1746 ?_
  refine L_iadd hX dL_law_1747 ?_
  refine L_sv hX hv 2 (by decide) rfl dL_law_1748 ?_
  refine L_aload_n hX 0 rfl rfl dL_law_1749 ?_
  refine L_iload hX 4 rfl dL_law_1750 ?_
  refine L_iconst hX (3 : Int32) rfl dL_law_1752 ?_
  refine L_iadd hX dL_law_1753 ?_
  refine L_sv hX hv 3 (by decide) rfl dL_law_1754 ?_
  refine L_booln hX dL_law_1755 dL_law_1758 dL_law_1759 dL_law_1762 (fun x1 => ?_)
  refine L_aload_n hX 3 rfl rfl dL_law_1763 ?_
  refine L_h hX (fun ad adK => [.ref (ad 0), .int (v 1), .int (v 2), .int x1, .ref (ad 90)]) [] (fun z2 h2 => cL_sum_ok (cx_l X) hX.2.2.2.2.2.2.2.2.2.2.2.2 N (v 1) (v 2) x1 μ z2 h2) okh_L_sum lm_L_223 rfl (fun _ _ => rfl) (Nat.le_of_ble_eq_true rfl) ⟨rfl, rfl, Nat.le_of_ble_eq_true rfl, Nat.le_of_ble_eq_true rfl⟩ ⟨by omega, by omega⟩ dL_law_1764 (fun r2 μ3 => ?_)
  refine L_istore hX [(5, .int r2), (0, .ref b), (1, .ref (cx_ad X 0)), (2, .ref (aM 0)), (3, .ref (cx_ad X 90)), (4, .int i)] (by decide) rfl dL_law_1767 ?_
  refine L_aload_n hX 3 rfl rfl dL_law_1769 ?_
  refine L_aload_n hX 1 rfl rfl dL_law_1770 ?_
  refine L_iload hX 5 rfl dL_law_1771 ?_
  refine L_iconst hX (1 : Int32) rfl dL_law_1773 ?_
  refine L_iadd hX dL_law_1774 ?_
  refine L_sv hX hv 1 (by decide) rfl dL_law_1775 ?_
  refine L_aload_n hX 1 rfl rfl dL_law_1776 ?_
  refine L_iload hX 5 rfl dL_law_1777 ?_
  refine L_iconst hX (2 : Int32) rfl dL_law_1779 ?_
  refine L_iadd hX dL_law_1780 ?_
  refine L_sv hX hv 2 (by decide) rfl dL_law_1781 ?_
  refine L_aload_n hX 1 rfl rfl dL_law_1782 ?_
  refine L_iload hX 5 rfl dL_law_1783 ?_
  refine L_iconst hX (3 : Int32) rfl dL_law_1785 ?_
  refine L_iadd hX dL_law_1786 ?_
  refine L_sv hX hv 3 (by decide) rfl dL_law_1787 ?_
  refine L_booln hX dL_law_1788 dL_law_1791 dL_law_1792 dL_law_1795 (fun x4 => ?_)
  refine L_cMl hX 11 (fun ad adK => [.int (v 1), .int (v 2), .int x4]) [] (fun z2 h2 => cX11_sum_ok (cx_l X) N (v 1) (v 2) x4 ν z2 h2) ok_X11_sum lm_L_226 rfl rfl rfl (fun _ _ => rfl) (Nat.le_of_ble_eq_true rfl) ⟨rfl, rfl, Nat.le_of_ble_eq_true rfl, Nat.le_of_ble_eq_true rfl⟩ ⟨by omega, by omega⟩ dL_law_1796 (fun r5 ν6 => ?_)
  refine L_lstore hX [(6, .long r5), (5, .int r2), (0, .ref b), (1, .ref (cx_ad X 0)), (2, .ref (aM 0)), (3, .ref (cx_ad X 90)), (4, .int i)] (by decide) rfl dL_law_1799 ?_
  refine L_aload_n hX 4 rfl rfl dL_law_1801 ?_
  refine L_cMi hX 11 (fun ad adK => []) [] (fun z2 h2 => cX11_thrown_ok (cx_l X) N ν6 z2 h2) ok_X11_thrown lm_L_150 rfl rfl rfl (fun _ _ => rfl) (Nat.le_of_ble_eq_true rfl) ⟨rfl, rfl, Nat.le_of_ble_eq_true rfl, Nat.le_of_ble_eq_true rfl⟩ ⟨by omega, by omega⟩ dL_law_1802 (fun r7 ν8 => ?_)
  refine L_iload hX 1 rfl dL_law_1805 ?_
  refine L_icmp_eq hX 1812 rfl dL_law_1807 ?_ ?_
  · skip
    refine L_iload hX 1 rfl dL_law_1812 ?_
    refine L_if_ne hX 1828 rfl dL_law_1814 ?_ ?_
    · skip
      refine L_goto hX 2715 rfl dL_law_1828 ?_
      exact L_end hC [2, 3, 4, 5, 6] rfl ⟨by omega, by omega⟩
    · skip
      refine L_aload_n hX 5 rfl rfl dL_law_1817 ?_
      refine L_iconst hX (0 : Int32) rfl dL_law_1818 ?_
      refine L_outn hX dL_law_1819 (fun y9 => ?_)
      refine L_lload hX 0 rfl dL_law_1820 ?_
      refine L_lcmp hX dL_law_1822 ?_
      refine L_if_eq hX 1828 rfl dL_law_1823 ?_ ?_
      · skip
        refine L_goto hX 2715 rfl dL_law_1828 ?_
        exact L_end hC [2, 3, 4, 5, 6] rfl ⟨by omega, by omega⟩
      · skip
        exact L_none
  · skip
    exact L_none
theorem walkC24 {X : Ctx} {aM : Nat → Nat} {b L : Nat} {xs : Nat → Int32} {z : Mem × Mem} (hX : FL X aM b L xs) {i : Int32} {v : Nat → Int32} (hv : VI L xs i v) (N : Nat) (μ ν : Mem) {k n : Nat} (hk : k + 8 ≤ room_1.cells) (hn : n + 48 ≤ room_1.slots) (hC : CL X aM z [(0, .ref b), (1, .ref (cx_ad X 0)), (2, .ref (aM 0)), (3, .ref (cx_ad X 90)), (4, .int i)] (k + 8) (n + 48)) : GL X aM z 1831 [(0, .ref b), (1, .ref (cx_ad X 0)), (2, .ref (aM 0)), (3, .ref (cx_ad X 90)), (4, .int i)] [] μ ν k n (lawC24 N v μ ν) := by
  unfold lawC24
  refine L_aload_n hX 1 rfl rfl dL_law_1831 ?_
  refine L_aload_n hX 0 rfl rfl dL_law_1832 ?_
  refine L_iload hX 4 rfl dL_law_1833 ?_
  refine L_iconst hX (1 : Int32) rfl dL_law_1835 ?_
  refine L_iadd hX dL_law_1836 ?_
  refine L_sv hX hv 1 (by decide) rfl dL_law_1837 ?_
  refine L_aload_n hX 3 rfl rfl dL_law_1838 ?_
  refine L_h hX (fun ad adK => [.ref (ad 0), .int (v 1), .ref (ad 90)]) [] (fun z2 h2 => cL_value_ok (cx_l X) hX.2.2.2.2.2.2.2.2.2.2.2.2 N (v 1) μ z2 h2) okh_L_value lm_L_227 rfl (fun _ _ => rfl) (Nat.le_of_ble_eq_true rfl) ⟨rfl, rfl, Nat.le_of_ble_eq_true rfl, Nat.le_of_ble_eq_true rfl⟩ ⟨by omega, by omega⟩ dL_law_1839 (fun r1 μ2 => ?_)
  refine L_istore hX [(5, .int r1), (0, .ref b), (1, .ref (cx_ad X 0)), (2, .ref (aM 0)), (3, .ref (cx_ad X 90)), (4, .int i)] (by decide) rfl dL_law_1842 ?_
  refine L_aload_n hX 3 rfl rfl dL_law_1844 ?_
  refine L_aload_n hX 1 rfl rfl dL_law_1845 ?_
  refine L_iload hX 5 rfl dL_law_1846 ?_
  refine L_iconst hX (1 : Int32) rfl dL_law_1848 ?_
  refine L_iadd hX dL_law_1849 ?_
  refine L_sv hX hv 1 (by decide) rfl dL_law_1850 ?_
  refine L_cMl hX 11 (fun ad adK => [.int (v 1)]) [] (fun z2 h2 => cX11_value_ok (cx_l X) N (v 1) ν z2 h2) ok_X11_value lm_L_229 rfl rfl rfl (fun _ _ => rfl) (Nat.le_of_ble_eq_true rfl) ⟨rfl, rfl, Nat.le_of_ble_eq_true rfl, Nat.le_of_ble_eq_true rfl⟩ ⟨by omega, by omega⟩ dL_law_1851 (fun r3 ν4 => ?_)
  refine L_lstore hX [(6, .long r3), (5, .int r1), (0, .ref b), (1, .ref (cx_ad X 0)), (2, .ref (aM 0)), (3, .ref (cx_ad X 90)), (4, .int i)] (by decide) rfl dL_law_1854 ?_
  refine L_aload_n hX 4 rfl rfl dL_law_1856 ?_
  refine L_cMi hX 11 (fun ad adK => []) [] (fun z2 h2 => cX11_thrown_ok (cx_l X) N ν4 z2 h2) ok_X11_thrown lm_L_150 rfl rfl rfl (fun _ _ => rfl) (Nat.le_of_ble_eq_true rfl) ⟨rfl, rfl, Nat.le_of_ble_eq_true rfl, Nat.le_of_ble_eq_true rfl⟩ ⟨by omega, by omega⟩ dL_law_1857 (fun r5 ν6 => ?_)
  refine L_iload hX 1 rfl dL_law_1860 ?_
  refine L_icmp_eq hX 1867 rfl dL_law_1862 ?_ ?_
  · skip
    refine L_iload hX 1 rfl dL_law_1867 ?_
    refine L_if_ne hX 1883 rfl dL_law_1869 ?_ ?_
    · skip
      refine L_goto hX 2715 rfl dL_law_1883 ?_
      exact L_end hC [2, 3, 4, 5, 6] rfl ⟨by omega, by omega⟩
    · skip
      refine L_aload_n hX 5 rfl rfl dL_law_1872 ?_
      refine L_iconst hX (0 : Int32) rfl dL_law_1873 ?_
      refine L_outn hX dL_law_1874 (fun y7 => ?_)
      refine L_lload hX 0 rfl dL_law_1875 ?_
      refine L_lcmp hX dL_law_1877 ?_
      refine L_if_eq hX 1883 rfl dL_law_1878 ?_ ?_
      · skip
        refine L_goto hX 2715 rfl dL_law_1883 ?_
        exact L_end hC [2, 3, 4, 5, 6] rfl ⟨by omega, by omega⟩
      · skip
        exact L_none
  · skip
    exact L_none
theorem walkC25 {X : Ctx} {aM : Nat → Nat} {b L : Nat} {xs : Nat → Int32} {z : Mem × Mem} (hX : FL X aM b L xs) {i : Int32} {v : Nat → Int32} (hv : VI L xs i v) (N : Nat) (μ ν : Mem) {k n : Nat} (hk : k + 8 ≤ room_1.cells) (hn : n + 48 ≤ room_1.slots) (hC : CL X aM z [(0, .ref b), (1, .ref (cx_ad X 0)), (2, .ref (aM 0)), (3, .ref (cx_ad X 90)), (4, .int i)] (k + 8) (n + 48)) : GL X aM z 1886 [(0, .ref b), (1, .ref (cx_ad X 0)), (2, .ref (aM 0)), (3, .ref (cx_ad X 90)), (4, .int i)] [] μ ν k n (lawC25 N v μ ν) := by
  unfold lawC25
  refine L_aload_n hX 1 rfl rfl dL_law_1886 ?_
  refine L_aload_n hX 0 rfl rfl dL_law_1887 ?_
  refine L_iload hX 4 rfl dL_law_1888 ?_
  refine L_iconst hX (1 : Int32) rfl dL_law_1890 ?_
  refine L_iadd hX dL_law_1891 ?_
  refine L_sv hX hv 1 (by decide) rfl dL_law_1892 ?_
  refine L_aload_n hX 0 rfl rfl dL_law_1893 ?_
  refine L_iload hX 4 rfl dL_law_1894 ?_
  refine L_iconst hX (2 : Int32) rfl dL_law_1896 ?_
  refine L_iadd hX dL_law_1897 ?_
  refine L_sv hX hv 2 (by decide) rfl dL_law_1898 ?_
  refine L_aload_n hX 0 rfl rfl dL_law_1899 ?_
  refine L_iload hX 4 rfl dL_law_1900 ?_
  refine L_iconst hX (3 : Int32) rfl dL_law_1902 ?_
  refine L_iadd hX dL_law_1903 ?_
  refine L_sv hX hv 3 (by decide) rfl dL_law_1904 ?_
  refine L_booln hX dL_law_1905 dL_law_1908 dL_law_1909 dL_law_1912 (fun x1 => ?_)
  refine L_aload_n hX 3 rfl rfl dL_law_1913 ?_
  refine L_h hX (fun ad adK => [.ref (ad 0), .int (v 1), .int (v 2), .int x1, .ref (ad 90)]) [] (fun z2 h2 => cL_margin_ok (cx_l X) hX.2.2.2.2.2.2.2.2.2.2.2.2 N (v 1) (v 2) x1 μ z2 h2) okh_L_margin lm_L_230 rfl (fun _ _ => rfl) (Nat.le_of_ble_eq_true rfl) ⟨rfl, rfl, Nat.le_of_ble_eq_true rfl, Nat.le_of_ble_eq_true rfl⟩ ⟨by omega, by omega⟩ dL_law_1914 (fun r2 μ3 => ?_)
  refine L_istore hX [(5, .int r2), (0, .ref b), (1, .ref (cx_ad X 0)), (2, .ref (aM 0)), (3, .ref (cx_ad X 90)), (4, .int i)] (by decide) rfl dL_law_1917 ?_
  refine L_aload_n hX 3 rfl rfl dL_law_1919 ?_
  refine L_aload_n hX 1 rfl rfl dL_law_1920 ?_
  refine L_iload hX 5 rfl dL_law_1921 ?_
  refine L_iconst hX (1 : Int32) rfl dL_law_1923 ?_
  refine L_iadd hX dL_law_1924 ?_
  refine L_sv hX hv 1 (by decide) rfl dL_law_1925 ?_
  refine L_aload_n hX 1 rfl rfl dL_law_1926 ?_
  refine L_iload hX 5 rfl dL_law_1927 ?_
  refine L_iconst hX (2 : Int32) rfl dL_law_1929 ?_
  refine L_iadd hX dL_law_1930 ?_
  refine L_sv hX hv 2 (by decide) rfl dL_law_1931 ?_
  refine L_aload_n hX 1 rfl rfl dL_law_1932 ?_
  refine L_iload hX 5 rfl dL_law_1933 ?_
  refine L_iconst hX (3 : Int32) rfl dL_law_1935 ?_
  refine L_iadd hX dL_law_1936 ?_
  refine L_sv hX hv 3 (by decide) rfl dL_law_1937 ?_
  refine L_booln hX dL_law_1938 dL_law_1941 dL_law_1942 dL_law_1945 (fun x4 => ?_)
  refine L_cMi hX 11 (fun ad adK => [.int (v 1), .int (v 2), .int x4]) [] (fun z2 h2 => cX11_margin_ok (cx_l X) N (v 1) (v 2) x4 ν z2 h2) ok_X11_margin lm_L_232 rfl rfl rfl (fun _ _ => rfl) (Nat.le_of_ble_eq_true rfl) ⟨rfl, rfl, Nat.le_of_ble_eq_true rfl, Nat.le_of_ble_eq_true rfl⟩ ⟨by omega, by omega⟩ dL_law_1946 (fun r5 ν6 => ?_)
  refine L_istore hX [(6, .int r5), (5, .int r2), (0, .ref b), (1, .ref (cx_ad X 0)), (2, .ref (aM 0)), (3, .ref (cx_ad X 90)), (4, .int i)] (by decide) rfl dL_law_1949 ?_
  refine L_aload_n hX 4 rfl rfl dL_law_1951 ?_
  refine L_cMi hX 11 (fun ad adK => []) [] (fun z2 h2 => cX11_thrown_ok (cx_l X) N ν6 z2 h2) ok_X11_thrown lm_L_150 rfl rfl rfl (fun _ _ => rfl) (Nat.le_of_ble_eq_true rfl) ⟨rfl, rfl, Nat.le_of_ble_eq_true rfl, Nat.le_of_ble_eq_true rfl⟩ ⟨by omega, by omega⟩ dL_law_1952 (fun r7 ν8 => ?_)
  refine L_iload hX 1 rfl dL_law_1955 ?_
  refine L_icmp_eq hX 1962 rfl dL_law_1957 ?_ ?_
  · skip
    refine L_iload hX 1 rfl dL_law_1962 ?_
    refine L_if_ne hX 1979 rfl dL_law_1964 ?_ ?_
    · skip
      refine L_goto hX 2715 rfl dL_law_1979 ?_
      exact L_end hC [2, 3, 4, 5, 6] rfl ⟨by omega, by omega⟩
    · skip
      refine L_aload_n hX 5 rfl rfl dL_law_1967 ?_
      refine L_iconst hX (0 : Int32) rfl dL_law_1968 ?_
      refine L_outn hX dL_law_1969 (fun y9 => ?_)
      refine L_iload hX 0 rfl dL_law_1970 ?_
      refine L_i2l hX dL_law_1972 ?_
      refine L_lcmp hX dL_law_1973 ?_
      refine L_if_eq hX 1979 rfl dL_law_1974 ?_ ?_
      · skip
        refine L_goto hX 2715 rfl dL_law_1979 ?_
        exact L_end hC [2, 3, 4, 5, 6] rfl ⟨by omega, by omega⟩
      · skip
        exact L_none
  · skip
    exact L_none
theorem walkC26 {X : Ctx} {aM : Nat → Nat} {b L : Nat} {xs : Nat → Int32} {z : Mem × Mem} (hX : FL X aM b L xs) {i : Int32} {v : Nat → Int32} (hv : VI L xs i v) (N : Nat) (μ ν : Mem) {k n : Nat} (hk : k + 8 ≤ room_1.cells) (hn : n + 48 ≤ room_1.slots) (hC : CL X aM z [(0, .ref b), (1, .ref (cx_ad X 0)), (2, .ref (aM 0)), (3, .ref (cx_ad X 90)), (4, .int i)] (k + 8) (n + 48)) : GL X aM z 1982 [(0, .ref b), (1, .ref (cx_ad X 0)), (2, .ref (aM 0)), (3, .ref (cx_ad X 90)), (4, .int i)] [] μ ν k n (lawC26 N v μ ν) := by
  unfold lawC26
  refine L_aload_n hX 1 rfl rfl dL_law_1982 ?_
  refine L_aload_n hX 0 rfl rfl dL_law_1983 ?_
  refine L_iload hX 4 rfl dL_law_1984 ?_
  refine L_iconst hX (1 : Int32) rfl dL_law_1986 ?_
  refine L_iadd hX dL_law_1987 ?_
  refine L_sv hX hv 1 (by decide) rfl dL_law_1988 ?_
  refine L_aload_n hX 3 rfl rfl dL_law_1989 ?_
  refine L_h hX (fun ad adK => [.ref (ad 0), .int (v 1), .ref (ad 90)]) [] (fun z2 h2 => cL_negligible_ok (cx_l X) hX.2.2.2.2.2.2.2.2.2.2.2.2 N (v 1) μ z2 h2) okh_L_negligible lm_L_233 rfl (fun _ _ => rfl) (Nat.le_of_ble_eq_true rfl) ⟨rfl, rfl, Nat.le_of_ble_eq_true rfl, Nat.le_of_ble_eq_true rfl⟩ ⟨by omega, by omega⟩ dL_law_1990 (fun r1 μ2 => ?_)
  refine L_istore hX [(5, .int r1), (0, .ref b), (1, .ref (cx_ad X 0)), (2, .ref (aM 0)), (3, .ref (cx_ad X 90)), (4, .int i)] (by decide) rfl dL_law_1993 ?_
  refine L_aload_n hX 3 rfl rfl dL_law_1995 ?_
  refine L_aload_n hX 1 rfl rfl dL_law_1996 ?_
  refine L_iload hX 5 rfl dL_law_1997 ?_
  refine L_iconst hX (1 : Int32) rfl dL_law_1999 ?_
  refine L_iadd hX dL_law_2000 ?_
  refine L_sv hX hv 1 (by decide) rfl dL_law_2001 ?_
  refine L_cMi hX 11 (fun ad adK => [.int (v 1)]) [] (fun z2 h2 => cX11_negligible_ok (cx_l X) N (v 1) ν z2 h2) ok_X11_negligible lm_L_235 rfl rfl rfl (fun _ _ => rfl) (Nat.le_of_ble_eq_true rfl) ⟨rfl, rfl, Nat.le_of_ble_eq_true rfl, Nat.le_of_ble_eq_true rfl⟩ ⟨by omega, by omega⟩ dL_law_2002 (fun r3 ν4 => ?_)
  refine L_istore hX [(6, .int r3), (5, .int r1), (0, .ref b), (1, .ref (cx_ad X 0)), (2, .ref (aM 0)), (3, .ref (cx_ad X 90)), (4, .int i)] (by decide) rfl dL_law_2005 ?_
  refine L_aload_n hX 4 rfl rfl dL_law_2007 ?_
  refine L_cMi hX 11 (fun ad adK => []) [] (fun z2 h2 => cX11_thrown_ok (cx_l X) N ν4 z2 h2) ok_X11_thrown lm_L_150 rfl rfl rfl (fun _ _ => rfl) (Nat.le_of_ble_eq_true rfl) ⟨rfl, rfl, Nat.le_of_ble_eq_true rfl, Nat.le_of_ble_eq_true rfl⟩ ⟨by omega, by omega⟩ dL_law_2008 (fun r5 ν6 => ?_)
  refine L_iload hX 1 rfl dL_law_2011 ?_
  refine L_icmp_eq hX 2018 rfl dL_law_2013 ?_ ?_
  · skip
    refine L_iload hX 1 rfl dL_law_2018 ?_
    refine L_if_ne hX 2042 rfl dL_law_2020 ?_ ?_
    · skip
      refine L_goto hX 2715 rfl dL_law_2042 ?_
      exact L_end hC [2, 3, 4, 5, 6] rfl ⟨by omega, by omega⟩
    · skip
      refine L_aload_n hX 5 rfl rfl dL_law_2023 ?_
      refine L_iconst hX (0 : Int32) rfl dL_law_2024 ?_
      refine L_outn hX dL_law_2025 (fun y7 => ?_)
      refine L_iload hX 0 rfl dL_law_2026 ?_
      refine L_if_eq hX 2035 rfl dL_law_2028 ?_ ?_
      · skip
        refine L_lconst hX (0 : Int64) rfl dL_law_2035 ?_
        refine L_lcmp hX dL_law_2036 ?_
        refine L_if_eq hX 2042 rfl dL_law_2037 ?_ ?_
        · skip
          refine L_goto hX 2715 rfl dL_law_2042 ?_
          exact L_end hC [2, 3, 4, 5, 6] rfl ⟨by omega, by omega⟩
        · skip
          exact L_none
      · skip
        refine L_lconst hX (1 : Int64) rfl dL_law_2031 ?_
        refine L_goto hX 2036 rfl dL_law_2032 ?_
        refine L_lcmp hX dL_law_2036 ?_
        refine L_if_eq hX 2042 rfl dL_law_2037 ?_ ?_
        · skip
          refine L_goto hX 2715 rfl dL_law_2042 ?_
          exact L_end hC [2, 3, 4, 5, 6] rfl ⟨by omega, by omega⟩
        · skip
          exact L_none
  · skip
    exact L_none
