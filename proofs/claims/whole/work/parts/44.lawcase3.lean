theorem walkC27 {X : Ctx} {aM : Nat → Nat} {b L : Nat} {xs : Nat → Int32} {z : Mem × Mem} (hX : FL X aM b L xs) {i : Int32} {v : Nat → Int32} (hv : VI L xs i v) (N : Nat) (μ ν : Mem) {k n : Nat} (hk : k + 8 ≤ room_1.cells) (hn : n + 48 ≤ room_1.slots) (hC : CL X aM z [(0, .ref b), (1, .ref (cx_ad X 0)), (2, .ref (aM 0)), (3, .ref (cx_ad X 90)), (4, .int i)] (k + 8) (n + 48)) : GL X aM z 2045 [(0, .ref b), (1, .ref (cx_ad X 0)), (2, .ref (aM 0)), (3, .ref (cx_ad X 90)), (4, .int i)] [] μ ν k n (lawC27 N v μ ν) := by
  unfold lawC27
  refine L_aload_n hX 1 rfl rfl dL_law_2045 ?_
  refine L_aload_n hX 0 rfl rfl dL_law_2046 ?_
  refine L_iload hX 4 rfl dL_law_2047 ?_
  refine L_iconst hX (1 : Int32) rfl dL_law_2049 ?_
  refine L_iadd hX dL_law_2050 ?_
  refine L_sv hX hv 1 (by decide) rfl dL_law_2051 ?_
  refine L_aload_n hX 0 rfl rfl dL_law_2052 ?_
  refine L_iload hX 4 rfl dL_law_2053 ?_
  refine L_iconst hX (2 : Int32) rfl dL_law_2055 ?_
  refine L_iadd hX dL_law_2056 ?_
  refine L_sv hX hv 2 (by decide) rfl dL_law_2057 ?_
  refine L_aload_n hX 3 rfl rfl dL_law_2058 ?_
  refine L_h hX (fun ad adK => [.ref (ad 0), .int (v 1), .int (v 2), .ref (ad 90)]) [] (fun z2 h2 => cL_duty_ok (cx_l X) hX.2.2.2.2.2.2.2.2.2.2.2.2 N (v 1) (v 2) μ z2 h2) okh_L_duty lm_L_236 rfl (fun _ _ => rfl) (Nat.le_of_ble_eq_true rfl) ⟨rfl, rfl, Nat.le_of_ble_eq_true rfl, Nat.le_of_ble_eq_true rfl⟩ ⟨by omega, by omega⟩ dL_law_2059 (fun r1 μ2 => ?_)
  refine L_istore hX [(5, .int r1), (0, .ref b), (1, .ref (cx_ad X 0)), (2, .ref (aM 0)), (3, .ref (cx_ad X 90)), (4, .int i)] (by decide) rfl dL_law_2062 ?_
  refine L_aload_n hX 3 rfl rfl dL_law_2064 ?_
  refine L_aload_n hX 1 rfl rfl dL_law_2065 ?_
  refine L_iload hX 5 rfl dL_law_2066 ?_
  refine L_iconst hX (1 : Int32) rfl dL_law_2068 ?_
  refine L_iadd hX dL_law_2069 ?_
  refine L_sv hX hv 1 (by decide) rfl dL_law_2070 ?_
  refine L_aload_n hX 1 rfl rfl dL_law_2071 ?_
  refine L_iload hX 5 rfl dL_law_2072 ?_
  refine L_iconst hX (2 : Int32) rfl dL_law_2074 ?_
  refine L_iadd hX dL_law_2075 ?_
  refine L_sv hX hv 2 (by decide) rfl dL_law_2076 ?_
  refine L_cMi hX 11 (fun ad adK => [.int (v 1), .int (v 2)]) [] (fun z2 h2 => cX11_duty_ok (cx_l X) N (v 1) (v 2) ν z2 h2) ok_X11_duty lm_L_238 rfl rfl rfl (fun _ _ => rfl) (Nat.le_of_ble_eq_true rfl) ⟨rfl, rfl, Nat.le_of_ble_eq_true rfl, Nat.le_of_ble_eq_true rfl⟩ ⟨by omega, by omega⟩ dL_law_2077 (fun r3 ν4 => ?_)
  refine L_istore hX [(6, .int r3), (5, .int r1), (0, .ref b), (1, .ref (cx_ad X 0)), (2, .ref (aM 0)), (3, .ref (cx_ad X 90)), (4, .int i)] (by decide) rfl dL_law_2080 ?_
  refine L_aload_n hX 4 rfl rfl dL_law_2082 ?_
  refine L_cMi hX 11 (fun ad adK => []) [] (fun z2 h2 => cX11_thrown_ok (cx_l X) N ν4 z2 h2) ok_X11_thrown lm_L_150 rfl rfl rfl (fun _ _ => rfl) (Nat.le_of_ble_eq_true rfl) ⟨rfl, rfl, Nat.le_of_ble_eq_true rfl, Nat.le_of_ble_eq_true rfl⟩ ⟨by omega, by omega⟩ dL_law_2083 (fun r5 ν6 => ?_)
  refine L_iload hX 1 rfl dL_law_2086 ?_
  refine L_icmp_eq hX 2093 rfl dL_law_2088 ?_ ?_
  · skip
    refine L_iload hX 1 rfl dL_law_2093 ?_
    refine L_if_ne hX 2110 rfl dL_law_2095 ?_ ?_
    · skip
      refine L_goto hX 2715 rfl dL_law_2110 ?_
      exact L_end hC [2, 3, 4, 5, 6] rfl ⟨by omega, by omega⟩
    · skip
      refine L_aload_n hX 5 rfl rfl dL_law_2098 ?_
      refine L_iconst hX (0 : Int32) rfl dL_law_2099 ?_
      refine L_outn hX dL_law_2100 (fun y7 => ?_)
      refine L_iload hX 0 rfl dL_law_2101 ?_
      refine L_i2l hX dL_law_2103 ?_
      refine L_lcmp hX dL_law_2104 ?_
      refine L_if_eq hX 2110 rfl dL_law_2105 ?_ ?_
      · skip
        refine L_goto hX 2715 rfl dL_law_2110 ?_
        exact L_end hC [2, 3, 4, 5, 6] rfl ⟨by omega, by omega⟩
      · skip
        exact L_none
  · skip
    exact L_none
theorem walkC28 {X : Ctx} {aM : Nat → Nat} {b L : Nat} {xs : Nat → Int32} {z : Mem × Mem} (hX : FL X aM b L xs) {i : Int32} {v : Nat → Int32} (hv : VI L xs i v) (N : Nat) (μ ν : Mem) {k n : Nat} (hk : k + 8 ≤ room_1.cells) (hn : n + 48 ≤ room_1.slots) (hC : CL X aM z [(0, .ref b), (1, .ref (cx_ad X 0)), (2, .ref (aM 0)), (3, .ref (cx_ad X 90)), (4, .int i)] (k + 8) (n + 48)) : GL X aM z 2113 [(0, .ref b), (1, .ref (cx_ad X 0)), (2, .ref (aM 0)), (3, .ref (cx_ad X 90)), (4, .int i)] [] μ ν k n (lawC28 N v μ ν) := by
  unfold lawC28
  refine L_aload_n hX 1 rfl rfl dL_law_2113 ?_
  refine L_cCi hX 10 (fun ad adK => []) [] (fun z2 h2 => cX10_others_ok (cx_l X) N μ z2 h2) ok_X10_others lm_L_239 rfl rfl rfl (fun _ _ => rfl) (Nat.le_of_ble_eq_true rfl) ⟨rfl, rfl, Nat.le_of_ble_eq_true rfl, Nat.le_of_ble_eq_true rfl⟩ ⟨by omega, by omega⟩ dL_law_2114 (fun r1 μ2 => ?_)
  refine L_aload_n hX 2 rfl rfl dL_law_2117 ?_
  refine L_cMi hX 11 (fun ad adK => []) [.int r1] (fun z2 h2 => cX11_others_ok (cx_l X) N ν z2 h2) ok_X11_others lm_L_242 rfl rfl rfl (fun _ _ => rfl) (Nat.le_of_ble_eq_true rfl) ⟨rfl, rfl, Nat.le_of_ble_eq_true rfl, Nat.le_of_ble_eq_true rfl⟩ ⟨by omega, by omega⟩ dL_law_2118 (fun r3 ν4 => ?_)
  refine L_icmp_eq hX 2715 rfl dL_law_2121 ?_ ?_
  · skip
    exact L_end hC [0, 1, 2, 3, 4] rfl ⟨by omega, by omega⟩
  · skip
    exact L_none
theorem walkC29 {X : Ctx} {aM : Nat → Nat} {b L : Nat} {xs : Nat → Int32} {z : Mem × Mem} (hX : FL X aM b L xs) {i : Int32} {v : Nat → Int32} (hv : VI L xs i v) (N : Nat) (μ ν : Mem) {k n : Nat} (hk : k + 8 ≤ room_1.cells) (hn : n + 48 ≤ room_1.slots) (hC : CL X aM z [(0, .ref b), (1, .ref (cx_ad X 0)), (2, .ref (aM 0)), (3, .ref (cx_ad X 90)), (4, .int i)] (k + 8) (n + 48)) : GL X aM z 2126 [(0, .ref b), (1, .ref (cx_ad X 0)), (2, .ref (aM 0)), (3, .ref (cx_ad X 90)), (4, .int i)] [] μ ν k n (lawC29 N v μ ν) := by
  unfold lawC29
  refine L_aload_n hX 1 rfl rfl dL_law_2126 ?_
  refine L_aload_n hX 0 rfl rfl dL_law_2127 ?_
  refine L_iload hX 4 rfl dL_law_2128 ?_
  refine L_iconst hX (1 : Int32) rfl dL_law_2130 ?_
  refine L_iadd hX dL_law_2131 ?_
  refine L_sv hX hv 1 (by decide) rfl dL_law_2132 ?_
  refine L_aload_n hX 0 rfl rfl dL_law_2133 ?_
  refine L_iload hX 4 rfl dL_law_2134 ?_
  refine L_iconst hX (2 : Int32) rfl dL_law_2136 ?_
  refine L_iadd hX dL_law_2137 ?_
  refine L_sv hX hv 2 (by decide) rfl dL_law_2138 ?_
  refine L_aload_n hX 3 rfl rfl dL_law_2139 ?_
  refine L_h hX (fun ad adK => [.ref (ad 0), .int (v 1), .int (v 2), .ref (ad 90)]) [] (fun z2 h2 => cL_method_ok (cx_l X) hX.2.2.2.2.2.2.2.2.2.2.2.2 N (v 1) (v 2) μ z2 h2) okh_L_method lm_L_243 rfl (fun _ _ => rfl) (Nat.le_of_ble_eq_true rfl) ⟨rfl, rfl, Nat.le_of_ble_eq_true rfl, Nat.le_of_ble_eq_true rfl⟩ ⟨by omega, by omega⟩ dL_law_2140 (fun r1 μ2 => ?_)
  refine L_istore hX [(5, .int r1), (0, .ref b), (1, .ref (cx_ad X 0)), (2, .ref (aM 0)), (3, .ref (cx_ad X 90)), (4, .int i)] (by decide) rfl dL_law_2143 ?_
  refine L_aload_n hX 3 rfl rfl dL_law_2145 ?_
  refine L_aload_n hX 1 rfl rfl dL_law_2146 ?_
  refine L_iload hX 5 rfl dL_law_2147 ?_
  refine L_iconst hX (1 : Int32) rfl dL_law_2149 ?_
  refine L_iadd hX dL_law_2150 ?_
  refine L_sv hX hv 1 (by decide) rfl dL_law_2151 ?_
  refine L_aload_n hX 1 rfl rfl dL_law_2152 ?_
  refine L_iload hX 5 rfl dL_law_2153 ?_
  refine L_iconst hX (2 : Int32) rfl dL_law_2155 ?_
  refine L_iadd hX dL_law_2156 ?_
  refine L_sv hX hv 2 (by decide) rfl dL_law_2157 ?_
  refine L_cMi hX 11 (fun ad adK => [.int (v 1), .int (v 2)]) [] (fun z2 h2 => cX11_method_ok (cx_l X) N (v 1) (v 2) ν z2 h2) ok_X11_method lm_L_245 rfl rfl rfl (fun _ _ => rfl) (Nat.le_of_ble_eq_true rfl) ⟨rfl, rfl, Nat.le_of_ble_eq_true rfl, Nat.le_of_ble_eq_true rfl⟩ ⟨by omega, by omega⟩ dL_law_2158 (fun r3 ν4 => ?_)
  refine L_istore hX [(6, .int r3), (5, .int r1), (0, .ref b), (1, .ref (cx_ad X 0)), (2, .ref (aM 0)), (3, .ref (cx_ad X 90)), (4, .int i)] (by decide) rfl dL_law_2161 ?_
  refine L_aload_n hX 4 rfl rfl dL_law_2163 ?_
  refine L_cMi hX 11 (fun ad adK => []) [] (fun z2 h2 => cX11_thrown_ok (cx_l X) N ν4 z2 h2) ok_X11_thrown lm_L_150 rfl rfl rfl (fun _ _ => rfl) (Nat.le_of_ble_eq_true rfl) ⟨rfl, rfl, Nat.le_of_ble_eq_true rfl, Nat.le_of_ble_eq_true rfl⟩ ⟨by omega, by omega⟩ dL_law_2164 (fun r5 ν6 => ?_)
  refine L_iload hX 1 rfl dL_law_2167 ?_
  refine L_icmp_eq hX 2174 rfl dL_law_2169 ?_ ?_
  · skip
    refine L_iload hX 1 rfl dL_law_2174 ?_
    refine L_if_ne hX 2191 rfl dL_law_2176 ?_ ?_
    · skip
      refine L_goto hX 2715 rfl dL_law_2191 ?_
      exact L_end hC [2, 3, 4, 5, 6] rfl ⟨by omega, by omega⟩
    · skip
      refine L_aload_n hX 5 rfl rfl dL_law_2179 ?_
      refine L_iconst hX (0 : Int32) rfl dL_law_2180 ?_
      refine L_outn hX dL_law_2181 (fun y7 => ?_)
      refine L_iload hX 0 rfl dL_law_2182 ?_
      refine L_i2l hX dL_law_2184 ?_
      refine L_lcmp hX dL_law_2185 ?_
      refine L_if_eq hX 2191 rfl dL_law_2186 ?_ ?_
      · skip
        refine L_goto hX 2715 rfl dL_law_2191 ?_
        exact L_end hC [2, 3, 4, 5, 6] rfl ⟨by omega, by omega⟩
      · skip
        exact L_none
  · skip
    exact L_none
theorem walkC30 {X : Ctx} {aM : Nat → Nat} {b L : Nat} {xs : Nat → Int32} {z : Mem × Mem} (hX : FL X aM b L xs) {i : Int32} {v : Nat → Int32} (hv : VI L xs i v) (N : Nat) (μ ν : Mem) {k n : Nat} (hk : k + 8 ≤ room_1.cells) (hn : n + 48 ≤ room_1.slots) (hC : CL X aM z [(0, .ref b), (1, .ref (cx_ad X 0)), (2, .ref (aM 0)), (3, .ref (cx_ad X 90)), (4, .int i)] (k + 8) (n + 48)) : GL X aM z 2194 [(0, .ref b), (1, .ref (cx_ad X 0)), (2, .ref (aM 0)), (3, .ref (cx_ad X 90)), (4, .int i)] [] μ ν k n (lawC30 N v μ ν) := by
  unfold lawC30
  refine L_aload_n hX 1 rfl rfl dL_law_2194 ?_
  refine L_aload_n hX 0 rfl rfl dL_law_2195 ?_
  refine L_iload hX 4 rfl dL_law_2196 ?_
  refine L_iconst hX (1 : Int32) rfl dL_law_2198 ?_
  refine L_iadd hX dL_law_2199 ?_
  refine L_sv hX hv 1 (by decide) rfl dL_law_2200 ?_
  refine L_aload_n hX 3 rfl rfl dL_law_2201 ?_
  refine L_h hX (fun ad adK => [.ref (ad 0), .int (v 1), .ref (ad 90)]) [] (fun z2 h2 => cL_undertaking_ok (cx_l X) hX.2.2.2.2.2.2.2.2.2.2.2.2 N (v 1) μ z2 h2) okh_L_undertaking lm_L_246 rfl (fun _ _ => rfl) (Nat.le_of_ble_eq_true rfl) ⟨rfl, rfl, Nat.le_of_ble_eq_true rfl, Nat.le_of_ble_eq_true rfl⟩ ⟨by omega, by omega⟩ dL_law_2202 (fun r1 μ2 => ?_)
  refine L_istore hX [(5, .int r1), (0, .ref b), (1, .ref (cx_ad X 0)), (2, .ref (aM 0)), (3, .ref (cx_ad X 90)), (4, .int i)] (by decide) rfl dL_law_2205 ?_
  refine L_aload_n hX 3 rfl rfl dL_law_2207 ?_
  refine L_aload_n hX 1 rfl rfl dL_law_2208 ?_
  refine L_iload hX 5 rfl dL_law_2209 ?_
  refine L_iconst hX (1 : Int32) rfl dL_law_2211 ?_
  refine L_iadd hX dL_law_2212 ?_
  refine L_sv hX hv 1 (by decide) rfl dL_law_2213 ?_
  refine L_cMi hX 11 (fun ad adK => [.int (v 1)]) [] (fun z2 h2 => cX11_undertaking_ok (cx_l X) N (v 1) ν z2 h2) ok_X11_undertaking lm_L_248 rfl rfl rfl (fun _ _ => rfl) (Nat.le_of_ble_eq_true rfl) ⟨rfl, rfl, Nat.le_of_ble_eq_true rfl, Nat.le_of_ble_eq_true rfl⟩ ⟨by omega, by omega⟩ dL_law_2214 (fun r3 ν4 => ?_)
  refine L_istore hX [(6, .int r3), (5, .int r1), (0, .ref b), (1, .ref (cx_ad X 0)), (2, .ref (aM 0)), (3, .ref (cx_ad X 90)), (4, .int i)] (by decide) rfl dL_law_2217 ?_
  refine L_aload_n hX 4 rfl rfl dL_law_2219 ?_
  refine L_cMi hX 11 (fun ad adK => []) [] (fun z2 h2 => cX11_thrown_ok (cx_l X) N ν4 z2 h2) ok_X11_thrown lm_L_150 rfl rfl rfl (fun _ _ => rfl) (Nat.le_of_ble_eq_true rfl) ⟨rfl, rfl, Nat.le_of_ble_eq_true rfl, Nat.le_of_ble_eq_true rfl⟩ ⟨by omega, by omega⟩ dL_law_2220 (fun r5 ν6 => ?_)
  refine L_iload hX 1 rfl dL_law_2223 ?_
  refine L_icmp_eq hX 2230 rfl dL_law_2225 ?_ ?_
  · skip
    refine L_iload hX 1 rfl dL_law_2230 ?_
    refine L_if_ne hX 2247 rfl dL_law_2232 ?_ ?_
    · skip
      refine L_goto hX 2715 rfl dL_law_2247 ?_
      exact L_end hC [2, 3, 4, 5, 6] rfl ⟨by omega, by omega⟩
    · skip
      refine L_aload_n hX 5 rfl rfl dL_law_2235 ?_
      refine L_iconst hX (0 : Int32) rfl dL_law_2236 ?_
      refine L_outn hX dL_law_2237 (fun y7 => ?_)
      refine L_iload hX 0 rfl dL_law_2238 ?_
      refine L_i2l hX dL_law_2240 ?_
      refine L_lcmp hX dL_law_2241 ?_
      refine L_if_eq hX 2247 rfl dL_law_2242 ?_ ?_
      · skip
        refine L_goto hX 2715 rfl dL_law_2247 ?_
        exact L_end hC [2, 3, 4, 5, 6] rfl ⟨by omega, by omega⟩
      · skip
        exact L_none
  · skip
    exact L_none
theorem walkC31 {X : Ctx} {aM : Nat → Nat} {b L : Nat} {xs : Nat → Int32} {z : Mem × Mem} (hX : FL X aM b L xs) {i : Int32} {v : Nat → Int32} (hv : VI L xs i v) (N : Nat) (μ ν : Mem) {k n : Nat} (hk : k + 8 ≤ room_1.cells) (hn : n + 48 ≤ room_1.slots) (hC : CL X aM z [(0, .ref b), (1, .ref (cx_ad X 0)), (2, .ref (aM 0)), (3, .ref (cx_ad X 90)), (4, .int i)] (k + 8) (n + 48)) : GL X aM z 2250 [(0, .ref b), (1, .ref (cx_ad X 0)), (2, .ref (aM 0)), (3, .ref (cx_ad X 90)), (4, .int i)] [] μ ν k n (lawC31 N v μ ν) := by
  unfold lawC31
  refine L_aload_n hX 1 rfl rfl dL_law_2250 ?_
  refine L_aload_n hX 0 rfl rfl dL_law_2251 ?_
  refine L_iload hX 4 rfl dL_law_2252 ?_
  refine L_iconst hX (1 : Int32) rfl dL_law_2254 ?_
  refine L_iadd hX dL_law_2255 ?_
  refine L_sv hX hv 1 (by decide) rfl dL_law_2256 ?_
  refine L_aload_n hX 3 rfl rfl dL_law_2257 ?_
  refine L_h hX (fun ad adK => [.ref (ad 0), .int (v 1), .ref (ad 90)]) [] (fun z2 h2 => cL_picked_ok (cx_l X) hX.2.2.2.2.2.2.2.2.2.2.2.2 N (v 1) μ z2 h2) okh_L_picked lm_L_249 rfl (fun _ _ => rfl) (Nat.le_of_ble_eq_true rfl) ⟨rfl, rfl, Nat.le_of_ble_eq_true rfl, Nat.le_of_ble_eq_true rfl⟩ ⟨by omega, by omega⟩ dL_law_2258 (fun r1 μ2 => ?_)
  refine L_istore hX [(5, .int r1), (0, .ref b), (1, .ref (cx_ad X 0)), (2, .ref (aM 0)), (3, .ref (cx_ad X 90)), (4, .int i)] (by decide) rfl dL_law_2261 ?_
  refine L_aload_n hX 3 rfl rfl dL_law_2263 ?_
  refine L_aload_n hX 1 rfl rfl dL_law_2264 ?_
  refine L_iload hX 5 rfl dL_law_2265 ?_
  refine L_iconst hX (1 : Int32) rfl dL_law_2267 ?_
  refine L_iadd hX dL_law_2268 ?_
  refine L_sv hX hv 1 (by decide) rfl dL_law_2269 ?_
  refine L_cMi hX 11 (fun ad adK => [.int (v 1)]) [] (fun z2 h2 => cX11_picked_ok (cx_l X) N (v 1) ν z2 h2) ok_X11_picked lm_L_251 rfl rfl rfl (fun _ _ => rfl) (Nat.le_of_ble_eq_true rfl) ⟨rfl, rfl, Nat.le_of_ble_eq_true rfl, Nat.le_of_ble_eq_true rfl⟩ ⟨by omega, by omega⟩ dL_law_2270 (fun r3 ν4 => ?_)
  refine L_istore hX [(6, .int r3), (5, .int r1), (0, .ref b), (1, .ref (cx_ad X 0)), (2, .ref (aM 0)), (3, .ref (cx_ad X 90)), (4, .int i)] (by decide) rfl dL_law_2273 ?_
  refine L_aload_n hX 4 rfl rfl dL_law_2275 ?_
  refine L_cMi hX 11 (fun ad adK => []) [] (fun z2 h2 => cX11_thrown_ok (cx_l X) N ν4 z2 h2) ok_X11_thrown lm_L_150 rfl rfl rfl (fun _ _ => rfl) (Nat.le_of_ble_eq_true rfl) ⟨rfl, rfl, Nat.le_of_ble_eq_true rfl, Nat.le_of_ble_eq_true rfl⟩ ⟨by omega, by omega⟩ dL_law_2276 (fun r5 ν6 => ?_)
  refine L_iload hX 1 rfl dL_law_2279 ?_
  refine L_icmp_eq hX 2286 rfl dL_law_2281 ?_ ?_
  · skip
    refine L_iload hX 1 rfl dL_law_2286 ?_
    refine L_if_ne hX 2303 rfl dL_law_2288 ?_ ?_
    · skip
      refine L_goto hX 2715 rfl dL_law_2303 ?_
      exact L_end hC [2, 3, 4, 5, 6] rfl ⟨by omega, by omega⟩
    · skip
      refine L_aload_n hX 5 rfl rfl dL_law_2291 ?_
      refine L_iconst hX (0 : Int32) rfl dL_law_2292 ?_
      refine L_outn hX dL_law_2293 (fun y7 => ?_)
      refine L_iload hX 0 rfl dL_law_2294 ?_
      refine L_i2l hX dL_law_2296 ?_
      refine L_lcmp hX dL_law_2297 ?_
      refine L_if_eq hX 2303 rfl dL_law_2298 ?_ ?_
      · skip
        refine L_goto hX 2715 rfl dL_law_2303 ?_
        exact L_end hC [2, 3, 4, 5, 6] rfl ⟨by omega, by omega⟩
      · skip
        exact L_none
  · skip
    exact L_none
theorem walkC32 {X : Ctx} {aM : Nat → Nat} {b L : Nat} {xs : Nat → Int32} {z : Mem × Mem} (hX : FL X aM b L xs) {i : Int32} {v : Nat → Int32} (hv : VI L xs i v) (N : Nat) (μ ν : Mem) {k n : Nat} (hk : k + 8 ≤ room_1.cells) (hn : n + 48 ≤ room_1.slots) (hC : CL X aM z [(0, .ref b), (1, .ref (cx_ad X 0)), (2, .ref (aM 0)), (3, .ref (cx_ad X 90)), (4, .int i)] (k + 8) (n + 48)) : GL X aM z 2306 [(0, .ref b), (1, .ref (cx_ad X 0)), (2, .ref (aM 0)), (3, .ref (cx_ad X 90)), (4, .int i)] [] μ ν k n (lawC32 N v μ ν) := by
  unfold lawC32
  refine L_aload_n hX 1 rfl rfl dL_law_2306 ?_
  refine L_aload_n hX 0 rfl rfl dL_law_2307 ?_
  refine L_iload hX 4 rfl dL_law_2308 ?_
  refine L_iconst hX (1 : Int32) rfl dL_law_2310 ?_
  refine L_iadd hX dL_law_2311 ?_
  refine L_sv hX hv 1 (by decide) rfl dL_law_2312 ?_
  refine L_aload_n hX 0 rfl rfl dL_law_2313 ?_
  refine L_iload hX 4 rfl dL_law_2314 ?_
  refine L_iconst hX (2 : Int32) rfl dL_law_2316 ?_
  refine L_iadd hX dL_law_2317 ?_
  refine L_sv hX hv 2 (by decide) rfl dL_law_2318 ?_
  refine L_booln hX dL_law_2319 dL_law_2322 dL_law_2323 dL_law_2326 (fun x1 => ?_)
  refine L_aload_n hX 3 rfl rfl dL_law_2327 ?_
  refine L_h hX (fun ad adK => [.ref (ad 0), .int (v 1), .int x1, .ref (ad 90)]) [] (fun z2 h2 => cL_collected_ok (cx_l X) hX.2.2.2.2.2.2.2.2.2.2.2.2 N (v 1) x1 μ z2 h2) okh_L_collected lm_L_252 rfl (fun _ _ => rfl) (Nat.le_of_ble_eq_true rfl) ⟨rfl, rfl, Nat.le_of_ble_eq_true rfl, Nat.le_of_ble_eq_true rfl⟩ ⟨by omega, by omega⟩ dL_law_2328 (fun r2 μ3 => ?_)
  refine L_istore hX [(5, .int r2), (0, .ref b), (1, .ref (cx_ad X 0)), (2, .ref (aM 0)), (3, .ref (cx_ad X 90)), (4, .int i)] (by decide) rfl dL_law_2331 ?_
  refine L_aload_n hX 3 rfl rfl dL_law_2333 ?_
  refine L_aload_n hX 1 rfl rfl dL_law_2334 ?_
  refine L_iload hX 5 rfl dL_law_2335 ?_
  refine L_iconst hX (1 : Int32) rfl dL_law_2337 ?_
  refine L_iadd hX dL_law_2338 ?_
  refine L_sv hX hv 1 (by decide) rfl dL_law_2339 ?_
  refine L_aload_n hX 1 rfl rfl dL_law_2340 ?_
  refine L_iload hX 5 rfl dL_law_2341 ?_
  refine L_iconst hX (2 : Int32) rfl dL_law_2343 ?_
  refine L_iadd hX dL_law_2344 ?_
  refine L_sv hX hv 2 (by decide) rfl dL_law_2345 ?_
  refine L_booln hX dL_law_2346 dL_law_2349 dL_law_2350 dL_law_2353 (fun x4 => ?_)
  refine L_cMl hX 11 (fun ad adK => [.int (v 1), .int x4]) [] (fun z2 h2 => cX11_collected_ok (cx_l X) N (v 1) x4 ν z2 h2) ok_X11_collected lm_L_254 rfl rfl rfl (fun _ _ => rfl) (Nat.le_of_ble_eq_true rfl) ⟨rfl, rfl, Nat.le_of_ble_eq_true rfl, Nat.le_of_ble_eq_true rfl⟩ ⟨by omega, by omega⟩ dL_law_2354 (fun r5 ν6 => ?_)
  refine L_lstore hX [(6, .long r5), (5, .int r2), (0, .ref b), (1, .ref (cx_ad X 0)), (2, .ref (aM 0)), (3, .ref (cx_ad X 90)), (4, .int i)] (by decide) rfl dL_law_2357 ?_
  refine L_aload_n hX 4 rfl rfl dL_law_2359 ?_
  refine L_cMi hX 11 (fun ad adK => []) [] (fun z2 h2 => cX11_thrown_ok (cx_l X) N ν6 z2 h2) ok_X11_thrown lm_L_150 rfl rfl rfl (fun _ _ => rfl) (Nat.le_of_ble_eq_true rfl) ⟨rfl, rfl, Nat.le_of_ble_eq_true rfl, Nat.le_of_ble_eq_true rfl⟩ ⟨by omega, by omega⟩ dL_law_2360 (fun r7 ν8 => ?_)
  refine L_iload hX 1 rfl dL_law_2363 ?_
  refine L_icmp_eq hX 2370 rfl dL_law_2365 ?_ ?_
  · skip
    refine L_iload hX 1 rfl dL_law_2370 ?_
    refine L_if_ne hX 2386 rfl dL_law_2372 ?_ ?_
    · skip
      refine L_goto hX 2715 rfl dL_law_2386 ?_
      exact L_end hC [2, 3, 4, 5, 6] rfl ⟨by omega, by omega⟩
    · skip
      refine L_aload_n hX 5 rfl rfl dL_law_2375 ?_
      refine L_iconst hX (0 : Int32) rfl dL_law_2376 ?_
      refine L_outn hX dL_law_2377 (fun y9 => ?_)
      refine L_lload hX 0 rfl dL_law_2378 ?_
      refine L_lcmp hX dL_law_2380 ?_
      refine L_if_eq hX 2386 rfl dL_law_2381 ?_ ?_
      · skip
        refine L_goto hX 2715 rfl dL_law_2386 ?_
        exact L_end hC [2, 3, 4, 5, 6] rfl ⟨by omega, by omega⟩
      · skip
        exact L_none
  · skip
    exact L_none
theorem walkC33 {X : Ctx} {aM : Nat → Nat} {b L : Nat} {xs : Nat → Int32} {z : Mem × Mem} (hX : FL X aM b L xs) {i : Int32} {v : Nat → Int32} (hv : VI L xs i v) (N : Nat) (μ ν : Mem) {k n : Nat} (hk : k + 8 ≤ room_1.cells) (hn : n + 48 ≤ room_1.slots) (hC : CL X aM z [(0, .ref b), (1, .ref (cx_ad X 0)), (2, .ref (aM 0)), (3, .ref (cx_ad X 90)), (4, .int i)] (k + 8) (n + 48)) : GL X aM z 2389 [(0, .ref b), (1, .ref (cx_ad X 0)), (2, .ref (aM 0)), (3, .ref (cx_ad X 90)), (4, .int i)] [] μ ν k n (lawC33 N v μ ν) := by
  unfold lawC33
  refine L_aload_n hX 1 rfl rfl dL_law_2389 ?_
  refine L_aload_n hX 0 rfl rfl dL_law_2390 ?_
  refine L_iload hX 4 rfl dL_law_2391 ?_
  refine L_iconst hX (1 : Int32) rfl dL_law_2393 ?_
  refine L_iadd hX dL_law_2394 ?_
  refine L_sv hX hv 1 (by decide) rfl dL_law_2395 ?_
  refine L_aload_n hX 3 rfl rfl dL_law_2396 ?_
  refine L_h hX (fun ad adK => [.ref (ad 0), .int (v 1), .ref (ad 90)]) [] (fun z2 h2 => cL_back_ok (cx_l X) hX.2.2.2.2.2.2.2.2.2.2.2.2 N (v 1) μ z2 h2) okh_L_back lm_L_255 rfl (fun _ _ => rfl) (Nat.le_of_ble_eq_true rfl) ⟨rfl, rfl, Nat.le_of_ble_eq_true rfl, Nat.le_of_ble_eq_true rfl⟩ ⟨by omega, by omega⟩ dL_law_2397 (fun r1 μ2 => ?_)
  refine L_istore hX [(5, .int r1), (0, .ref b), (1, .ref (cx_ad X 0)), (2, .ref (aM 0)), (3, .ref (cx_ad X 90)), (4, .int i)] (by decide) rfl dL_law_2400 ?_
  refine L_aload_n hX 3 rfl rfl dL_law_2402 ?_
  refine L_aload_n hX 1 rfl rfl dL_law_2403 ?_
  refine L_iload hX 5 rfl dL_law_2404 ?_
  refine L_iconst hX (1 : Int32) rfl dL_law_2406 ?_
  refine L_iadd hX dL_law_2407 ?_
  refine L_sv hX hv 1 (by decide) rfl dL_law_2408 ?_
  refine L_cMl hX 11 (fun ad adK => [.int (v 1)]) [] (fun z2 h2 => cX11_back_ok (cx_l X) N (v 1) ν z2 h2) ok_X11_back lm_L_257 rfl rfl rfl (fun _ _ => rfl) (Nat.le_of_ble_eq_true rfl) ⟨rfl, rfl, Nat.le_of_ble_eq_true rfl, Nat.le_of_ble_eq_true rfl⟩ ⟨by omega, by omega⟩ dL_law_2409 (fun r3 ν4 => ?_)
  refine L_lstore hX [(6, .long r3), (5, .int r1), (0, .ref b), (1, .ref (cx_ad X 0)), (2, .ref (aM 0)), (3, .ref (cx_ad X 90)), (4, .int i)] (by decide) rfl dL_law_2412 ?_
  refine L_aload_n hX 4 rfl rfl dL_law_2414 ?_
  refine L_cMi hX 11 (fun ad adK => []) [] (fun z2 h2 => cX11_thrown_ok (cx_l X) N ν4 z2 h2) ok_X11_thrown lm_L_150 rfl rfl rfl (fun _ _ => rfl) (Nat.le_of_ble_eq_true rfl) ⟨rfl, rfl, Nat.le_of_ble_eq_true rfl, Nat.le_of_ble_eq_true rfl⟩ ⟨by omega, by omega⟩ dL_law_2415 (fun r5 ν6 => ?_)
  refine L_iload hX 1 rfl dL_law_2418 ?_
  refine L_icmp_eq hX 2425 rfl dL_law_2420 ?_ ?_
  · skip
    refine L_iload hX 1 rfl dL_law_2425 ?_
    refine L_if_ne hX 2441 rfl dL_law_2427 ?_ ?_
    · skip
      refine L_goto hX 2715 rfl dL_law_2441 ?_
      exact L_end hC [2, 3, 4, 5, 6] rfl ⟨by omega, by omega⟩
    · skip
      refine L_aload_n hX 5 rfl rfl dL_law_2430 ?_
      refine L_iconst hX (0 : Int32) rfl dL_law_2431 ?_
      refine L_outn hX dL_law_2432 (fun y7 => ?_)
      refine L_lload hX 0 rfl dL_law_2433 ?_
      refine L_lcmp hX dL_law_2435 ?_
      refine L_if_eq hX 2441 rfl dL_law_2436 ?_ ?_
      · skip
        refine L_goto hX 2715 rfl dL_law_2441 ?_
        exact L_end hC [2, 3, 4, 5, 6] rfl ⟨by omega, by omega⟩
      · skip
        exact L_none
  · skip
    exact L_none
theorem walkC34 {X : Ctx} {aM : Nat → Nat} {b L : Nat} {xs : Nat → Int32} {z : Mem × Mem} (hX : FL X aM b L xs) {i : Int32} {v : Nat → Int32} (hv : VI L xs i v) (N : Nat) (μ ν : Mem) {k n : Nat} (hk : k + 8 ≤ room_1.cells) (hn : n + 48 ≤ room_1.slots) (hC : CL X aM z [(0, .ref b), (1, .ref (cx_ad X 0)), (2, .ref (aM 0)), (3, .ref (cx_ad X 90)), (4, .int i)] (k + 8) (n + 48)) : GL X aM z 2444 [(0, .ref b), (1, .ref (cx_ad X 0)), (2, .ref (aM 0)), (3, .ref (cx_ad X 90)), (4, .int i)] [] μ ν k n (lawC34 N v μ ν) := by
  unfold lawC34
  refine L_aload_n hX 1 rfl rfl dL_law_2444 ?_
  refine L_aload_n hX 0 rfl rfl dL_law_2445 ?_
  refine L_iload hX 4 rfl dL_law_2446 ?_
  refine L_iconst hX (1 : Int32) rfl dL_law_2448 ?_
  refine L_iadd hX dL_law_2449 ?_
  refine L_sv hX hv 1 (by decide) rfl dL_law_2450 ?_
  refine L_aload_n hX 3 rfl rfl dL_law_2451 ?_
  refine L_h hX (fun ad adK => [.ref (ad 0), .int (v 1), .ref (ad 90)]) [] (fun z2 h2 => cL_weight_ok (cx_l X) hX.2.2.2.2.2.2.2.2.2.2.2.2 N (v 1) μ z2 h2) okh_L_weight lm_L_258 rfl (fun _ _ => rfl) (Nat.le_of_ble_eq_true rfl) ⟨rfl, rfl, Nat.le_of_ble_eq_true rfl, Nat.le_of_ble_eq_true rfl⟩ ⟨by omega, by omega⟩ dL_law_2452 (fun r1 μ2 => ?_)
  refine L_istore hX [(5, .int r1), (0, .ref b), (1, .ref (cx_ad X 0)), (2, .ref (aM 0)), (3, .ref (cx_ad X 90)), (4, .int i)] (by decide) rfl dL_law_2455 ?_
  refine L_aload_n hX 3 rfl rfl dL_law_2457 ?_
  refine L_aload_n hX 1 rfl rfl dL_law_2458 ?_
  refine L_iload hX 5 rfl dL_law_2459 ?_
  refine L_iconst hX (1 : Int32) rfl dL_law_2461 ?_
  refine L_iadd hX dL_law_2462 ?_
  refine L_sv hX hv 1 (by decide) rfl dL_law_2463 ?_
  refine L_cMi hX 11 (fun ad adK => [.int (v 1)]) [] (fun z2 h2 => cX11_weight_ok (cx_l X) N (v 1) ν z2 h2) ok_X11_weight lm_L_260 rfl rfl rfl (fun _ _ => rfl) (Nat.le_of_ble_eq_true rfl) ⟨rfl, rfl, Nat.le_of_ble_eq_true rfl, Nat.le_of_ble_eq_true rfl⟩ ⟨by omega, by omega⟩ dL_law_2464 (fun r3 ν4 => ?_)
  refine L_istore hX [(6, .int r3), (5, .int r1), (0, .ref b), (1, .ref (cx_ad X 0)), (2, .ref (aM 0)), (3, .ref (cx_ad X 90)), (4, .int i)] (by decide) rfl dL_law_2467 ?_
  refine L_aload_n hX 4 rfl rfl dL_law_2469 ?_
  refine L_cMi hX 11 (fun ad adK => []) [] (fun z2 h2 => cX11_thrown_ok (cx_l X) N ν4 z2 h2) ok_X11_thrown lm_L_150 rfl rfl rfl (fun _ _ => rfl) (Nat.le_of_ble_eq_true rfl) ⟨rfl, rfl, Nat.le_of_ble_eq_true rfl, Nat.le_of_ble_eq_true rfl⟩ ⟨by omega, by omega⟩ dL_law_2470 (fun r5 ν6 => ?_)
  refine L_iload hX 1 rfl dL_law_2473 ?_
  refine L_icmp_eq hX 2480 rfl dL_law_2475 ?_ ?_
  · skip
    refine L_iload hX 1 rfl dL_law_2480 ?_
    refine L_if_ne hX 2497 rfl dL_law_2482 ?_ ?_
    · skip
      refine L_goto hX 2715 rfl dL_law_2497 ?_
      exact L_end hC [2, 3, 4, 5, 6] rfl ⟨by omega, by omega⟩
    · skip
      refine L_aload_n hX 5 rfl rfl dL_law_2485 ?_
      refine L_iconst hX (0 : Int32) rfl dL_law_2486 ?_
      refine L_outn hX dL_law_2487 (fun y7 => ?_)
      refine L_iload hX 0 rfl dL_law_2488 ?_
      refine L_i2l hX dL_law_2490 ?_
      refine L_lcmp hX dL_law_2491 ?_
      refine L_if_eq hX 2497 rfl dL_law_2492 ?_ ?_
      · skip
        refine L_goto hX 2715 rfl dL_law_2497 ?_
        exact L_end hC [2, 3, 4, 5, 6] rfl ⟨by omega, by omega⟩
      · skip
        exact L_none
  · skip
    exact L_none
theorem walkC35 {X : Ctx} {aM : Nat → Nat} {b L : Nat} {xs : Nat → Int32} {z : Mem × Mem} (hX : FL X aM b L xs) {i : Int32} {v : Nat → Int32} (hv : VI L xs i v) (N : Nat) (μ ν : Mem) {k n : Nat} (hk : k + 8 ≤ room_1.cells) (hn : n + 48 ≤ room_1.slots) (hC : CL X aM z [(0, .ref b), (1, .ref (cx_ad X 0)), (2, .ref (aM 0)), (3, .ref (cx_ad X 90)), (4, .int i)] (k + 8) (n + 48)) : GL X aM z 2500 [(0, .ref b), (1, .ref (cx_ad X 0)), (2, .ref (aM 0)), (3, .ref (cx_ad X 90)), (4, .int i)] [] μ ν k n (lawC35 N v μ ν) := by
  unfold lawC35
  refine L_aload_n hX 1 rfl rfl dL_law_2500 ?_
  refine L_aload_n hX 0 rfl rfl dL_law_2501 ?_
  refine L_iload hX 4 rfl dL_law_2502 ?_
  refine L_iconst hX (1 : Int32) rfl dL_law_2504 ?_
  refine L_iadd hX dL_law_2505 ?_
  refine L_sv hX hv 1 (by decide) rfl dL_law_2506 ?_
  refine L_aload_n hX 0 rfl rfl dL_law_2507 ?_
  refine L_iload hX 4 rfl dL_law_2508 ?_
  refine L_iconst hX (2 : Int32) rfl dL_law_2510 ?_
  refine L_iadd hX dL_law_2511 ?_
  refine L_sv hX hv 2 (by decide) rfl dL_law_2512 ?_
  refine L_booln hX dL_law_2513 dL_law_2516 dL_law_2517 dL_law_2520 (fun x1 => ?_)
  refine L_aload_n hX 3 rfl rfl dL_law_2521 ?_
  refine L_h hX (fun ad adK => [.ref (ad 0), .int (v 1), .int x1, .ref (ad 90)]) [] (fun z2 h2 => cL_heaviest_ok (cx_l X) hX.2.2.2.2.2.2.2.2.2.2.2.2 N (v 1) x1 μ z2 h2) okh_L_heaviest lm_L_261 rfl (fun _ _ => rfl) (Nat.le_of_ble_eq_true rfl) ⟨rfl, rfl, Nat.le_of_ble_eq_true rfl, Nat.le_of_ble_eq_true rfl⟩ ⟨by omega, by omega⟩ dL_law_2522 (fun r2 μ3 => ?_)
  refine L_istore hX [(5, .int r2), (0, .ref b), (1, .ref (cx_ad X 0)), (2, .ref (aM 0)), (3, .ref (cx_ad X 90)), (4, .int i)] (by decide) rfl dL_law_2525 ?_
  refine L_aload_n hX 3 rfl rfl dL_law_2527 ?_
  refine L_aload_n hX 1 rfl rfl dL_law_2528 ?_
  refine L_iload hX 5 rfl dL_law_2529 ?_
  refine L_iconst hX (1 : Int32) rfl dL_law_2531 ?_
  refine L_iadd hX dL_law_2532 ?_
  refine L_sv hX hv 1 (by decide) rfl dL_law_2533 ?_
  refine L_aload_n hX 1 rfl rfl dL_law_2534 ?_
  refine L_iload hX 5 rfl dL_law_2535 ?_
  refine L_iconst hX (2 : Int32) rfl dL_law_2537 ?_
  refine L_iadd hX dL_law_2538 ?_
  refine L_sv hX hv 2 (by decide) rfl dL_law_2539 ?_
  refine L_booln hX dL_law_2540 dL_law_2543 dL_law_2544 dL_law_2547 (fun x4 => ?_)
  refine L_cMi hX 11 (fun ad adK => [.int (v 1), .int x4]) [] (fun z2 h2 => cX11_heaviest_ok (cx_l X) N (v 1) x4 ν z2 h2) ok_X11_heaviest lm_L_263 rfl rfl rfl (fun _ _ => rfl) (Nat.le_of_ble_eq_true rfl) ⟨rfl, rfl, Nat.le_of_ble_eq_true rfl, Nat.le_of_ble_eq_true rfl⟩ ⟨by omega, by omega⟩ dL_law_2548 (fun r5 ν6 => ?_)
  refine L_istore hX [(6, .int r5), (5, .int r2), (0, .ref b), (1, .ref (cx_ad X 0)), (2, .ref (aM 0)), (3, .ref (cx_ad X 90)), (4, .int i)] (by decide) rfl dL_law_2551 ?_
  refine L_aload_n hX 4 rfl rfl dL_law_2553 ?_
  refine L_cMi hX 11 (fun ad adK => []) [] (fun z2 h2 => cX11_thrown_ok (cx_l X) N ν6 z2 h2) ok_X11_thrown lm_L_150 rfl rfl rfl (fun _ _ => rfl) (Nat.le_of_ble_eq_true rfl) ⟨rfl, rfl, Nat.le_of_ble_eq_true rfl, Nat.le_of_ble_eq_true rfl⟩ ⟨by omega, by omega⟩ dL_law_2554 (fun r7 ν8 => ?_)
  refine L_iload hX 1 rfl dL_law_2557 ?_
  refine L_icmp_eq hX 2564 rfl dL_law_2559 ?_ ?_
  · skip
    refine L_iload hX 1 rfl dL_law_2564 ?_
    refine L_if_ne hX 2581 rfl dL_law_2566 ?_ ?_
    · skip
      refine L_goto hX 2715 rfl dL_law_2581 ?_
      exact L_end hC [2, 3, 4, 5, 6] rfl ⟨by omega, by omega⟩
    · skip
      refine L_aload_n hX 5 rfl rfl dL_law_2569 ?_
      refine L_iconst hX (0 : Int32) rfl dL_law_2570 ?_
      refine L_outn hX dL_law_2571 (fun y9 => ?_)
      refine L_iload hX 0 rfl dL_law_2572 ?_
      refine L_i2l hX dL_law_2574 ?_
      refine L_lcmp hX dL_law_2575 ?_
      refine L_if_eq hX 2581 rfl dL_law_2576 ?_ ?_
      · skip
        refine L_goto hX 2715 rfl dL_law_2581 ?_
        exact L_end hC [2, 3, 4, 5, 6] rfl ⟨by omega, by omega⟩
      · skip
        exact L_none
  · skip
    exact L_none
theorem walkC36 {X : Ctx} {aM : Nat → Nat} {b L : Nat} {xs : Nat → Int32} {z : Mem × Mem} (hX : FL X aM b L xs) {i : Int32} {v : Nat → Int32} (hv : VI L xs i v) (N : Nat) (μ ν : Mem) {k n : Nat} (hk : k + 8 ≤ room_1.cells) (hn : n + 48 ≤ room_1.slots) (hC : CL X aM z [(0, .ref b), (1, .ref (cx_ad X 0)), (2, .ref (aM 0)), (3, .ref (cx_ad X 90)), (4, .int i)] (k + 8) (n + 48)) : GL X aM z 2584 [(0, .ref b), (1, .ref (cx_ad X 0)), (2, .ref (aM 0)), (3, .ref (cx_ad X 90)), (4, .int i)] [] μ ν k n (lawC36 N v μ ν) := by
  unfold lawC36
  refine L_aload_n hX 1 rfl rfl dL_law_2584 ?_
  refine L_aload_n hX 0 rfl rfl dL_law_2585 ?_
  refine L_iload hX 4 rfl dL_law_2586 ?_
  refine L_iconst hX (1 : Int32) rfl dL_law_2588 ?_
  refine L_iadd hX dL_law_2589 ?_
  refine L_sv hX hv 1 (by decide) rfl dL_law_2590 ?_
  refine L_cCi hX 10 (fun ad adK => [.int (v 1)]) [] (fun z2 h2 => cX10_ranked_ok (cx_l X) N (v 1) μ z2 h2) ok_X10_ranked lm_L_264 rfl rfl rfl (fun _ _ => rfl) (Nat.le_of_ble_eq_true rfl) ⟨rfl, rfl, Nat.le_of_ble_eq_true rfl, Nat.le_of_ble_eq_true rfl⟩ ⟨by omega, by omega⟩ dL_law_2591 (fun r1 μ2 => ?_)
  refine L_aload_n hX 2 rfl rfl dL_law_2594 ?_
  refine L_aload_n hX 0 rfl rfl dL_law_2595 ?_
  refine L_iload hX 4 rfl dL_law_2596 ?_
  refine L_iconst hX (1 : Int32) rfl dL_law_2598 ?_
  refine L_iadd hX dL_law_2599 ?_
  refine L_sv hX hv 1 (by decide) rfl dL_law_2600 ?_
  refine L_cMi hX 11 (fun ad adK => [.int (v 1)]) [.int r1] (fun z2 h2 => cX11_ranked_ok (cx_l X) N (v 1) ν z2 h2) ok_X11_ranked lm_L_267 rfl rfl rfl (fun _ _ => rfl) (Nat.le_of_ble_eq_true rfl) ⟨rfl, rfl, Nat.le_of_ble_eq_true rfl, Nat.le_of_ble_eq_true rfl⟩ ⟨by omega, by omega⟩ dL_law_2601 (fun r3 ν4 => ?_)
  refine L_icmp_eq hX 2715 rfl dL_law_2604 ?_ ?_
  · skip
    exact L_end hC [0, 1, 2, 3, 4] rfl ⟨by omega, by omega⟩
  · skip
    exact L_none
theorem walkC37 {X : Ctx} {aM : Nat → Nat} {b L : Nat} {xs : Nat → Int32} {z : Mem × Mem} (hX : FL X aM b L xs) {i : Int32} {v : Nat → Int32} (hv : VI L xs i v) (N : Nat) (μ ν : Mem) {k n : Nat} (hk : k + 8 ≤ room_1.cells) (hn : n + 48 ≤ room_1.slots) (hC : CL X aM z [(0, .ref b), (1, .ref (cx_ad X 0)), (2, .ref (aM 0)), (3, .ref (cx_ad X 90)), (4, .int i)] (k + 8) (n + 48)) : GL X aM z 2609 [(0, .ref b), (1, .ref (cx_ad X 0)), (2, .ref (aM 0)), (3, .ref (cx_ad X 90)), (4, .int i)] [] μ ν k n (lawC37 N v μ ν) := by
  unfold lawC37
  refine L_aload_n hX 1 rfl rfl dL_law_2609 ?_
  refine L_aload_n hX 0 rfl rfl dL_law_2610 ?_
  refine L_iload hX 4 rfl dL_law_2611 ?_
  refine L_iconst hX (1 : Int32) rfl dL_law_2613 ?_
  refine L_iadd hX dL_law_2614 ?_
  refine L_sv hX hv 1 (by decide) rfl dL_law_2615 ?_
  refine L_aload_n hX 3 rfl rfl dL_law_2616 ?_
  refine L_h hX (fun ad adK => [.ref (ad 0), .int (v 1), .ref (ad 90)]) [] (fun z2 h2 => cL_write_ok (cx_l X) hX.2.2.2.2.2.2.2.2.2.2.2.2 N (v 1) μ z2 h2) okh_L_write lm_L_268 rfl (fun _ _ => rfl) (Nat.le_of_ble_eq_true rfl) ⟨rfl, rfl, Nat.le_of_ble_eq_true rfl, Nat.le_of_ble_eq_true rfl⟩ ⟨by omega, by omega⟩ dL_law_2617 (fun r1 μ2 => ?_)
  refine L_istore hX [(5, .int r1), (0, .ref b), (1, .ref (cx_ad X 0)), (2, .ref (aM 0)), (3, .ref (cx_ad X 90)), (4, .int i)] (by decide) rfl dL_law_2620 ?_
  refine L_aload_n hX 3 rfl rfl dL_law_2622 ?_
  refine L_aload_n hX 1 rfl rfl dL_law_2623 ?_
  refine L_iload hX 5 rfl dL_law_2624 ?_
  refine L_iconst hX (1 : Int32) rfl dL_law_2626 ?_
  refine L_iadd hX dL_law_2627 ?_
  refine L_sv hX hv 1 (by decide) rfl dL_law_2628 ?_
  refine L_cMi hX 11 (fun ad adK => [.int (v 1)]) [] (fun z2 h2 => cX11_write_ok (cx_l X) N (v 1) ν z2 h2) ok_X11_write lm_L_270 rfl rfl rfl (fun _ _ => rfl) (Nat.le_of_ble_eq_true rfl) ⟨rfl, rfl, Nat.le_of_ble_eq_true rfl, Nat.le_of_ble_eq_true rfl⟩ ⟨by omega, by omega⟩ dL_law_2629 (fun r3 ν4 => ?_)
  refine L_istore hX [(6, .int r3), (5, .int r1), (0, .ref b), (1, .ref (cx_ad X 0)), (2, .ref (aM 0)), (3, .ref (cx_ad X 90)), (4, .int i)] (by decide) rfl dL_law_2632 ?_
  refine L_aload_n hX 4 rfl rfl dL_law_2634 ?_
  refine L_cMi hX 11 (fun ad adK => []) [] (fun z2 h2 => cX11_thrown_ok (cx_l X) N ν4 z2 h2) ok_X11_thrown lm_L_150 rfl rfl rfl (fun _ _ => rfl) (Nat.le_of_ble_eq_true rfl) ⟨rfl, rfl, Nat.le_of_ble_eq_true rfl, Nat.le_of_ble_eq_true rfl⟩ ⟨by omega, by omega⟩ dL_law_2635 (fun r5 ν6 => ?_)
  refine L_iload hX 1 rfl dL_law_2638 ?_
  refine L_icmp_eq hX 2645 rfl dL_law_2640 ?_ ?_
  · skip
    refine L_iload hX 1 rfl dL_law_2645 ?_
    refine L_if_ne hX 2662 rfl dL_law_2647 ?_ ?_
    · skip
      refine L_goto hX 2715 rfl dL_law_2662 ?_
      exact L_end hC [2, 3, 4, 5, 6] rfl ⟨by omega, by omega⟩
    · skip
      refine L_aload_n hX 5 rfl rfl dL_law_2650 ?_
      refine L_iconst hX (0 : Int32) rfl dL_law_2651 ?_
      refine L_outn hX dL_law_2652 (fun y7 => ?_)
      refine L_iload hX 0 rfl dL_law_2653 ?_
      refine L_i2l hX dL_law_2655 ?_
      refine L_lcmp hX dL_law_2656 ?_
      refine L_if_eq hX 2662 rfl dL_law_2657 ?_ ?_
      · skip
        refine L_goto hX 2715 rfl dL_law_2662 ?_
        exact L_end hC [2, 3, 4, 5, 6] rfl ⟨by omega, by omega⟩
      · skip
        exact L_none
  · skip
    exact L_none
theorem walkC38 {X : Ctx} {aM : Nat → Nat} {b L : Nat} {xs : Nat → Int32} {z : Mem × Mem} (hX : FL X aM b L xs) {i : Int32} {v : Nat → Int32} (hv : VI L xs i v) (N : Nat) (μ ν : Mem) {k n : Nat} (hk : k + 8 ≤ room_1.cells) (hn : n + 48 ≤ room_1.slots) (hC : CL X aM z [(0, .ref b), (1, .ref (cx_ad X 0)), (2, .ref (aM 0)), (3, .ref (cx_ad X 90)), (4, .int i)] (k + 8) (n + 48)) : GL X aM z 2665 [(0, .ref b), (1, .ref (cx_ad X 0)), (2, .ref (aM 0)), (3, .ref (cx_ad X 90)), (4, .int i)] [] μ ν k n (lawC38 N v μ ν) := by
  unfold lawC38
  refine L_aload_n hX 1 rfl rfl dL_law_2665 ?_
  refine L_aload_n hX 0 rfl rfl dL_law_2666 ?_
  refine L_iload hX 4 rfl dL_law_2667 ?_
  refine L_iconst hX (1 : Int32) rfl dL_law_2669 ?_
  refine L_iadd hX dL_law_2670 ?_
  refine L_sv hX hv 1 (by decide) rfl dL_law_2671 ?_
  refine L_cCi hX 10 (fun ad adK => [.int (v 1)]) [] (fun z2 h2 => cX10_octet_ok (cx_l X) N (v 1) μ z2 h2) ok_X10_octet lm_L_271 rfl rfl rfl (fun _ _ => rfl) (Nat.le_of_ble_eq_true rfl) ⟨rfl, rfl, Nat.le_of_ble_eq_true rfl, Nat.le_of_ble_eq_true rfl⟩ ⟨by omega, by omega⟩ dL_law_2672 (fun r1 μ2 => ?_)
  refine L_aload_n hX 2 rfl rfl dL_law_2675 ?_
  refine L_aload_n hX 0 rfl rfl dL_law_2676 ?_
  refine L_iload hX 4 rfl dL_law_2677 ?_
  refine L_iconst hX (1 : Int32) rfl dL_law_2679 ?_
  refine L_iadd hX dL_law_2680 ?_
  refine L_sv hX hv 1 (by decide) rfl dL_law_2681 ?_
  refine L_cMi hX 11 (fun ad adK => [.int (v 1)]) [.int r1] (fun z2 h2 => cX11_octet_ok (cx_l X) N (v 1) ν z2 h2) ok_X11_octet lm_L_274 rfl rfl rfl (fun _ _ => rfl) (Nat.le_of_ble_eq_true rfl) ⟨rfl, rfl, Nat.le_of_ble_eq_true rfl, Nat.le_of_ble_eq_true rfl⟩ ⟨by omega, by omega⟩ dL_law_2682 (fun r3 ν4 => ?_)
  refine L_icmp_eq hX 2715 rfl dL_law_2685 ?_ ?_
  · skip
    exact L_end hC [0, 1, 2, 3, 4] rfl ⟨by omega, by omega⟩
  · skip
    exact L_none
theorem walkC39 {X : Ctx} {aM : Nat → Nat} {b L : Nat} {xs : Nat → Int32} {z : Mem × Mem} (hX : FL X aM b L xs) {i : Int32} {v : Nat → Int32} (hv : VI L xs i v) (N : Nat) (μ ν : Mem) {k n : Nat} (hk : k + 8 ≤ room_1.cells) (hn : n + 48 ≤ room_1.slots) (hC : CL X aM z [(0, .ref b), (1, .ref (cx_ad X 0)), (2, .ref (aM 0)), (3, .ref (cx_ad X 90)), (4, .int i)] (k + 8) (n + 48)) : GL X aM z 2690 [(0, .ref b), (1, .ref (cx_ad X 0)), (2, .ref (aM 0)), (3, .ref (cx_ad X 90)), (4, .int i)] [] μ ν k n (lawC39 N v μ ν) := by
  unfold lawC39
  refine L_aload_n hX 1 rfl rfl dL_law_2690 ?_
  refine L_aload_n hX 0 rfl rfl dL_law_2691 ?_
  refine L_iload hX 4 rfl dL_law_2692 ?_
  refine L_iconst hX (1 : Int32) rfl dL_law_2694 ?_
  refine L_iadd hX dL_law_2695 ?_
  refine L_sv hX hv 1 (by decide) rfl dL_law_2696 ?_
  refine L_cCi hX 10 (fun ad adK => [.int (v 1)]) [] (fun z2 h2 => cX10_count_ok (cx_l X) N (v 1) μ z2 h2) ok_X10_count lm_L_275 rfl rfl rfl (fun _ _ => rfl) (Nat.le_of_ble_eq_true rfl) ⟨rfl, rfl, Nat.le_of_ble_eq_true rfl, Nat.le_of_ble_eq_true rfl⟩ ⟨by omega, by omega⟩ dL_law_2697 (fun r1 μ2 => ?_)
  refine L_aload_n hX 2 rfl rfl dL_law_2700 ?_
  refine L_aload_n hX 0 rfl rfl dL_law_2701 ?_
  refine L_iload hX 4 rfl dL_law_2702 ?_
  refine L_iconst hX (1 : Int32) rfl dL_law_2704 ?_
  refine L_iadd hX dL_law_2705 ?_
  refine L_sv hX hv 1 (by decide) rfl dL_law_2706 ?_
  refine L_cMi hX 11 (fun ad adK => [.int (v 1)]) [.int r1] (fun z2 h2 => cX11_count_ok (cx_l X) N (v 1) ν z2 h2) ok_X11_count lm_L_278 rfl rfl rfl (fun _ _ => rfl) (Nat.le_of_ble_eq_true rfl) ⟨rfl, rfl, Nat.le_of_ble_eq_true rfl, Nat.le_of_ble_eq_true rfl⟩ ⟨by omega, by omega⟩ dL_law_2707 (fun r3 ν4 => ?_)
  refine L_icmp_eq hX 2715 rfl dL_law_2710 ?_ ?_
  · skip
    exact L_end hC [0, 1, 2, 3, 4] rfl ⟨by omega, by omega⟩
  · skip
    exact L_none
