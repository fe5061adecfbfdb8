/-! Comparison.gather. -/
theorem atL_S {μ : Mem} {c j : Nat} {v : Int64} : (stL μ c j v).2.1 c j = v := by rw [st_L, if_pos ⟨rfl, rfl⟩]
theorem atL_N {μ : Mem} {c j i : Nat} {v : Int64} (h : i ≠ j) : (stL μ c j v).2.1 c i = μ.2.1 c i := by rw [st_L, if_neg (fun q => h q.2)]
theorem ixs_none {u : Int → Int} {y : Int} : ∀ (d : Nat) (k : Int), (∀ j, k ≤ j → j < k + d → u j ≠ y) → ixs u y d k = k + d := by
  intro d
  induction d with
  | zero => intro k _; simp [ixs]
  | succ d ih =>
    intro k h
    unfold ixs
    rw [if_neg (h k (by omega) (by omega)), ih (k + 1) (fun j a c => h j (by omega) (by omega))]
    omega
def P_ga (k _ : Nat) : Prop := k = 4 ∨ (19 ≤ k ∧ k ≤ 22)
theorem P_ga_ge (k j : Nat) (h : 32 ≤ k) : ¬ P_ga k j := by unfold P_ga; omega
section
variable {N : Nat} {b : Nat} {V : Vw} {f t : Int}
theorem ST.ga {μ μ' : Mem} (h : ST b V f μ) (g : Fr P_ga μ μ') : ST b V f μ' := by
  obtain ⟨h1, h2, ⟨h3, h4⟩, h5, h6, h7⟩ := h
  refine ⟨h1.F g (by unfold P_ga; omega) (by unfold P_ga; omega), ?_, ⟨fun m a c => ?_, fun m a c => ?_⟩, fun m a c => ?_, fun m l a c d e => ?_, fun z a c => ?_⟩
  · rw [(g 3 4 (by unfold P_ga; omega)).1]; exact h2
  · rw [(g 11 _ (by unfold P_ga; omega)).1, (g 12 _ (by unfold P_ga; omega)).1]; exact h3 m a c
  · rw [(g 13 _ (by unfold P_ga; omega)).1]; exact h4 m a c
  · rw [(g 15 _ (by unfold P_ga; omega)).1]; exact h5 m a c
  · rw [(g 16 _ (by unfold P_ga; omega)).1, (g 17 _ (by unfold P_ga; omega)).2.1]; exact h6 m l a c d e
  · rw [(g 14 _ (by unfold P_ga; omega)).1]; exact h7 z a c
theorem c_ul_l (hV : vB V) {μ : Mem} (hB : CB b V μ) {c : Int} {u : Int → Int} (c0 : 0 ≤ c) (c1 : c ≤ 40) (h5 : μ.1 4 5 = I_ c) (h19 : ∀ k, 0 ≤ k → k < c → μ.1 19 k.toNat = I_ (u k) ∧ 0 ≤ u k ∧ u k < sN V) {z : Int} (z0 : 0 ≤ z) (z1 : z < sN V) : ∀ (d n : Nat) (k : Int), d < n → 0 ≤ k → k + d = c → fX2_unitLike_8 N n b (I_ z) (I_ k) μ = some (I_ (ixs (fun k => ky V 0 (u k)) (ky V 0 z) d k), μ) := by
  have hn := hV.1
  unfold vN at hn
  have hS := hB.2.1
  have hv := hV.2.1 z z0 z1
  unfold vS at hv
  have hmz := mtc_in hV z0 z1
  intro d
  induction d with
  | zero =>
    intro n k h1 h2 h3
    obtain ⟨n, rfl⟩ : ∃ m, n = m + 1 := ⟨n - 1, by omega⟩
    have hle : c ≤ k := by omega
    have hk : k = c := by omega
    subst hk
    simp (disch := omega) only [fX2_unitLike_8, Int.reduceEq, Int.reduceNe, Int.reduceLT, Int.reduceLE, Int.reduceAdd, Int.reduceSub, Int.reduceMul, Int.reduceNeg, Int.zero_add, Int.add_zero, nm_eq, bd_some, bv_some, aI_ok, aL_ok, aS_ok, dv_ok, dw_ok, I_add, I_sub, I_mul, I_neg, I_lt, I_le, I_eq, I_nat, J_add, J_sub, J_mul, J_neg, J_lt, J_le, J_eq, I_l, J_i, I_div, J_div, b2_0, b2_1, b2_nar, nar_0, nar_1, zr_0, zr_1, zr_b2, cmp_eq, cmp_le, cmp_lt, cmp_gt, cmp_ge, mx_I, mn_I, mx_L, mn_L, az_I, if_true, if_false, not_true_eq_false, not_false_eq_true, i_0, i_1, i_2, i_3, i_4, i_5, i_6, i_7, i_8, i_9, i_10, i_11, i_12, i_16, i_18, i_20, i_24, i_28, i_29, i_30, i_31, i_32, i_33, i_34, i_35, i_37, i_40, i_41, i_42, i_43, i_45, i_46, i_47, i_48, i_57, i_59, i_63, i_64, i_96, i_97, i_98, i_99, i_100, i_101, i_102, i_103, i_104, i_105, i_106, i_107, i_108, i_109, i_110, i_111, i_112, i_113, i_122, i_200, i_255, i_256, i_257, i_258, i_355, i_400, i_999, i_1000, i_1200, i_5680, i_9999, i_10000, i_99999, j_0, j_1, j_2, j_3, j_4, j_5, j_6, j_9, j_10, j_11, j_98, j_99, j_100, j_999, j_1000, j_9999, j_10000, j_99999, j_1000000, h5, hle, ixs]
  | succ d ih =>
    intro n k h1 h2 h3
    obtain ⟨n, rfl⟩ : ∃ m, n = m + 1 := ⟨n - 1, by omega⟩
    have hle : ¬ c ≤ k := by omega
    obtain ⟨r19, u0, u1⟩ := h19 k h2 (by omega)
    have hw := hV.2.1 (u k) u0 u1
    unfold vS at hw
    have hmu := mtc_in hV u0 u1
    have hq := ky_eq hV u0 u1 z0 z1
    by_cases ha : s_md V (u k) = s_md V z
    · by_cases hl : s_lv V (u k) = s_lv V z
      · by_cases hm : mtc V (u k) = mtc V z
        · have e : ky V 0 (u k) = ky V 0 z := hq.mpr ⟨ha, hl, hm⟩
          simp (disch := omega) only [fX2_unitLike_8, Int.reduceEq, Int.reduceNe, Int.reduceLT, Int.reduceLE, Int.reduceAdd, Int.reduceSub, Int.reduceMul, Int.reduceNeg, Int.zero_add, Int.add_zero, nm_eq, bd_some, bv_some, aI_ok, aL_ok, aS_ok, dv_ok, dw_ok, I_add, I_sub, I_mul, I_neg, I_lt, I_le, I_eq, I_nat, J_add, J_sub, J_mul, J_neg, J_lt, J_le, J_eq, I_l, J_i, I_div, J_div, b2_0, b2_1, b2_nar, nar_0, nar_1, zr_0, zr_1, zr_b2, cmp_eq, cmp_le, cmp_lt, cmp_gt, cmp_ge, mx_I, mn_I, mx_L, mn_L, az_I, if_true, if_false, not_true_eq_false, not_false_eq_true, i_0, i_1, i_2, i_3, i_4, i_5, i_6, i_7, i_8, i_9, i_10, i_11, i_12, i_16, i_18, i_20, i_24, i_28, i_29, i_30, i_31, i_32, i_33, i_34, i_35, i_37, i_40, i_41, i_42, i_43, i_45, i_46, i_47, i_48, i_57, i_59, i_63, i_64, i_96, i_97, i_98, i_99, i_100, i_101, i_102, i_103, i_104, i_105, i_106, i_107, i_108, i_109, i_110, i_111, i_112, i_113, i_122, i_200, i_255, i_256, i_257, i_258, i_355, i_400, i_999, i_1000, i_1200, i_5680, i_9999, i_10000, i_99999, j_0, j_1, j_2, j_3, j_4, j_5, j_6, j_9, j_10, j_11, j_98, j_99, j_100, j_999, j_1000, j_9999, j_10000, j_99999, j_1000000, h5, hle, r19, SB_n hS, SB_mk hS, SB_fm hS, SB_md hS, SB_lv hS, SB_mo hS, SB_mn hS, SB_pr hS, SB_of hS, SB_nt hS, SB_li hS, ha, hl, c_mtc hV hB, hm, ixs, e]
        · have e : ¬ ky V 0 (u k) = ky V 0 z := fun q => hm (hq.mp q).2.2
          simp (disch := omega) only [fX2_unitLike_8, Int.reduceEq, Int.reduceNe, Int.reduceLT, Int.reduceLE, Int.reduceAdd, Int.reduceSub, Int.reduceMul, Int.reduceNeg, Int.zero_add, Int.add_zero, nm_eq, bd_some, bv_some, aI_ok, aL_ok, aS_ok, dv_ok, dw_ok, I_add, I_sub, I_mul, I_neg, I_lt, I_le, I_eq, I_nat, J_add, J_sub, J_mul, J_neg, J_lt, J_le, J_eq, I_l, J_i, I_div, J_div, b2_0, b2_1, b2_nar, nar_0, nar_1, zr_0, zr_1, zr_b2, cmp_eq, cmp_le, cmp_lt, cmp_gt, cmp_ge, mx_I, mn_I, mx_L, mn_L, az_I, if_true, if_false, not_true_eq_false, not_false_eq_true, i_0, i_1, i_2, i_3, i_4, i_5, i_6, i_7, i_8, i_9, i_10, i_11, i_12, i_16, i_18, i_20, i_24, i_28, i_29, i_30, i_31, i_32, i_33, i_34, i_35, i_37, i_40, i_41, i_42, i_43, i_45, i_46, i_47, i_48, i_57, i_59, i_63, i_64, i_96, i_97, i_98, i_99, i_100, i_101, i_102, i_103, i_104, i_105, i_106, i_107, i_108, i_109, i_110, i_111, i_112, i_113, i_122, i_200, i_255, i_256, i_257, i_258, i_355, i_400, i_999, i_1000, i_1200, i_5680, i_9999, i_10000, i_99999, j_0, j_1, j_2, j_3, j_4, j_5, j_6, j_9, j_10, j_11, j_98, j_99, j_100, j_999, j_1000, j_9999, j_10000, j_99999, j_1000000, h5, hle, r19, SB_n hS, SB_mk hS, SB_fm hS, SB_md hS, SB_lv hS, SB_mo hS, SB_mn hS, SB_pr hS, SB_of hS, SB_nt hS, SB_li hS, ha, hl, c_mtc hV hB, hm, ixs, e, ih]
      · have e : ¬ ky V 0 (u k) = ky V 0 z := fun q => hl (hq.mp q).2.1
        simp (disch := omega) only [fX2_unitLike_8, Int.reduceEq, Int.reduceNe, Int.reduceLT, Int.reduceLE, Int.reduceAdd, Int.reduceSub, Int.reduceMul, Int.reduceNeg, Int.zero_add, Int.add_zero, nm_eq, bd_some, bv_some, aI_ok, aL_ok, aS_ok, dv_ok, dw_ok, I_add, I_sub, I_mul, I_neg, I_lt, I_le, I_eq, I_nat, J_add, J_sub, J_mul, J_neg, J_lt, J_le, J_eq, I_l, J_i, I_div, J_div, b2_0, b2_1, b2_nar, nar_0, nar_1, zr_0, zr_1, zr_b2, cmp_eq, cmp_le, cmp_lt, cmp_gt, cmp_ge, mx_I, mn_I, mx_L, mn_L, az_I, if_true, if_false, not_true_eq_false, not_false_eq_true, i_0, i_1, i_2, i_3, i_4, i_5, i_6, i_7, i_8, i_9, i_10, i_11, i_12, i_16, i_18, i_20, i_24, i_28, i_29, i_30, i_31, i_32, i_33, i_34, i_35, i_37, i_40, i_41, i_42, i_43, i_45, i_46, i_47, i_48, i_57, i_59, i_63, i_64, i_96, i_97, i_98, i_99, i_100, i_101, i_102, i_103, i_104, i_105, i_106, i_107, i_108, i_109, i_110, i_111, i_112, i_113, i_122, i_200, i_255, i_256, i_257, i_258, i_355, i_400, i_999, i_1000, i_1200, i_5680, i_9999, i_10000, i_99999, j_0, j_1, j_2, j_3, j_4, j_5, j_6, j_9, j_10, j_11, j_98, j_99, j_100, j_999, j_1000, j_9999, j_10000, j_99999, j_1000000, h5, hle, r19, SB_n hS, SB_mk hS, SB_fm hS, SB_md hS, SB_lv hS, SB_mo hS, SB_mn hS, SB_pr hS, SB_of hS, SB_nt hS, SB_li hS, ha, hl, ixs, e, ih]
    · have e : ¬ ky V 0 (u k) = ky V 0 z := fun q => ha (hq.mp q).1
      simp (disch := omega) only [fX2_unitLike_8, Int.reduceEq, Int.reduceNe, Int.reduceLT, Int.reduceLE, Int.reduceAdd, Int.reduceSub, Int.reduceMul, Int.reduceNeg, Int.zero_add, Int.add_zero, nm_eq, bd_some, bv_some, aI_ok, aL_ok, aS_ok, dv_ok, dw_ok, I_add, I_sub, I_mul, I_neg, I_lt, I_le, I_eq, I_nat, J_add, J_sub, J_mul, J_neg, J_lt, J_le, J_eq, I_l, J_i, I_div, J_div, b2_0, b2_1, b2_nar, nar_0, nar_1, zr_0, zr_1, zr_b2, cmp_eq, cmp_le, cmp_lt, cmp_gt, cmp_ge, mx_I, mn_I, mx_L, mn_L, az_I, if_true, if_false, not_true_eq_false, not_false_eq_true, i_0, i_1, i_2, i_3, i_4, i_5, i_6, i_7, i_8, i_9, i_10, i_11, i_12, i_16, i_18, i_20, i_24, i_28, i_29, i_30, i_31, i_32, i_33, i_34, i_35, i_37, i_40, i_41, i_42, i_43, i_45, i_46, i_47, i_48, i_57, i_59, i_63, i_64, i_96, i_97, i_98, i_99, i_100, i_101, i_102, i_103, i_104, i_105, i_106, i_107, i_108, i_109, i_110, i_111, i_112, i_113, i_122, i_200, i_255, i_256, i_257, i_258, i_355, i_400, i_999, i_1000, i_1200, i_5680, i_9999, i_10000, i_99999, j_0, j_1, j_2, j_3, j_4, j_5, j_6, j_9, j_10, j_11, j_98, j_99, j_100, j_999, j_1000, j_9999, j_10000, j_99999, j_1000000, h5, hle, r19, SB_n hS, SB_mk hS, SB_fm hS, SB_md hS, SB_lv hS, SB_mo hS, SB_mn hS, SB_pr hS, SB_of hS, SB_nt hS, SB_li hS, ha, ixs, e, ih]
def adM (V : Vw) (i x A B C D : Int) (μ : Mem) : Mem := stL (stL (stL (stI μ 20 x.toNat (I_ (A + s_mn V i))) 21 x.toNat (J_ (B + 1000 * s_nt V i * s_mn V i))) 4 6 (J_ (C + 1000 * s_nt V i * s_mn V i))) 4 7 (J_ (D + s_mn V i))
theorem adM_F {i x A B C D : Int} {μ : Mem} : Fr P_ga μ (adM V i x A B C D μ) := (((Fr.rf.stI (by unfold P_ga; omega)).stL (by unfold P_ga; omega)).stL (by unfold P_ga; omega)).stL (by unfold P_ga; omega)
theorem c_add70 (hV : vB V) {μ : Mem} (hB : CB b V μ) {i x A B C D : Int} (h0 : 0 ≤ i) (h1 : i < sN V) (x0 : 0 ≤ x) (x1 : x < 40) (hA : μ.1 20 x.toNat = I_ A) (hB2 : μ.2.1 21 x.toNat = J_ B) (hC : μ.2.1 4 6 = J_ C) (hD : μ.2.1 4 7 = J_ D) : fX2_addExport_70 N b (I_ i) (I_ x) μ = some ((), adM V i x A B C D μ) := by
  have hn := hV.1
  unfold vN at hn
  have hv := hV.2.1 i h0 h1
  unfold vS at hv
  have hb := kB_ge hB.1
  have hS := hB.2.1
  have hB1 : CB b V (stI μ 20 x.toNat (I_ (A + s_mn V i))) := hB.F (P := P_ga) (Fr.rf.stI (by unfold P_ga; omega)) P_ga_ge
  have hB2' : CB b V (stL (stI μ 20 x.toNat (I_ (A + s_mn V i))) 21 x.toNat (J_ (B + 1000 * s_nt V i * s_mn V i))) := hB.F (P := P_ga) ((Fr.rf.stI (by unfold P_ga; omega)).stL (by unfold P_ga; omega)) P_ga_ge
  unfold fX2_addExport_70 adM
  simp (disch := omega) only [Int.reduceEq, Int.reduceNe, Int.reduceLT, Int.reduceLE, Int.reduceAdd, Int.reduceSub, Int.reduceMul, Int.reduceNeg, Int.zero_add, Int.add_zero, nm_eq, bd_some, bv_some, aI_ok, aL_ok, aS_ok, dv_ok, dw_ok, I_add, I_sub, I_mul, I_neg, I_lt, I_le, I_eq, I_nat, J_add, J_sub, J_mul, J_neg, J_lt, J_le, J_eq, I_l, J_i, I_div, J_div, b2_0, b2_1, b2_nar, nar_0, nar_1, zr_0, zr_1, zr_b2, cmp_eq, cmp_le, cmp_lt, cmp_gt, cmp_ge, mx_I, mn_I, mx_L, mn_L, az_I, if_true, if_false, not_true_eq_false, not_false_eq_true, i_0, i_1, i_2, i_3, i_4, i_5, i_6, i_7, i_8, i_9, i_10, i_11, i_12, i_16, i_18, i_20, i_24, i_28, i_29, i_30, i_31, i_32, i_33, i_34, i_35, i_37, i_40, i_41, i_42, i_43, i_45, i_46, i_47, i_48, i_57, i_59, i_63, i_64, i_96, i_97, i_98, i_99, i_100, i_101, i_102, i_103, i_104, i_105, i_106, i_107, i_108, i_109, i_110, i_111, i_112, i_113, i_122, i_200, i_255, i_256, i_257, i_258, i_355, i_400, i_999, i_1000, i_1200, i_5680, i_9999, i_10000, i_99999, j_0, j_1, j_2, j_3, j_4, j_5, j_6, j_9, j_10, j_11, j_98, j_99, j_100, j_999, j_1000, j_9999, j_10000, j_99999, j_1000000, SB_n hS, SB_mk hS, SB_fm hS, SB_md hS, SB_lv hS, SB_mo hS, SB_mn hS, SB_pr hS, SB_of hS, SB_nt hS, SB_li hS, hA, hB2, st_I2, c_valueAt hV hB1.2.1, c_valueAt hV hB2'.2.1, stL_nc, atL_N, hC, hD, st_L1, st_ne]
/-- the arrays of a gathering that has seen the first i sales -/
def GA (V : Vw) (f t i : Int) (μ : Mem) : Prop := μ.1 4 5 = I_ (gS V f t i.toNat).1 ∧ μ.2.1 4 6 = J_ (sg i.toNat 0 (g_val V f)) ∧ μ.2.1 4 7 = J_ (sg i.toNat 0 (g_mn V f 1)) ∧ ∀ k, 0 ≤ k → k < (gS V f t i.toNat).1 → μ.1 19 k.toNat = I_ ((gS V f t i.toNat).2 k) ∧ μ.1 20 k.toNat = I_ (sg i.toNat 0 (g_um V f t (ky V t ((gS V f t i.toNat).2 k)))) ∧ μ.2.1 21 k.toNat = J_ (sg i.toNat 0 (g_uv V f t (ky V t ((gS V f t i.toNat).2 k))))
theorem gS_step {i : Int} (h : 0 ≤ i) : gS V f t (i + 1).toNat = gSt V f t i (gS V f t i.toNat) := by
  rw [show (i + 1).toNat = i.toNat + 1 by omega]
  show gSt V f t (i.toNat : Int) _ = _
  rw [show (i.toNat : Int) = i by omega]
theorem gI_at {i : Int} (h : 0 ≤ i) : gI V f t i (gS V f t i.toNat) := by
  have := gI_all (V := V) (f := f) (t := t) i.toNat
  rw [show (i.toNat : Int) = i by omega] at this
  exact this
theorem GA_hit {i x : Int} (h0 : 0 ≤ i) {μ : Mem} (hG : GA V f t i μ) (he : p_ex V f i) (hx0 : 0 ≤ x) (hx : x < (gS V f t i.toNat).1) (hk : ky V t ((gS V f t i.toNat).2 x) = ky V t i) (hs : gSt V f t i (gS V f t i.toNat) = gS V f t i.toNat) : GA V f t (i + 1) (adM V i x (sg i.toNat 0 (g_um V f t (ky V t i))) (sg i.toNat 0 (g_uv V f t (ky V t i))) (sg i.toNat 0 (g_val V f)) (sg i.toNat 0 (g_mn V f 1)) μ) := by
  have hI := gI_at (V := V) (f := f) (t := t) h0
  obtain ⟨g1, g2, g3, g4⟩ := hG
  have ev : g_val V f i = 1000 * s_nt V i * s_mn V i := by unfold g_val; rw [if_pos he]
  have em : g_mn V f 1 i = s_mn V i := by unfold g_mn; rw [if_pos he]
  refine ⟨?_, ?_, ?_, ?_⟩
  · rw [gS_step h0, hs]
    unfold adM
    simp (disch := omega) only [st_L1, st_ne, g1]
  · rw [sg_step h0, ev]
    unfold adM
    simp (disch := omega) only [atL_N, atL_S]
  · rw [sg_step h0, em]
    unfold adM
    simp (disch := omega) only [atL_S]
  · rw [gS_step h0, hs]
    intro k k0 k1
    obtain ⟨q1, q2, q3⟩ := g4 k k0 k1
    unfold adM
    rw [sg_step h0, sg_step h0]
    simp (disch := omega) only [st_L1, st_ne, stL_nc, at_I, at_L, st_I2, q1, q2, q3]
    by_cases hkx : k = x
    · subst hkx
      have e1 : g_um V f t (ky V t ((gS V f t i.toNat).2 k)) i = s_mn V i := by unfold g_um; rw [if_pos ⟨he, hk.symm⟩]
      have e2 : g_uv V f t (ky V t ((gS V f t i.toNat).2 k)) i = 1000 * s_nt V i * s_mn V i := by unfold g_uv; rw [if_pos ⟨he, hk.symm⟩]
      rw [e1, e2, if_pos rfl, if_pos rfl, hk]
      exact ⟨trivial, rfl, rfl⟩
    · have hne : ¬ ky V t i = ky V t ((gS V f t i.toNat).2 k) := fun q => hkx (hI.2.2.1 k x k0 k1 hx0 hx (by rw [← q, hk]))
      have e1 : g_um V f t (ky V t ((gS V f t i.toNat).2 k)) i = 0 := by unfold g_um; rw [if_neg (fun q => hne q.2)]
      have e2 : g_uv V f t (ky V t ((gS V f t i.toNat).2 k)) i = 0 := by unfold g_uv; rw [if_neg (fun q => hne q.2)]
      rw [e1, e2, if_neg hkx, if_neg hkx, Int.add_zero, Int.add_zero]
      exact ⟨trivial, rfl, rfl⟩
def nwM (i c : Int) (μ : Mem) : Mem := stI (stL (stI (stI μ 19 c.toNat (I_ i)) 20 c.toNat (I_ 0)) 21 c.toNat (J_ 0)) 4 5 (I_ (c + 1))
theorem nwM_F {i c : Int} {μ : Mem} : Fr P_ga μ (nwM i c μ) := (((Fr.rf.stI (by unfold P_ga; omega)).stI (by unfold P_ga; omega)).stL (by unfold P_ga; omega)).stI (by unfold P_ga; omega)
theorem sg_zero {g : Int → Int} : ∀ (d : Nat) (i : Int), (∀ z, i ≤ z → z < i + d → g z = 0) → sg d i g = 0 := by
  intro d
  induction d with
  | zero => intro i _; rfl
  | succ d ih =>
    intro i h
    show g i + sg d (i + 1) g = 0
    rw [h i (by omega) (by omega), ih (i + 1) (fun z a c => h z (by omega) (by omega))]
    rfl
theorem GA_new {i : Int} (h0 : 0 ≤ i) {μ : Mem} (hG : GA V f t i μ) (he : p_ex V f i) (hx : ∀ k, 0 ≤ k → k < (gS V f t i.toNat).1 → ky V t ((gS V f t i.toNat).2 k) ≠ ky V t i) (hs : gSt V f t i (gS V f t i.toNat) = ((gS V f t i.toNat).1 + 1, fun k => if k = (gS V f t i.toNat).1 then i else (gS V f t i.toNat).2 k)) : GA V f t (i + 1) (adM V i (gS V f t i.toNat).1 0 0 (sg i.toNat 0 (g_val V f)) (sg i.toNat 0 (g_mn V f 1)) (nwM i (gS V f t i.toNat).1 μ)) := by
  have hI := gI_at (V := V) (f := f) (t := t) h0
  obtain ⟨g1, g2, g3, g4⟩ := hG
  have hc := hI.1
  have ev : g_val V f i = 1000 * s_nt V i * s_mn V i := by unfold g_val; rw [if_pos he]
  have em : g_mn V f 1 i = s_mn V i := by unfold g_mn; rw [if_pos he]
  refine ⟨?_, ?_, ?_, ?_⟩
  · rw [gS_step h0, hs]
    unfold adM nwM
    simp (disch := omega) only [st_L1, st_ne, at_S]
  · rw [sg_step h0, ev]
    unfold adM
    simp (disch := omega) only [atL_N, atL_S]
  · rw [sg_step h0, em]
    unfold adM
    simp (disch := omega) only [atL_S]
  · rw [gS_step h0, hs]
    intro k k0 k1
    have k1 : k < (gS V f t i.toNat).1 + 1 := k1
    rw [sg_step h0, sg_step h0]
    unfold adM nwM
    by_cases hk : k = (gS V f t i.toNat).1
    · have e0 : (if k = (gS V f t i.toNat).1 then i else (gS V f t i.toNat).2 k) = i := if_pos hk
      have z1 : sg i.toNat 0 (g_um V f t (ky V t i)) = 0 := sg_zero _ _ (fun z a c => by
        unfold g_um; rw [if_neg]
        intro q
        obtain ⟨j, j0, j1, j2⟩ := hI.2.2.2 z a (by omega) q.1
        exact hx j j0 j1 (by rw [j2, q.2]))
      have z2 : sg i.toNat 0 (g_uv V f t (ky V t i)) = 0 := sg_zero _ _ (fun z a c => by
        unfold g_uv; rw [if_neg]
        intro q
        obtain ⟨j, j0, j1, j2⟩ := hI.2.2.2 z a (by omega) q.1
        exact hx j j0 j1 (by rw [j2, q.2]))
      have e1 : g_um V f t (ky V t i) i = s_mn V i := by unfold g_um; rw [if_pos ⟨he, rfl⟩]
      have e2 : g_uv V f t (ky V t i) i = 1000 * s_nt V i * s_mn V i := by unfold g_uv; rw [if_pos ⟨he, rfl⟩]
      show _ ∧ _ ∧ _
      dsimp only
      rw [e0, z1, z2, e1, e2, ← hk]
      simp (disch := omega) only [st_L1, st_ne, stL_nc, at_I, at_L, st_I2, if_true, and_self]
    · have e0 : (if k = (gS V f t i.toNat).1 then i else (gS V f t i.toNat).2 k) = (gS V f t i.toNat).2 k := if_neg hk
      obtain ⟨q1, q2, q3⟩ := g4 k k0 (by omega)
      have hne : ¬ ky V t i = ky V t ((gS V f t i.toNat).2 k) := fun q => hx k k0 (by omega) q.symm
      have e1 : g_um V f t (ky V t ((gS V f t i.toNat).2 k)) i = 0 := by unfold g_um; rw [if_neg (fun q => hne q.2)]
      have e2 : g_uv V f t (ky V t ((gS V f t i.toNat).2 k)) i = 0 := by unfold g_uv; rw [if_neg (fun q => hne q.2)]
      dsimp only
      rw [e0, e1, e2, Int.add_zero, Int.add_zero]
      simp (disch := omega) only [st_L1, st_ne, stL_nc, at_I, at_L, st_I2, hk, if_false, q1, q2, q3, and_self]
theorem c_add (hV : vB V) (hN : 100 ≤ N) {μ : Mem} (hB : CB b V μ) {i : Int} (h0 : 0 ≤ i) (h1 : i < sN V) (he : p_ex V f i) (hG : GA V f t i μ) : ∃ μ', fX2_addExport N b (I_ i) (I_ (b2 (t = 0))) μ = some ((), μ') ∧ Fr P_ga μ μ' ∧ GA V f t (i + 1) μ' := by
  have hn := hV.1
  unfold vN at hn
  have hI := gI_at (V := V) (f := f) (t := t) h0
  obtain ⟨g1, g2, g3, g4⟩ := id hG
  have hc := hI.1
  have hlo := ixs_lo (u := fun k => ky V t ((gS V f t i.toNat).2 k)) (y := ky V t i) (gS V f t i.toNat).1.toNat 0
  -- the unit
  have hun : fX2_addExport N b (I_ i) (I_ (b2 (t = 0))) μ = fX2_addExport_17 N b (I_ i) (I_ (ixs (fun k => ky V t ((gS V f t i.toNat).2 k)) (ky V t i) (gS V f t i.toNat).1.toNat 0)) μ := by
    unfold fX2_addExport
    rw [if_pos hB.1]
    by_cases ht : t = 0
    · subst ht
      have := c_ul_l (N := N) hV hB hc.1 (by omega) g1 (fun k k0 k1 => ⟨(g4 k k0 k1).1, (hI.2.1 k k0 k1).1, by have := (hI.2.1 k k0 k1).2.1; omega⟩) h0 h1 (gS V f 0 i.toNat).1.toNat N 0 (by omega) (by omega) (by omega)
      have e1 : b2 ((0 : Int) = 0) = 1 := b2_t rfl
      unfold fX2_unitLike
      rw [if_pos hB.1]
      simp (disch := omega) only [Int.reduceEq, Int.reduceNe, Int.reduceLT, Int.reduceLE, Int.reduceAdd, Int.reduceSub, Int.reduceMul, Int.reduceNeg, Int.zero_add, Int.add_zero, nm_eq, bd_some, bv_some, aI_ok, aL_ok, aS_ok, dv_ok, dw_ok, I_add, I_sub, I_mul, I_neg, I_lt, I_le, I_eq, I_nat, J_add, J_sub, J_mul, J_neg, J_lt, J_le, J_eq, I_l, J_i, I_div, J_div, b2_0, b2_1, b2_nar, nar_0, nar_1, zr_0, zr_1, zr_b2, cmp_eq, cmp_le, cmp_lt, cmp_gt, cmp_ge, mx_I, mn_I, mx_L, mn_L, az_I, if_true, if_false, not_true_eq_false, not_false_eq_true, i_0, i_1, i_2, i_3, i_4, i_5, i_6, i_7, i_8, i_9, i_10, i_11, i_12, i_16, i_18, i_20, i_24, i_28, i_29, i_30, i_31, i_32, i_33, i_34, i_35, i_37, i_40, i_41, i_42, i_43, i_45, i_46, i_47, i_48, i_57, i_59, i_63, i_64, i_96, i_97, i_98, i_99, i_100, i_101, i_102, i_103, i_104, i_105, i_106, i_107, i_108, i_109, i_110, i_111, i_112, i_113, i_122, i_200, i_255, i_256, i_257, i_258, i_355, i_400, i_999, i_1000, i_1200, i_5680, i_9999, i_10000, i_99999, j_0, j_1, j_2, j_3, j_4, j_5, j_6, j_9, j_10, j_11, j_98, j_99, j_100, j_999, j_1000, j_9999, j_10000, j_99999, j_1000000, e1, this]
    · have e1 : b2 (t = 0) = 0 := b2_f ht
      have e2 : ixs (fun k => ky V t ((gS V f t i.toNat).2 k)) (ky V t i) (gS V f t i.toNat).1.toNat 0 = (gS V f t i.toNat).1 := by
        rw [ixs_none]
        · omega
        · intro j j0 j1
          have := hI.2.1 j j0 (by omega)
          show ky V t _ ≠ ky V t i
          unfold ky
          rw [if_neg ht, if_neg ht]
          omega
      simp (disch := omega) only [Int.reduceEq, Int.reduceNe, Int.reduceLT, Int.reduceLE, Int.reduceAdd, Int.reduceSub, Int.reduceMul, Int.reduceNeg, Int.zero_add, Int.add_zero, nm_eq, bd_some, bv_some, aI_ok, aL_ok, aS_ok, dv_ok, dw_ok, I_add, I_sub, I_mul, I_neg, I_lt, I_le, I_eq, I_nat, J_add, J_sub, J_mul, J_neg, J_lt, J_le, J_eq, I_l, J_i, I_div, J_div, b2_0, b2_1, b2_nar, nar_0, nar_1, zr_0, zr_1, zr_b2, cmp_eq, cmp_le, cmp_lt, cmp_gt, cmp_ge, mx_I, mn_I, mx_L, mn_L, az_I, if_true, if_false, not_true_eq_false, not_false_eq_true, i_0, i_1, i_2, i_3, i_4, i_5, i_6, i_7, i_8, i_9, i_10, i_11, i_12, i_16, i_18, i_20, i_24, i_28, i_29, i_30, i_31, i_32, i_33, i_34, i_35, i_37, i_40, i_41, i_42, i_43, i_45, i_46, i_47, i_48, i_57, i_59, i_63, i_64, i_96, i_97, i_98, i_99, i_100, i_101, i_102, i_103, i_104, i_105, i_106, i_107, i_108, i_109, i_110, i_111, i_112, i_113, i_122, i_200, i_255, i_256, i_257, i_258, i_355, i_400, i_999, i_1000, i_1200, i_5680, i_9999, i_10000, i_99999, j_0, j_1, j_2, j_3, j_4, j_5, j_6, j_9, j_10, j_11, j_98, j_99, j_100, j_999, j_1000, j_9999, j_10000, j_99999, j_1000000, e1, g1, e2]
  rw [hun]
  by_cases hx : ixs (fun k => ky V t ((gS V f t i.toNat).2 k)) (ky V t i) (gS V f t i.toNat).1.toNat 0 = (gS V f t i.toNat).1
  · rw [hx]
    have hs : gSt V f t i (gS V f t i.toNat) = ((gS V f t i.toNat).1 + 1, fun k => if k = (gS V f t i.toNat).1 then i else (gS V f t i.toNat).2 k) := by
      unfold gSt; rw [if_pos he, if_pos hx]
    have hno : ∀ k, 0 ≤ k → k < (gS V f t i.toNat).1 → ky V t ((gS V f t i.toNat).2 k) ≠ ky V t i := fun k k0 k1 => ixs_no (u := fun k => ky V t ((gS V f t i.toNat).2 k)) (gS V f t i.toNat).1.toNat 0 (by omega) k (by omega) (by omega)
    refine ⟨_, ?_, nwM_F.tr adM_F, GA_new h0 hG he hno hs⟩
    have hlt : (gS V f t i.toNat).1 < 40 := by omega
    have hBn : CB b V (nwM i (gS V f t i.toNat).1 μ) := hB.F nwM_F P_ga_ge
    have h70 := c_add70 (N := N) hV hBn (i := i) (x := (gS V f t i.toNat).1) (A := 0) (B := 0) (C := sg i.toNat 0 (g_val V f)) (D := sg i.toNat 0 (g_mn V f 1)) h0 h1 hc.1 hlt (by
      unfold nwM; simp (disch := omega) only [st_L1, st_ne, at_I, if_true]) (by
      unfold nwM; simp (disch := omega) only [at_L, if_true, st_I2]) (by
      unfold nwM; simp (disch := omega) only [stL_nc, st_I2, g2]) (by
      unfold nwM; simp (disch := omega) only [stL_nc, st_I2, g3])
    unfold nwM at h70
    unfold fX2_addExport_17 nwM
    simp (disch := omega) only [Int.reduceEq, Int.reduceNe, Int.reduceLT, Int.reduceLE, Int.reduceAdd, Int.reduceSub, Int.reduceMul, Int.reduceNeg, Int.zero_add, Int.add_zero, nm_eq, bd_some, bv_some, aI_ok, aL_ok, aS_ok, dv_ok, dw_ok, I_add, I_sub, I_mul, I_neg, I_lt, I_le, I_eq, I_nat, J_add, J_sub, J_mul, J_neg, J_lt, J_le, J_eq, I_l, J_i, I_div, J_div, b2_0, b2_1, b2_nar, nar_0, nar_1, zr_0, zr_1, zr_b2, cmp_eq, cmp_le, cmp_lt, cmp_gt, cmp_ge, mx_I, mn_I, mx_L, mn_L, az_I, if_true, if_false, not_true_eq_false, not_false_eq_true, i_0, i_1, i_2, i_3, i_4, i_5, i_6, i_7, i_8, i_9, i_10, i_11, i_12, i_16, i_18, i_20, i_24, i_28, i_29, i_30, i_31, i_32, i_33, i_34, i_35, i_37, i_40, i_41, i_42, i_43, i_45, i_46, i_47, i_48, i_57, i_59, i_63, i_64, i_96, i_97, i_98, i_99, i_100, i_101, i_102, i_103, i_104, i_105, i_106, i_107, i_108, i_109, i_110, i_111, i_112, i_113, i_122, i_200, i_255, i_256, i_257, i_258, i_355, i_400, i_999, i_1000, i_1200, i_5680, i_9999, i_10000, i_99999, j_0, j_1, j_2, j_3, j_4, j_5, j_6, j_9, j_10, j_11, j_98, j_99, j_100, j_999, j_1000, j_9999, j_10000, j_99999, j_1000000, hlt, g1, st_L1, st_ne, h70]
  · rw [show (ixs (fun k => ky V t ((gS V f t i.toNat).2 k)) (ky V t i) (gS V f t i.toNat).1.toNat 0) = (ixs (fun k => ky V t ((gS V f t i.toNat).2 k)) (ky V t i) (gS V f t i.toNat).1.toNat 0) from rfl]
    have hs : gSt V f t i (gS V f t i.toNat) = gS V f t i.toNat := by
      unfold gSt; rw [if_pos he, if_neg hx]
    have hh := ixs_hit (u := fun k => ky V t ((gS V f t i.toNat).2 k)) (y := ky V t i) (gS V f t i.toNat).1.toNat 0 (by omega)
    generalize ixs (fun k => ky V t ((gS V f t i.toNat).2 k)) (ky V t i) (gS V f t i.toNat).1.toNat 0 = x at hx hlo hh ⊢
    have hh : ky V t ((gS V f t i.toNat).2 x) = ky V t i := hh
    refine ⟨_, ?_, adM_F, GA_hit h0 hG he hlo.1 (by omega) hh hs⟩
    obtain ⟨q1, q2, q3⟩ := g4 x hlo.1 (by omega)
    rw [hh] at q2 q3
    have h70 := c_add70 (N := N) hV hB (i := i) (x := x) h0 h1 hlo.1 (by omega) q2 q3 g2 g3
    have hlt : x < 40 := by omega
    unfold fX2_addExport_17
    simp (disch := omega) only [Int.reduceEq, Int.reduceNe, Int.reduceLT, Int.reduceLE, Int.reduceAdd, Int.reduceSub, Int.reduceMul, Int.reduceNeg, Int.zero_add, Int.add_zero, nm_eq, bd_some, bv_some, aI_ok, aL_ok, aS_ok, dv_ok, dw_ok, I_add, I_sub, I_mul, I_neg, I_lt, I_le, I_eq, I_nat, J_add, J_sub, J_mul, J_neg, J_lt, J_le, J_eq, I_l, J_i, I_div, J_div, b2_0, b2_1, b2_nar, nar_0, nar_1, zr_0, zr_1, zr_b2, cmp_eq, cmp_le, cmp_lt, cmp_gt, cmp_ge, mx_I, mn_I, mx_L, mn_L, az_I, if_true, if_false, not_true_eq_false, not_false_eq_true, i_0, i_1, i_2, i_3, i_4, i_5, i_6, i_7, i_8, i_9, i_10, i_11, i_12, i_16, i_18, i_20, i_24, i_28, i_29, i_30, i_31, i_32, i_33, i_34, i_35, i_37, i_40, i_41, i_42, i_43, i_45, i_46, i_47, i_48, i_57, i_59, i_63, i_64, i_96, i_97, i_98, i_99, i_100, i_101, i_102, i_103, i_104, i_105, i_106, i_107, i_108, i_109, i_110, i_111, i_112, i_113, i_122, i_200, i_255, i_256, i_257, i_258, i_355, i_400, i_999, i_1000, i_1200, i_5680, i_9999, i_10000, i_99999, j_0, j_1, j_2, j_3, j_4, j_5, j_6, j_9, j_10, j_11, j_98, j_99, j_100, j_999, j_1000, j_9999, j_10000, j_99999, j_1000000, hlt, g1, hx, h70]
end
