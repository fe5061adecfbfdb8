/-! More cases of questions. -/
section
variable {N : Nat} {b : Nat} {V : Vw} {ν μ : Mem} {f p : Int}
theorem c_needS_y (hV : vB V) (hK : CK b V μ) (hp : 0 ≤ p ∧ p < sN V ∧ s_li V p = 1) : fX10_needSale N (I_ p) μ = some (.inl (), μ) := by
  have hn := hV.1
  unfold vN at hn
  have hB := hK.1
  have hS := hB.2.1
  obtain ⟨p0, p1, hl⟩ := hp
  have h0 : ¬ p < 0 := by omega
  have h1 : ¬ sN V ≤ p := by omega
  simp (disch := omega) only [fX10_needSale, Int.reduceEq, Int.reduceNe, Int.reduceLT, Int.reduceLE, Int.reduceAdd, Int.reduceSub, Int.reduceMul, Int.reduceNeg, Int.zero_add, Int.add_zero, nm_eq, bd_some, bv_some, aI_ok, aL_ok, aS_ok, dv_ok, dw_ok, I_add, I_sub, I_mul, I_neg, I_lt, I_le, I_eq, I_nat, J_add, J_sub, J_mul, J_neg, J_lt, J_le, J_eq, I_l, J_i, I_div, J_div, b2_0, b2_1, b2_nar, nar_0, nar_1, zr_0, zr_1, zr_b2, cmp_eq, cmp_le, cmp_lt, cmp_gt, cmp_ge, mx_I, mn_I, mx_L, mn_L, az_I, if_true, if_false, not_true_eq_false, not_false_eq_true, i_0, i_1, i_2, i_3, i_4, i_5, i_6, i_7, i_8, i_9, i_10, i_11, i_12, i_16, i_18, i_20, i_24, i_28, i_29, i_30, i_31, i_32, i_33, i_34, i_35, i_37, i_40, i_41, i_42, i_43, i_45, i_46, i_47, i_48, i_57, i_59, i_63, i_64, i_96, i_97, i_98, i_99, i_100, i_101, i_102, i_103, i_104, i_105, i_106, i_107, i_108, i_109, i_110, i_111, i_112, i_113, i_122, i_200, i_255, i_256, i_257, i_258, i_355, i_400, i_999, i_1000, i_1200, i_5680, i_9999, i_10000, i_99999, j_0, j_1, j_2, j_3, j_4, j_5, j_6, j_9, j_10, j_11, j_98, j_99, j_100, j_999, j_1000, j_9999, j_10000, j_99999, j_1000000, h0, hK.2, gB_k hB.1, SB_n hS, SB_mk hS, SB_fm hS, SB_md hS, SB_lv hS, SB_mo hS, SB_mn hS, SB_pr hS, SB_of hS, SB_nt hS, SB_li hS, h1, hl]
theorem c_needS_n (hV : vB V) (hK : CK b V μ) (p0 : -2147483648 ≤ p) (p1 : p < 2147483648) (h : ¬ (0 ≤ p ∧ p < sN V ∧ s_li V p = 1)) : fX10_needSale N (I_ p) μ = some (.inr 0, μ) := by
  have hn := hV.1
  unfold vN at hn
  have hB := hK.1
  have hS := hB.2.1
  by_cases h0 : p < 0
  · simp (disch := omega) only [fX10_needSale, Int.reduceEq, Int.reduceNe, Int.reduceLT, Int.reduceLE, Int.reduceAdd, Int.reduceSub, Int.reduceMul, Int.reduceNeg, Int.zero_add, Int.add_zero, nm_eq, bd_some, bv_some, aI_ok, aL_ok, aS_ok, dv_ok, dw_ok, I_add, I_sub, I_mul, I_neg, I_lt, I_le, I_eq, I_nat, J_add, J_sub, J_mul, J_neg, J_lt, J_le, J_eq, I_l, J_i, I_div, J_div, b2_0, b2_1, b2_nar, nar_0, nar_1, zr_0, zr_1, zr_b2, cmp_eq, cmp_le, cmp_lt, cmp_gt, cmp_ge, mx_I, mn_I, mx_L, mn_L, az_I, if_true, if_false, not_true_eq_false, not_false_eq_true, i_0, i_1, i_2, i_3, i_4, i_5, i_6, i_7, i_8, i_9, i_10, i_11, i_12, i_16, i_18, i_20, i_24, i_28, i_29, i_30, i_31, i_32, i_33, i_34, i_35, i_37, i_40, i_41, i_42, i_43, i_45, i_46, i_47, i_48, i_57, i_59, i_63, i_64, i_96, i_97, i_98, i_99, i_100, i_101, i_102, i_103, i_104, i_105, i_106, i_107, i_108, i_109, i_110, i_111, i_112, i_113, i_122, i_200, i_255, i_256, i_257, i_258, i_355, i_400, i_999, i_1000, i_1200, i_5680, i_9999, i_10000, i_99999, j_0, j_1, j_2, j_3, j_4, j_5, j_6, j_9, j_10, j_11, j_98, j_99, j_100, j_999, j_1000, j_9999, j_10000, j_99999, j_1000000, h0]
  · by_cases h1 : sN V ≤ p
    · simp (disch := omega) only [fX10_needSale, Int.reduceEq, Int.reduceNe, Int.reduceLT, Int.reduceLE, Int.reduceAdd, Int.reduceSub, Int.reduceMul, Int.reduceNeg, Int.zero_add, Int.add_zero, nm_eq, bd_some, bv_some, aI_ok, aL_ok, aS_ok, dv_ok, dw_ok, I_add, I_sub, I_mul, I_neg, I_lt, I_le, I_eq, I_nat, J_add, J_sub, J_mul, J_neg, J_lt, J_le, J_eq, I_l, J_i, I_div, J_div, b2_0, b2_1, b2_nar, nar_0, nar_1, zr_0, zr_1, zr_b2, cmp_eq, cmp_le, cmp_lt, cmp_gt, cmp_ge, mx_I, mn_I, mx_L, mn_L, az_I, if_true, if_false, not_true_eq_false, not_false_eq_true, i_0, i_1, i_2, i_3, i_4, i_5, i_6, i_7, i_8, i_9, i_10, i_11, i_12, i_16, i_18, i_20, i_24, i_28, i_29, i_30, i_31, i_32, i_33, i_34, i_35, i_37, i_40, i_41, i_42, i_43, i_45, i_46, i_47, i_48, i_57, i_59, i_63, i_64, i_96, i_97, i_98, i_99, i_100, i_101, i_102, i_103, i_104, i_105, i_106, i_107, i_108, i_109, i_110, i_111, i_112, i_113, i_122, i_200, i_255, i_256, i_257, i_258, i_355, i_400, i_999, i_1000, i_1200, i_5680, i_9999, i_10000, i_99999, j_0, j_1, j_2, j_3, j_4, j_5, j_6, j_9, j_10, j_11, j_98, j_99, j_100, j_999, j_1000, j_9999, j_10000, j_99999, j_1000000, h0, hK.2, gB_k hB.1, SB_n hS, SB_mk hS, SB_fm hS, SB_md hS, SB_lv hS, SB_mo hS, SB_mn hS, SB_pr hS, SB_of hS, SB_nt hS, SB_li hS, h1]
    · have hv := hV.2.1 p (by omega) (by omega)
      unfold vS at hv
      have hl : s_li V p = 0 := by
        by_cases hl : s_li V p = 1
        · exact absurd ⟨by omega, by omega, hl⟩ h
        · omega
      simp (disch := omega) only [fX10_needSale, Int.reduceEq, Int.reduceNe, Int.reduceLT, Int.reduceLE, Int.reduceAdd, Int.reduceSub, Int.reduceMul, Int.reduceNeg, Int.zero_add, Int.add_zero, nm_eq, bd_some, bv_some, aI_ok, aL_ok, aS_ok, dv_ok, dw_ok, I_add, I_sub, I_mul, I_neg, I_lt, I_le, I_eq, I_nat, J_add, J_sub, J_mul, J_neg, J_lt, J_le, J_eq, I_l, J_i, I_div, J_div, b2_0, b2_1, b2_nar, nar_0, nar_1, zr_0, zr_1, zr_b2, cmp_eq, cmp_le, cmp_lt, cmp_gt, cmp_ge, mx_I, mn_I, mx_L, mn_L, az_I, if_true, if_false, not_true_eq_false, not_false_eq_true, i_0, i_1, i_2, i_3, i_4, i_5, i_6, i_7, i_8, i_9, i_10, i_11, i_12, i_16, i_18, i_20, i_24, i_28, i_29, i_30, i_31, i_32, i_33, i_34, i_35, i_37, i_40, i_41, i_42, i_43, i_45, i_46, i_47, i_48, i_57, i_59, i_63, i_64, i_96, i_97, i_98, i_99, i_100, i_101, i_102, i_103, i_104, i_105, i_106, i_107, i_108, i_109, i_110, i_111, i_112, i_113, i_122, i_200, i_255, i_256, i_257, i_258, i_355, i_400, i_999, i_1000, i_1200, i_5680, i_9999, i_10000, i_99999, j_0, j_1, j_2, j_3, j_4, j_5, j_6, j_9, j_10, j_11, j_98, j_99, j_100, j_999, j_1000, j_9999, j_10000, j_99999, j_1000000, h0, hK.2, gB_k hB.1, SB_n hS, SB_mk hS, SB_fm hS, SB_md hS, SB_lv hS, SB_mo hS, SB_mn hS, SB_pr hS, SB_of hS, SB_nt hS, SB_li hS, h1, hl]
theorem Q31 (hN : 20000 ≤ N) (v : Nat → Int32) (hQ : RQ N b V μ ν) : ∃ z, lawC31 N v μ ν = some z ∧ QO N b V μ ν z := by
  obtain ⟨hV, hW, hK, hR⟩ := hQ
  have hQ : RQ N b V μ ν := ⟨hV, hW, hK, hR⟩
  have hn := hV.1
  unfold vN at hn
  obtain ⟨p, e, p0, p1⟩ := I_ex (v 1)
  by_cases hp : 0 ≤ p ∧ p < fN V
  · obtain ⟨ν1, a1, a2, a3, a4⟩ := r_lay (N := N) hV hW (by omega) (hR.K.thr (I_ 0))
    have a5 : fX11_picked_34 N N (I_ p) (I_ 0) (I_ 0) ν1 = some (x_pk V p, ν1) := r_pk34 (N := N) hV (by omega) a3 hp.1 (by omega) 12 N 0 (I_ 0) (by omega) (by omega) (by omega)
    obtain ⟨μ1, c1, c2⟩ := c_pk (N := N) (f := p) hV (by omega) hp.1 (by omega) hK.1.2.1
    refine ⟨_, ?_, q_a hQ ((x_pk V p).toInt64) (c2.mono (fun k j h => P_pm_du h)) a2 ((hR.K.thr (I_ 0)).laid a2 a3)⟩
    simp (disch := omega) only [lawC31, fL_picked, fX10_picked, fX11_picked, fX11_picked_14, fX11_thrown, Int.reduceEq, Int.reduceNe, Int.reduceLT, Int.reduceLE, Int.reduceAdd, Int.reduceSub, Int.reduceMul, Int.reduceNeg, Int.zero_add, Int.add_zero, nm_eq, bd_some, bv_some, aI_ok, aL_ok, aS_ok, dv_ok, dw_ok, I_add, I_sub, I_mul, I_neg, I_lt, I_le, I_eq, I_nat, J_add, J_sub, J_mul, J_neg, J_lt, J_le, J_eq, I_l, J_i, I_div, J_div, b2_0, b2_1, b2_nar, nar_0, nar_1, zr_0, zr_1, zr_b2, cmp_eq, cmp_le, cmp_lt, cmp_gt, cmp_ge, mx_I, mn_I, mx_L, mn_L, az_I, if_true, if_false, not_true_eq_false, not_false_eq_true, i_0, i_1, i_2, i_3, i_4, i_5, i_6, i_7, i_8, i_9, i_10, i_11, i_12, i_16, i_18, i_20, i_24, i_28, i_29, i_30, i_31, i_32, i_33, i_34, i_35, i_37, i_40, i_41, i_42, i_43, i_45, i_46, i_47, i_48, i_57, i_59, i_63, i_64, i_96, i_97, i_98, i_99, i_100, i_101, i_102, i_103, i_104, i_105, i_106, i_107, i_108, i_109, i_110, i_111, i_112, i_113, i_122, i_200, i_255, i_256, i_257, i_258, i_355, i_400, i_999, i_1000, i_1200, i_5680, i_9999, i_10000, i_99999, j_0, j_1, j_2, j_3, j_4, j_5, j_6, j_9, j_10, j_11, j_98, j_99, j_100, j_999, j_1000, j_9999, j_10000, j_99999, j_1000000, e, c_needF_y hV hK hp.1 hp.2, bx_l, bh_l, hK.2, gB_k hK.1.1, c1, r_isFirm hV hR.1, b2_t hp, at_S, a1, a5, q_0 a2, n_0, at_SL, cmp_self]
  · refine ⟨_, ?_, q_x hQ (I_ 1)⟩
    simp (disch := omega) only [lawC31, fL_picked, fX10_picked, fX11_picked, fX11_picked_14, fX11_thrown, Int.reduceEq, Int.reduceNe, Int.reduceLT, Int.reduceLE, Int.reduceAdd, Int.reduceSub, Int.reduceMul, Int.reduceNeg, Int.zero_add, Int.add_zero, nm_eq, bd_some, bv_some, aI_ok, aL_ok, aS_ok, dv_ok, dw_ok, I_add, I_sub, I_mul, I_neg, I_lt, I_le, I_eq, I_nat, J_add, J_sub, J_mul, J_neg, J_lt, J_le, J_eq, I_l, J_i, I_div, J_div, b2_0, b2_1, b2_nar, nar_0, nar_1, zr_0, zr_1, zr_b2, cmp_eq, cmp_le, cmp_lt, cmp_gt, cmp_ge, mx_I, mn_I, mx_L, mn_L, az_I, if_true, if_false, not_true_eq_false, not_false_eq_true, i_0, i_1, i_2, i_3, i_4, i_5, i_6, i_7, i_8, i_9, i_10, i_11, i_12, i_16, i_18, i_20, i_24, i_28, i_29, i_30, i_31, i_32, i_33, i_34, i_35, i_37, i_40, i_41, i_42, i_43, i_45, i_46, i_47, i_48, i_57, i_59, i_63, i_64, i_96, i_97, i_98, i_99, i_100, i_101, i_102, i_103, i_104, i_105, i_106, i_107, i_108, i_109, i_110, i_111, i_112, i_113, i_122, i_200, i_255, i_256, i_257, i_258, i_355, i_400, i_999, i_1000, i_1200, i_5680, i_9999, i_10000, i_99999, j_0, j_1, j_2, j_3, j_4, j_5, j_6, j_9, j_10, j_11, j_98, j_99, j_100, j_999, j_1000, j_9999, j_10000, j_99999, j_1000000, e, c_needF_n hV hK p0 p1 hp, bx_r, bh_r, r_isFirm hV hR.1, b2_f hp, at_S]
theorem Q34 (hN : 20000 ≤ N) (v : Nat → Int32) (hQ : RQ N b V μ ν) : ∃ z, lawC34 N v μ ν = some z ∧ QO N b V μ ν z := by
  obtain ⟨hV, hW, hK, hR⟩ := hQ
  have hQ : RQ N b V μ ν := ⟨hV, hW, hK, hR⟩
  have hn := hV.1
  unfold vN at hn
  obtain ⟨p, e, p0, p1⟩ := I_ex (v 1)
  by_cases hp : 0 ≤ p ∧ p < sN V ∧ s_li V p = 1
  · have hv := hV.2.1 p hp.1 hp.2.1
    unfold vS at hv
    obtain ⟨ν1, a1, a2, a3⟩ := r_wt (N := N) hV hW (by omega) hp.1 hp.2.1 hp.2.2 (hR.thr (I_ 0))
    obtain ⟨μ1, c1, c2⟩ := c_without (N := N) hV (by omega) hK.1 hp.1 hp.2.1 hp.2.2
    have hK1 := hK.cp c2
    obtain ⟨μ2, d1, d2⟩ := c_now (N := N) (f := s_fm V p) hV (by omega) (by omega) (by omega) hK1.1
    have b1 := x_ma_in (Z := (s_se V 1 = 1)) V (s_fm V p) (s_se V 0) 0
    have b3 := x_ma_in (Z := (s_se V 1 = 1)) (v_no V p) (s_fm V p) (s_se V 0) 0
    have hS := hK.1.2.1
    have hF := (c2.tr d2).mono (T := P_du) (fun k j h => P_cp_du h)
    refine ⟨_, ?_, q_a hQ (J_ (x_wt V p)) hF a2 a3.K⟩
    unfold x_wt at a1 ⊢
    simp (disch := omega) only [lawC34, fL_weight, fX10_weight, fX11_weight, fX11_weight_14, fX11_thrown, Int.reduceEq, Int.reduceNe, Int.reduceLT, Int.reduceLE, Int.reduceAdd, Int.reduceSub, Int.reduceMul, Int.reduceNeg, Int.zero_add, Int.add_zero, nm_eq, bd_some, bv_some, aI_ok, aL_ok, aS_ok, dv_ok, dw_ok, I_add, I_sub, I_mul, I_neg, I_lt, I_le, I_eq, I_nat, J_add, J_sub, J_mul, J_neg, J_lt, J_le, J_eq, I_l, J_i, I_div, J_div, b2_0, b2_1, b2_nar, nar_0, nar_1, zr_0, zr_1, zr_b2, cmp_eq, cmp_le, cmp_lt, cmp_gt, cmp_ge, mx_I, mn_I, mx_L, mn_L, az_I, if_true, if_false, not_true_eq_false, not_false_eq_true, i_0, i_1, i_2, i_3, i_4, i_5, i_6, i_7, i_8, i_9, i_10, i_11, i_12, i_16, i_18, i_20, i_24, i_28, i_29, i_30, i_31, i_32, i_33, i_34, i_35, i_37, i_40, i_41, i_42, i_43, i_45, i_46, i_47, i_48, i_57, i_59, i_63, i_64, i_96, i_97, i_98, i_99, i_100, i_101, i_102, i_103, i_104, i_105, i_106, i_107, i_108, i_109, i_110, i_111, i_112, i_113, i_122, i_200, i_255, i_256, i_257, i_258, i_355, i_400, i_999, i_1000, i_1200, i_5680, i_9999, i_10000, i_99999, j_0, j_1, j_2, j_3, j_4, j_5, j_6, j_9, j_10, j_11, j_98, j_99, j_100, j_999, j_1000, j_9999, j_10000, j_99999, j_1000000, e, c_needS_y hV hK hp, bx_l, bh_l, hK.2, hK1.2, gB_k hK.1.1, SB_fm hS, c1, d1, r_isSale hV hR.1, b2_t hp, at_S, a1, q_0 a2, n_0, at_SL, cmp_self]
  · refine ⟨_, ?_, q_x hQ (I_ 1)⟩
    simp (disch := omega) only [lawC34, fL_weight, fX10_weight, fX11_weight, fX11_weight_14, fX11_thrown, Int.reduceEq, Int.reduceNe, Int.reduceLT, Int.reduceLE, Int.reduceAdd, Int.reduceSub, Int.reduceMul, Int.reduceNeg, Int.zero_add, Int.add_zero, nm_eq, bd_some, bv_some, aI_ok, aL_ok, aS_ok, dv_ok, dw_ok, I_add, I_sub, I_mul, I_neg, I_lt, I_le, I_eq, I_nat, J_add, J_sub, J_mul, J_neg, J_lt, J_le, J_eq, I_l, J_i, I_div, J_div, b2_0, b2_1, b2_nar, nar_0, nar_1, zr_0, zr_1, zr_b2, cmp_eq, cmp_le, cmp_lt, cmp_gt, cmp_ge, mx_I, mn_I, mx_L, mn_L, az_I, if_true, if_false, not_true_eq_false, not_false_eq_true, i_0, i_1, i_2, i_3, i_4, i_5, i_6, i_7, i_8, i_9, i_10, i_11, i_12, i_16, i_18, i_20, i_24, i_28, i_29, i_30, i_31, i_32, i_33, i_34, i_35, i_37, i_40, i_41, i_42, i_43, i_45, i_46, i_47, i_48, i_57, i_59, i_63, i_64, i_96, i_97, i_98, i_99, i_100, i_101, i_102, i_103, i_104, i_105, i_106, i_107, i_108, i_109, i_110, i_111, i_112, i_113, i_122, i_200, i_255, i_256, i_257, i_258, i_355, i_400, i_999, i_1000, i_1200, i_5680, i_9999, i_10000, i_99999, j_0, j_1, j_2, j_3, j_4, j_5, j_6, j_9, j_10, j_11, j_98, j_99, j_100, j_999, j_1000, j_9999, j_10000, j_99999, j_1000000, e, c_needS_n hV hK p0 p1 hp, bx_r, bh_r, r_isSale hV hR.1, b2_f hp, at_S]
theorem Q35 (hN : 20000 ≤ N) (v : Nat → Int32) (hQ : RQ N b V μ ν) : ∃ z, lawC35 N v μ ν = some z ∧ QO N b V μ ν z := by
  obtain ⟨hV, hW, hK, hR⟩ := hQ
  have hQ : RQ N b V μ ν := ⟨hV, hW, hK, hR⟩
  have hn := hV.1
  unfold vN at hn
  obtain ⟨p, e, p0, p1⟩ := I_ex (v 1)
  obtain ⟨Z, _, ez⟩ := z_ex (v 2)
  unfold lawC35
  rw [ez]
  by_cases hp : 0 ≤ p ∧ p < fN V
  · obtain ⟨ν1, a1, a2, a3⟩ := r_hv (N := N) (f := p) (G := Z) hV hW (by omega) hp.1 (by omega) (sN V).toNat N 0 (-1) _ (by omega) (by omega) (by omega) (Or.inl rfl) (hR.thr (I_ 0))
    have a1 : fX11_heaviest_34 N N (I_ p) (I_ (b2 Z)) (I_ (-1)) (I_ 0) (I_ 0) (stI ν 0 0 (I_ 0)) = some (I_ (x_hv V p Z), ν1) := a1
    obtain ⟨μ1, c1, c2⟩ := c_hv (N := N) (f := p) (G := Z) hV (by omega) hp.1 (by omega) (sN V).toNat N 0 (-1) μ (by omega) (by omega) (by omega) (Or.inl rfl) hK
    have c1 : fX10_heaviest_22 N N b (I_ p) (I_ (b2 Z)) (I_ (-1)) (I_ 0) (I_ 0) μ = some (.inl (I_ (x_hv V p Z)), μ1) := c1
    refine ⟨_, ?_, q_a hQ ((I_ (x_hv V p Z)).toInt64) c2 a2 a3.K⟩
    generalize I_ (x_hv V p Z) = w at a1 c1
    simp (disch := omega) only [fL_heaviest, fX10_heaviest, fX11_heaviest, fX11_heaviest_14, fX11_thrown, Int.reduceEq, Int.reduceNe, Int.reduceLT, Int.reduceLE, Int.reduceAdd, Int.reduceSub, Int.reduceMul, Int.reduceNeg, Int.zero_add, Int.add_zero, nm_eq, bd_some, bv_some, aI_ok, aL_ok, aS_ok, dv_ok, dw_ok, I_add, I_sub, I_mul, I_neg, I_lt, I_le, I_eq, I_nat, J_add, J_sub, J_mul, J_neg, J_lt, J_le, J_eq, I_l, J_i, I_div, J_div, b2_0, b2_1, b2_nar, nar_0, nar_1, zr_0, zr_1, zr_b2, cmp_eq, cmp_le, cmp_lt, cmp_gt, cmp_ge, mx_I, mn_I, mx_L, mn_L, az_I, if_true, if_false, not_true_eq_false, not_false_eq_true, i_0, i_1, i_2, i_3, i_4, i_5, i_6, i_7, i_8, i_9, i_10, i_11, i_12, i_16, i_18, i_20, i_24, i_28, i_29, i_30, i_31, i_32, i_33, i_34, i_35, i_37, i_40, i_41, i_42, i_43, i_45, i_46, i_47, i_48, i_57, i_59, i_63, i_64, i_96, i_97, i_98, i_99, i_100, i_101, i_102, i_103, i_104, i_105, i_106, i_107, i_108, i_109, i_110, i_111, i_112, i_113, i_122, i_200, i_255, i_256, i_257, i_258, i_355, i_400, i_999, i_1000, i_1200, i_5680, i_9999, i_10000, i_99999, j_0, j_1, j_2, j_3, j_4, j_5, j_6, j_9, j_10, j_11, j_98, j_99, j_100, j_999, j_1000, j_9999, j_10000, j_99999, j_1000000, e, c_needF_y hV hK hp.1 hp.2, bx_l, bh_l, hK.2, gB_k hK.1.1, c1, r_isFirm hV hR.1, b2_t hp, at_S, a1, q_0 a2, n_0, at_SL, cmp_self]
  · refine ⟨_, ?_, q_x hQ (I_ 1)⟩
    simp (disch := omega) only [fL_heaviest, fX10_heaviest, fX11_heaviest, fX11_heaviest_14, fX11_thrown, Int.reduceEq, Int.reduceNe, Int.reduceLT, Int.reduceLE, Int.reduceAdd, Int.reduceSub, Int.reduceMul, Int.reduceNeg, Int.zero_add, Int.add_zero, nm_eq, bd_some, bv_some, aI_ok, aL_ok, aS_ok, dv_ok, dw_ok, I_add, I_sub, I_mul, I_neg, I_lt, I_le, I_eq, I_nat, J_add, J_sub, J_mul, J_neg, J_lt, J_le, J_eq, I_l, J_i, I_div, J_div, b2_0, b2_1, b2_nar, nar_0, nar_1, zr_0, zr_1, zr_b2, cmp_eq, cmp_le, cmp_lt, cmp_gt, cmp_ge, mx_I, mn_I, mx_L, mn_L, az_I, if_true, if_false, not_true_eq_false, not_false_eq_true, i_0, i_1, i_2, i_3, i_4, i_5, i_6, i_7, i_8, i_9, i_10, i_11, i_12, i_16, i_18, i_20, i_24, i_28, i_29, i_30, i_31, i_32, i_33, i_34, i_35, i_37, i_40, i_41, i_42, i_43, i_45, i_46, i_47, i_48, i_57, i_59, i_63, i_64, i_96, i_97, i_98, i_99, i_100, i_101, i_102, i_103, i_104, i_105, i_106, i_107, i_108, i_109, i_110, i_111, i_112, i_113, i_122, i_200, i_255, i_256, i_257, i_258, i_355, i_400, i_999, i_1000, i_1200, i_5680, i_9999, i_10000, i_99999, j_0, j_1, j_2, j_3, j_4, j_5, j_6, j_9, j_10, j_11, j_98, j_99, j_100, j_999, j_1000, j_9999, j_10000, j_99999, j_1000000, e, c_needF_n hV hK p0 p1 hp, bx_r, bh_r, r_isFirm hV hR.1, b2_f hp, at_S]
theorem Q28 (hN : 20000 ≤ N) (v : Nat → Int32) (hQ : RQ N b V μ ν) : ∃ z, lawC28 N v μ ν = some z ∧ QO N b V μ ν z := by
  obtain ⟨hV, hW, hK, hR⟩ := hQ
  have hn := hV.1
  unfold vN at hn
  obtain ⟨ν1, a1, a2, a3⟩ := r_ot12 (N := N) hV hW (by omega) (fN V).toNat N 0 _ (by omega) (by omega) (by omega) (hR.K.thr (I_ 0))
  have a1 : fX11_others_12 N N (J_ 0) (J_ 0) (I_ 0) (stI ν 0 0 (I_ 0)) = some (I_ (x_ot V), ν1) := a1
  obtain ⟨μ1, c1, c2, c3⟩ := c_as (N := N) hV (by omega) hK.1
  have hK1 := hK.du c2
  have c4 := c_ot (N := N) hV (by omega) hK1.1 c3
  refine ⟨(μ1, ν1), ?_, c2.mono (fun k j h => Or.inl h), (q_thr (I_ 0)).tr (a2.mono (fun k j h => Or.inl h)), hV, hW, hK1, (hR.thr (I_ 0)).F a2 a3⟩
  simp (disch := omega) only [lawC28, fX10_others, fX11_others, Int.reduceEq, Int.reduceNe, Int.reduceLT, Int.reduceLE, Int.reduceAdd, Int.reduceSub, Int.reduceMul, Int.reduceNeg, Int.zero_add, Int.add_zero, nm_eq, bd_some, bv_some, aI_ok, aL_ok, aS_ok, dv_ok, dw_ok, I_add, I_sub, I_mul, I_neg, I_lt, I_le, I_eq, I_nat, J_add, J_sub, J_mul, J_neg, J_lt, J_le, J_eq, I_l, J_i, I_div, J_div, b2_0, b2_1, b2_nar, nar_0, nar_1, zr_0, zr_1, zr_b2, cmp_eq, cmp_le, cmp_lt, cmp_gt, cmp_ge, mx_I, mn_I, mx_L, mn_L, az_I, if_true, if_false, not_true_eq_false, not_false_eq_true, i_0, i_1, i_2, i_3, i_4, i_5, i_6, i_7, i_8, i_9, i_10, i_11, i_12, i_16, i_18, i_20, i_24, i_28, i_29, i_30, i_31, i_32, i_33, i_34, i_35, i_37, i_40, i_41, i_42, i_43, i_45, i_46, i_47, i_48, i_57, i_59, i_63, i_64, i_96, i_97, i_98, i_99, i_100, i_101, i_102, i_103, i_104, i_105, i_106, i_107, i_108, i_109, i_110, i_111, i_112, i_113, i_122, i_200, i_255, i_256, i_257, i_258, i_355, i_400, i_999, i_1000, i_1200, i_5680, i_9999, i_10000, i_99999, j_0, j_1, j_2, j_3, j_4, j_5, j_6, j_9, j_10, j_11, j_98, j_99, j_100, j_999, j_1000, j_9999, j_10000, j_99999, j_1000000, hK.2, hK1.2, gB_k hK.1.1, c1, c4, a1]
end
