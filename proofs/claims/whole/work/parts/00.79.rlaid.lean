/-! what stays laid: the margins and the rate, from a memory that is laid. -/
def RKe (N : Nat) (V : Vw) (ν : Mem) : Prop := RB V ν ∧ RO N V ν ∧ (ν.1 0 30 = I_ 1 ∧ LA V ν)
section
variable {N : Nat} {V : Vw} {ν : Mem} {f t : Int}
theorem RKe.K {ν : Mem} (h : RKe N V ν) : RKd N V ν := ⟨h.1, h.2.1, Or.inr h.2.2⟩
theorem RKe.L {ν : Mem} (h : RKe N V ν) : RLd V ν := ⟨h.1, h.2.2.2, h.2.2.1⟩
theorem RKe.laid {ν ν' : Mem} (h : RKe N V ν) (g : Fr P_rq ν ν') (hL : RLd V ν') : RKe N V ν' := ⟨hL.1, h.2.1.F g P_rq_rb, hL.2.2, hL.2.1⟩
theorem RKd.laidE {ν ν' : Mem} (h : RKd N V ν) (g : Fr P_rq ν ν') (hL : RLd V ν') : RKe N V ν' := ⟨hL.1, h.2.1.F g P_rq_rb, hL.2.2, hL.2.1⟩
theorem e_lay (hV : vB V) (hW : vO V) (hN : 100 ≤ N) (hK : RKe N V ν) : ∃ ν1, fX11_lays N ν = some ((), ν1) ∧ Fr P_rq ν ν1 ∧ RLd V ν1 ∧ fX11_lays N ν1 = some ((), ν1) := r_lay hV hW hN hK.K
theorem e_own {Z : Prop} [Decidable Z] (hV : vB V) (hW : vO V) (hN : 100 ≤ N) (f0 : 0 ≤ f) (f1 : f < 4) (t0 : 0 ≤ t) (t1 : t ≤ 2) (hK : RKe N V ν) : ∃ ν', fX11_ownMargin N (I_ f) (I_ t) (I_ (b2 Z)) ν = some (I_ (x_ma V f t 0 Z), ν') ∧ Fr P_rq ν ν' ∧ RKe N V ν' := by
  obtain ⟨ν1, a1, a2, a3, a4⟩ := e_lay hV hW hN hK
  obtain ⟨ν', e1, e2⟩ := r_ownL (N := N) (Z := Z) hV hN f0 f1 t0 t1 a3
  have hF := a2.tr (e2.mono (fun k j h => P_rp_rq h))
  refine ⟨ν', ?_, hF, hK.laid hF (a3.p e2)⟩
  rw [← e1]
  unfold fX11_ownMargin
  rw [parts_lay a1 a4]
theorem e_mo22 {Z : Prop} [Decidable Z] (hV : vB V) (hW : vO V) (hN : 100 ≤ N) (t0 : 0 ≤ t) (t1 : t ≤ 2) : ∀ (d n : Nat) (i : Int) (ν : Mem), d < n → 0 ≤ i → i + d = fN V → RKe N V ν → ∃ ν', fX11_marginOf_22 N n (I_ t) (I_ (b2 Z)) (I_ (mxs V t Z i.toNat)) (I_ i) ν = some (I_ (x_gr V t Z), ν') ∧ Fr P_rq ν ν' ∧ RKe N V ν' := by
  have hn := hV.1
  unfold vN at hn
  intro d
  induction d with
  | zero =>
    intro n i ν h1 h2 h3 hK
    obtain ⟨n, rfl⟩ : ∃ m, n = m + 1 := ⟨n - 1, by omega⟩
    have hle : fN V ≤ i := by omega
    have hi : i = fN V := by omega
    subst hi
    refine ⟨ν, ?_, Fr.rf, hK⟩
    simp (disch := omega) only [fX11_marginOf_22, Int.reduceEq, Int.reduceNe, Int.reduceLT, Int.reduceLE, Int.reduceAdd, Int.reduceSub, Int.reduceMul, Int.reduceNeg, Int.zero_add, Int.add_zero, nm_eq, bd_some, bv_some, aI_ok, aL_ok, aS_ok, dv_ok, dw_ok, I_add, I_sub, I_mul, I_neg, I_lt, I_le, I_eq, I_nat, J_add, J_sub, J_mul, J_neg, J_lt, J_le, J_eq, I_l, J_i, I_div, J_div, b2_0, b2_1, b2_nar, nar_0, nar_1, zr_0, zr_1, zr_b2, cmp_eq, cmp_le, cmp_lt, cmp_gt, cmp_ge, mx_I, mn_I, mx_L, mn_L, az_I, if_true, if_false, not_true_eq_false, not_false_eq_true, i_0, i_1, i_2, i_3, i_4, i_5, i_6, i_7, i_8, i_9, i_10, i_11, i_12, i_16, i_18, i_20, i_24, i_28, i_29, i_30, i_31, i_32, i_33, i_34, i_35, i_37, i_40, i_41, i_42, i_43, i_45, i_46, i_47, i_48, i_57, i_59, i_63, i_64, i_96, i_97, i_98, i_99, i_100, i_101, i_102, i_103, i_104, i_105, i_106, i_107, i_108, i_109, i_110, i_111, i_112, i_113, i_122, i_200, i_255, i_256, i_257, i_258, i_355, i_400, i_999, i_1000, i_1200, i_5680, i_9999, i_10000, i_99999, j_0, j_1, j_2, j_3, j_4, j_5, j_6, j_9, j_10, j_11, j_98, j_99, j_100, j_999, j_1000, j_9999, j_10000, j_99999, j_1000000, RB_f hK.1, hle]
    rfl
  | succ d ih =>
    intro n i ν h1 h2 h3 hK
    obtain ⟨n, rfl⟩ : ∃ m, n = m + 1 := ⟨n - 1, by omega⟩
    have hle : ¬ fN V ≤ i := by omega
    have hs := hV.2.2.2.2 i h2 (by omega)
    have hmx := mxs_in (V := V) (t := t) (Z := Z) i.toNat
    have hma := x_ma_in (Z := Z) V i t 0
    by_cases hi : s_si V i = 1
    · obtain ⟨ν', e1, e2⟩ := ih n (i + 1) ν (by omega) (by omega) (by omega) hK
      rw [mxs_step h2, if_neg (by omega)] at e1
      refine ⟨ν', ?_, e2⟩
      have hq : 0 ≤ mxs V t Z i.toNat := hmx.1
      simp (disch := omega) only [fX11_marginOf_22, Int.reduceEq, Int.reduceNe, Int.reduceLT, Int.reduceLE, Int.reduceAdd, Int.reduceSub, Int.reduceMul, Int.reduceNeg, Int.zero_add, Int.add_zero, nm_eq, bd_some, bv_some, aI_ok, aL_ok, aS_ok, dv_ok, dw_ok, I_add, I_sub, I_mul, I_neg, I_lt, I_le, I_eq, I_nat, J_add, J_sub, J_mul, J_neg, J_lt, J_le, J_eq, I_l, J_i, I_div, J_div, b2_0, b2_1, b2_nar, nar_0, nar_1, zr_0, zr_1, zr_b2, cmp_eq, cmp_le, cmp_lt, cmp_gt, cmp_ge, mx_I, mn_I, mx_L, mn_L, az_I, if_true, if_false, not_true_eq_false, not_false_eq_true, i_0, i_1, i_2, i_3, i_4, i_5, i_6, i_7, i_8, i_9, i_10, i_11, i_12, i_16, i_18, i_20, i_24, i_28, i_29, i_30, i_31, i_32, i_33, i_34, i_35, i_37, i_40, i_41, i_42, i_43, i_45, i_46, i_47, i_48, i_57, i_59, i_63, i_64, i_96, i_97, i_98, i_99, i_100, i_101, i_102, i_103, i_104, i_105, i_106, i_107, i_108, i_109, i_110, i_111, i_112, i_113, i_122, i_200, i_255, i_256, i_257, i_258, i_355, i_400, i_999, i_1000, i_1200, i_5680, i_9999, i_10000, i_99999, j_0, j_1, j_2, j_3, j_4, j_5, j_6, j_9, j_10, j_11, j_98, j_99, j_100, j_999, j_1000, j_9999, j_10000, j_99999, j_1000000, RB_f hK.1, hle, r_isSil hV hK.1, b2_t hi, fX11_marginOf_52, hq, e1]
    · obtain ⟨ν1, a1, a2, a3⟩ := e_own (N := N) (f := i) (Z := Z) hV hW hN h2 (by omega) t0 t1 hK
      obtain ⟨ν', e1, e2, e3⟩ := ih n (i + 1) ν1 (by omega) (by omega) (by omega) a3
      rw [mxs_step h2, if_pos (by omega)] at e1
      refine ⟨ν', ?_, a2.tr e2, e3⟩
      by_cases hq : x_ma V i t 0 Z ≤ mxs V t Z i.toNat
      · rw [Int.max_eq_left hq] at e1
        simp (disch := omega) only [fX11_marginOf_22, Int.reduceEq, Int.reduceNe, Int.reduceLT, Int.reduceLE, Int.reduceAdd, Int.reduceSub, Int.reduceMul, Int.reduceNeg, Int.zero_add, Int.add_zero, nm_eq, bd_some, bv_some, aI_ok, aL_ok, aS_ok, dv_ok, dw_ok, I_add, I_sub, I_mul, I_neg, I_lt, I_le, I_eq, I_nat, J_add, J_sub, J_mul, J_neg, J_lt, J_le, J_eq, I_l, J_i, I_div, J_div, b2_0, b2_1, b2_nar, nar_0, nar_1, zr_0, zr_1, zr_b2, cmp_eq, cmp_le, cmp_lt, cmp_gt, cmp_ge, mx_I, mn_I, mx_L, mn_L, az_I, if_true, if_false, not_true_eq_false, not_false_eq_true, i_0, i_1, i_2, i_3, i_4, i_5, i_6, i_7, i_8, i_9, i_10, i_11, i_12, i_16, i_18, i_20, i_24, i_28, i_29, i_30, i_31, i_32, i_33, i_34, i_35, i_37, i_40, i_41, i_42, i_43, i_45, i_46, i_47, i_48, i_57, i_59, i_63, i_64, i_96, i_97, i_98, i_99, i_100, i_101, i_102, i_103, i_104, i_105, i_106, i_107, i_108, i_109, i_110, i_111, i_112, i_113, i_122, i_200, i_255, i_256, i_257, i_258, i_355, i_400, i_999, i_1000, i_1200, i_5680, i_9999, i_10000, i_99999, j_0, j_1, j_2, j_3, j_4, j_5, j_6, j_9, j_10, j_11, j_98, j_99, j_100, j_999, j_1000, j_9999, j_10000, j_99999, j_1000000, RB_f hK.1, hle, r_isSil hV hK.1, b2_f hi, a1, fX11_marginOf_52, hq, e1]
      · rw [Int.max_eq_right (by omega)] at e1
        simp (disch := omega) only [fX11_marginOf_22, Int.reduceEq, Int.reduceNe, Int.reduceLT, Int.reduceLE, Int.reduceAdd, Int.reduceSub, Int.reduceMul, Int.reduceNeg, Int.zero_add, Int.add_zero, nm_eq, bd_some, bv_some, aI_ok, aL_ok, aS_ok, dv_ok, dw_ok, I_add, I_sub, I_mul, I_neg, I_lt, I_le, I_eq, I_nat, J_add, J_sub, J_mul, J_neg, J_lt, J_le, J_eq, I_l, J_i, I_div, J_div, b2_0, b2_1, b2_nar, nar_0, nar_1, zr_0, zr_1, zr_b2, cmp_eq, cmp_le, cmp_lt, cmp_gt, cmp_ge, mx_I, mn_I, mx_L, mn_L, az_I, if_true, if_false, not_true_eq_false, not_false_eq_true, i_0, i_1, i_2, i_3, i_4, i_5, i_6, i_7, i_8, i_9, i_10, i_11, i_12, i_16, i_18, i_20, i_24, i_28, i_29, i_30, i_31, i_32, i_33, i_34, i_35, i_37, i_40, i_41, i_42, i_43, i_45, i_46, i_47, i_48, i_57, i_59, i_63, i_64, i_96, i_97, i_98, i_99, i_100, i_101, i_102, i_103, i_104, i_105, i_106, i_107, i_108, i_109, i_110, i_111, i_112, i_113, i_122, i_200, i_255, i_256, i_257, i_258, i_355, i_400, i_999, i_1000, i_1200, i_5680, i_9999, i_10000, i_99999, j_0, j_1, j_2, j_3, j_4, j_5, j_6, j_9, j_10, j_11, j_98, j_99, j_100, j_999, j_1000, j_9999, j_10000, j_99999, j_1000000, RB_f hK.1, hle, r_isSil hV hK.1, b2_f hi, a1, fX11_marginOf_52, hq, e1]
theorem e_tm {Z : Prop} [Decidable Z] (hV : vB V) (hW : vO V) (hN : 100 ≤ N) (f0 : 0 ≤ f) (f1 : f < fN V) (t0 : 0 ≤ t) (t1 : t ≤ 2) (hK : RKe N V ν) : ∃ ν', fX11_marginOf N (I_ f) (I_ t) (I_ (b2 Z)) ν = some (I_ (x_tm V f t Z), ν') ∧ Fr P_rq ν ν' ∧ RKe N V ν' := by
  have hn := hV.1
  unfold vN at hn
  have hs := hV.2.2.2.2 f f0 (by omega)
  unfold x_tm
  by_cases hi : s_si V f = 1
  · obtain ⟨ν', e1, e2⟩ := e_mo22 (N := N) (Z := Z) hV hW hN t0 t1 (fN V).toNat N 0 ν (by omega) (by omega) (by omega) hK
    have e1 : fX11_marginOf_22 N N (I_ t) (I_ (b2 Z)) (I_ 0) (I_ 0) ν = some (I_ (x_gr V t Z), ν') := e1
    refine ⟨ν', ?_, e2⟩
    rw [if_neg (by omega)]
    simp (disch := omega) only [fX11_marginOf, Int.reduceEq, Int.reduceNe, Int.reduceLT, Int.reduceLE, Int.reduceAdd, Int.reduceSub, Int.reduceMul, Int.reduceNeg, Int.zero_add, Int.add_zero, nm_eq, bd_some, bv_some, aI_ok, aL_ok, aS_ok, dv_ok, dw_ok, I_add, I_sub, I_mul, I_neg, I_lt, I_le, I_eq, I_nat, J_add, J_sub, J_mul, J_neg, J_lt, J_le, J_eq, I_l, J_i, I_div, J_div, b2_0, b2_1, b2_nar, nar_0, nar_1, zr_0, zr_1, zr_b2, cmp_eq, cmp_le, cmp_lt, cmp_gt, cmp_ge, mx_I, mn_I, mx_L, mn_L, az_I, if_true, if_false, not_true_eq_false, not_false_eq_true, i_0, i_1, i_2, i_3, i_4, i_5, i_6, i_7, i_8, i_9, i_10, i_11, i_12, i_16, i_18, i_20, i_24, i_28, i_29, i_30, i_31, i_32, i_33, i_34, i_35, i_37, i_40, i_41, i_42, i_43, i_45, i_46, i_47, i_48, i_57, i_59, i_63, i_64, i_96, i_97, i_98, i_99, i_100, i_101, i_102, i_103, i_104, i_105, i_106, i_107, i_108, i_109, i_110, i_111, i_112, i_113, i_122, i_200, i_255, i_256, i_257, i_258, i_355, i_400, i_999, i_1000, i_1200, i_5680, i_9999, i_10000, i_99999, j_0, j_1, j_2, j_3, j_4, j_5, j_6, j_9, j_10, j_11, j_98, j_99, j_100, j_999, j_1000, j_9999, j_10000, j_99999, j_1000000, r_isSil hV hK.1, b2_t hi, e1]
  · obtain ⟨ν1, a1, a2⟩ := e_own (N := N) (f := f) (Z := Z) hV hW hN f0 (by omega) t0 t1 hK
    refine ⟨ν1, ?_, a2⟩
    rw [if_pos (by omega)]
    simp (disch := omega) only [fX11_marginOf, Int.reduceEq, Int.reduceNe, Int.reduceLT, Int.reduceLE, Int.reduceAdd, Int.reduceSub, Int.reduceMul, Int.reduceNeg, Int.zero_add, Int.add_zero, nm_eq, bd_some, bv_some, aI_ok, aL_ok, aS_ok, dv_ok, dw_ok, I_add, I_sub, I_mul, I_neg, I_lt, I_le, I_eq, I_nat, J_add, J_sub, J_mul, J_neg, J_lt, J_le, J_eq, I_l, J_i, I_div, J_div, b2_0, b2_1, b2_nar, nar_0, nar_1, zr_0, zr_1, zr_b2, cmp_eq, cmp_le, cmp_lt, cmp_gt, cmp_ge, mx_I, mn_I, mx_L, mn_L, az_I, if_true, if_false, not_true_eq_false, not_false_eq_true, i_0, i_1, i_2, i_3, i_4, i_5, i_6, i_7, i_8, i_9, i_10, i_11, i_12, i_16, i_18, i_20, i_24, i_28, i_29, i_30, i_31, i_32, i_33, i_34, i_35, i_37, i_40, i_41, i_42, i_43, i_45, i_46, i_47, i_48, i_57, i_59, i_63, i_64, i_96, i_97, i_98, i_99, i_100, i_101, i_102, i_103, i_104, i_105, i_106, i_107, i_108, i_109, i_110, i_111, i_112, i_113, i_122, i_200, i_255, i_256, i_257, i_258, i_355, i_400, i_999, i_1000, i_1200, i_5680, i_9999, i_10000, i_99999, j_0, j_1, j_2, j_3, j_4, j_5, j_6, j_9, j_10, j_11, j_98, j_99, j_100, j_999, j_1000, j_9999, j_10000, j_99999, j_1000000, r_isSil hV hK.1, b2_f hi, a1]
theorem e_tn (hV : vB V) (hW : vO V) (hN : 100 ≤ N) (f0 : 0 ≤ f) (f1 : f < fN V) (hK : RKe N V ν) : ∃ ν', fX11_toldMargin N (I_ f) ν = some (I_ (x_tn V f), ν') ∧ Fr P_rq ν ν' ∧ RKe N V ν' := by
  have hn := hV.1
  unfold vN at hn
  have se0 : ν.1 1 (28 : Int).toNat = I_ (s_se V 0) := RB_se hK.1 (k := 0) (by omega) (by omega)
  obtain ⟨ν', e1, e2⟩ := e_tm (N := N) (t := s_se V 0) (Z := (s_se V 1 = 1)) hV hW hN f0 f1 (by omega) (by omega) hK
  refine ⟨ν', ?_, e2⟩
  unfold x_tn
  simp (disch := omega) only [fX11_toldMargin, Int.reduceEq, Int.reduceNe, Int.reduceLT, Int.reduceLE, Int.reduceAdd, Int.reduceSub, Int.reduceMul, Int.reduceNeg, Int.zero_add, Int.add_zero, nm_eq, bd_some, bv_some, aI_ok, aL_ok, aS_ok, dv_ok, dw_ok, I_add, I_sub, I_mul, I_neg, I_lt, I_le, I_eq, I_nat, J_add, J_sub, J_mul, J_neg, J_lt, J_le, J_eq, I_l, J_i, I_div, J_div, b2_0, b2_1, b2_nar, nar_0, nar_1, zr_0, zr_1, zr_b2, cmp_eq, cmp_le, cmp_lt, cmp_gt, cmp_ge, mx_I, mn_I, mx_L, mn_L, az_I, if_true, if_false, not_true_eq_false, not_false_eq_true, i_0, i_1, i_2, i_3, i_4, i_5, i_6, i_7, i_8, i_9, i_10, i_11, i_12, i_16, i_18, i_20, i_24, i_28, i_29, i_30, i_31, i_32, i_33, i_34, i_35, i_37, i_40, i_41, i_42, i_43, i_45, i_46, i_47, i_48, i_57, i_59, i_63, i_64, i_96, i_97, i_98, i_99, i_100, i_101, i_102, i_103, i_104, i_105, i_106, i_107, i_108, i_109, i_110, i_111, i_112, i_113, i_122, i_200, i_255, i_256, i_257, i_258, i_355, i_400, i_999, i_1000, i_1200, i_5680, i_9999, i_10000, i_99999, j_0, j_1, j_2, j_3, j_4, j_5, j_6, j_9, j_10, j_11, j_98, j_99, j_100, j_999, j_1000, j_9999, j_10000, j_99999, j_1000000, se0, r_isZ hV hK.1, e1]
theorem e_ra (hV : vB V) (hW : vO V) (hN : 100 ≤ N) (f0 : 0 ≤ f) (f1 : f < fN V) (hK : RKe N V ν) : ∃ ν', fX11_rateOf N (I_ f) ν = some (I_ (x_ra V f), ν') ∧ Fr P_rq ν ν' ∧ RKe N V ν' := by
  have hn := hV.1
  unfold vN at hn
  have hR := hK.1
  have hx := x_mn_in hV f 1
  unfold x_ra
  by_cases hg : p_ng V f
  · rw [if_pos (Or.inl hg)]
    refine ⟨ν, ?_, Fr.rf, hK⟩
    simp (disch := omega) only [fX11_rateOf, Int.reduceEq, Int.reduceNe, Int.reduceLT, Int.reduceLE, Int.reduceAdd, Int.reduceSub, Int.reduceMul, Int.reduceNeg, Int.zero_add, Int.add_zero, nm_eq, bd_some, bv_some, aI_ok, aL_ok, aS_ok, dv_ok, dw_ok, I_add, I_sub, I_mul, I_neg, I_lt, I_le, I_eq, I_nat, J_add, J_sub, J_mul, J_neg, J_lt, J_le, J_eq, I_l, J_i, I_div, J_div, b2_0, b2_1, b2_nar, nar_0, nar_1, zr_0, zr_1, zr_b2, cmp_eq, cmp_le, cmp_lt, cmp_gt, cmp_ge, mx_I, mn_I, mx_L, mn_L, az_I, if_true, if_false, not_true_eq_false, not_false_eq_true, i_0, i_1, i_2, i_3, i_4, i_5, i_6, i_7, i_8, i_9, i_10, i_11, i_12, i_16, i_18, i_20, i_24, i_28, i_29, i_30, i_31, i_32, i_33, i_34, i_35, i_37, i_40, i_41, i_42, i_43, i_45, i_46, i_47, i_48, i_57, i_59, i_63, i_64, i_96, i_97, i_98, i_99, i_100, i_101, i_102, i_103, i_104, i_105, i_106, i_107, i_108, i_109, i_110, i_111, i_112, i_113, i_122, i_200, i_255, i_256, i_257, i_258, i_355, i_400, i_999, i_1000, i_1200, i_5680, i_9999, i_10000, i_99999, j_0, j_1, j_2, j_3, j_4, j_5, j_6, j_9, j_10, j_11, j_98, j_99, j_100, j_999, j_1000, j_9999, j_10000, j_99999, j_1000000, r_ng hV hN hR, b2_t hg]
  · by_cases hz : x_mn V f 1 = 0
    · rw [if_pos (Or.inr (Or.inl hz))]
      refine ⟨ν, ?_, Fr.rf, hK⟩
      simp (disch := omega) only [fX11_rateOf, Int.reduceEq, Int.reduceNe, Int.reduceLT, Int.reduceLE, Int.reduceAdd, Int.reduceSub, Int.reduceMul, Int.reduceNeg, Int.zero_add, Int.add_zero, nm_eq, bd_some, bv_some, aI_ok, aL_ok, aS_ok, dv_ok, dw_ok, I_add, I_sub, I_mul, I_neg, I_lt, I_le, I_eq, I_nat, J_add, J_sub, J_mul, J_neg, J_lt, J_le, J_eq, I_l, J_i, I_div, J_div, b2_0, b2_1, b2_nar, nar_0, nar_1, zr_0, zr_1, zr_b2, cmp_eq, cmp_le, cmp_lt, cmp_gt, cmp_ge, mx_I, mn_I, mx_L, mn_L, az_I, if_true, if_false, not_true_eq_false, not_false_eq_true, i_0, i_1, i_2, i_3, i_4, i_5, i_6, i_7, i_8, i_9, i_10, i_11, i_12, i_16, i_18, i_20, i_24, i_28, i_29, i_30, i_31, i_32, i_33, i_34, i_35, i_37, i_40, i_41, i_42, i_43, i_45, i_46, i_47, i_48, i_57, i_59, i_63, i_64, i_96, i_97, i_98, i_99, i_100, i_101, i_102, i_103, i_104, i_105, i_106, i_107, i_108, i_109, i_110, i_111, i_112, i_113, i_122, i_200, i_255, i_256, i_257, i_258, i_355, i_400, i_999, i_1000, i_1200, i_5680, i_9999, i_10000, i_99999, j_0, j_1, j_2, j_3, j_4, j_5, j_6, j_9, j_10, j_11, j_98, j_99, j_100, j_999, j_1000, j_9999, j_10000, j_99999, j_1000000, r_ng hV hN hR, b2_f hg, r_many hV hN hR, hz]
    · obtain ⟨ν', e1, e2⟩ := e_tn (N := N) hV hW hN f0 f1 hK
      have ht : 0 ≤ x_tn V f ∧ x_tn V f ≤ 99999 := x_tm_in
      refine ⟨ν', ?_, e2⟩
      by_cases hl : x_tn V f < 200
      · have hl' : ¬ 200 ≤ x_tn V f := by omega
        rw [if_pos (Or.inr (Or.inr hl))]
        simp (disch := omega) only [fX11_rateOf, Int.reduceEq, Int.reduceNe, Int.reduceLT, Int.reduceLE, Int.reduceAdd, Int.reduceSub, Int.reduceMul, Int.reduceNeg, Int.zero_add, Int.add_zero, nm_eq, bd_some, bv_some, aI_ok, aL_ok, aS_ok, dv_ok, dw_ok, I_add, I_sub, I_mul, I_neg, I_lt, I_le, I_eq, I_nat, J_add, J_sub, J_mul, J_neg, J_lt, J_le, J_eq, I_l, J_i, I_div, J_div, b2_0, b2_1, b2_nar, nar_0, nar_1, zr_0, zr_1, zr_b2, cmp_eq, cmp_le, cmp_lt, cmp_gt, cmp_ge, mx_I, mn_I, mx_L, mn_L, az_I, if_true, if_false, not_true_eq_false, not_false_eq_true, i_0, i_1, i_2, i_3, i_4, i_5, i_6, i_7, i_8, i_9, i_10, i_11, i_12, i_16, i_18, i_20, i_24, i_28, i_29, i_30, i_31, i_32, i_33, i_34, i_35, i_37, i_40, i_41, i_42, i_43, i_45, i_46, i_47, i_48, i_57, i_59, i_63, i_64, i_96, i_97, i_98, i_99, i_100, i_101, i_102, i_103, i_104, i_105, i_106, i_107, i_108, i_109, i_110, i_111, i_112, i_113, i_122, i_200, i_255, i_256, i_257, i_258, i_355, i_400, i_999, i_1000, i_1200, i_5680, i_9999, i_10000, i_99999, j_0, j_1, j_2, j_3, j_4, j_5, j_6, j_9, j_10, j_11, j_98, j_99, j_100, j_999, j_1000, j_9999, j_10000, j_99999, j_1000000, r_ng hV hN hR, b2_f hg, r_many hV hN hR, hz, e1, hl']
      · have hl' : 200 ≤ x_tn V f := by omega
        rw [if_neg (fun q => q.elim hg (fun q => q.elim hz hl))]
        simp (disch := omega) only [fX11_rateOf, Int.reduceEq, Int.reduceNe, Int.reduceLT, Int.reduceLE, Int.reduceAdd, Int.reduceSub, Int.reduceMul, Int.reduceNeg, Int.zero_add, Int.add_zero, nm_eq, bd_some, bv_some, aI_ok, aL_ok, aS_ok, dv_ok, dw_ok, I_add, I_sub, I_mul, I_neg, I_lt, I_le, I_eq, I_nat, J_add, J_sub, J_mul, J_neg, J_lt, J_le, J_eq, I_l, J_i, I_div, J_div, b2_0, b2_1, b2_nar, nar_0, nar_1, zr_0, zr_1, zr_b2, cmp_eq, cmp_le, cmp_lt, cmp_gt, cmp_ge, mx_I, mn_I, mx_L, mn_L, az_I, if_true, if_false, not_true_eq_false, not_false_eq_true, i_0, i_1, i_2, i_3, i_4, i_5, i_6, i_7, i_8, i_9, i_10, i_11, i_12, i_16, i_18, i_20, i_24, i_28, i_29, i_30, i_31, i_32, i_33, i_34, i_35, i_37, i_40, i_41, i_42, i_43, i_45, i_46, i_47, i_48, i_57, i_59, i_63, i_64, i_96, i_97, i_98, i_99, i_100, i_101, i_102, i_103, i_104, i_105, i_106, i_107, i_108, i_109, i_110, i_111, i_112, i_113, i_122, i_200, i_255, i_256, i_257, i_258, i_355, i_400, i_999, i_1000, i_1200, i_5680, i_9999, i_10000, i_99999, j_0, j_1, j_2, j_3, j_4, j_5, j_6, j_9, j_10, j_11, j_98, j_99, j_100, j_999, j_1000, j_9999, j_10000, j_99999, j_1000000, r_ng hV hN hR, b2_f hg, r_many hV hN hR, hz, e1, hl']
end
