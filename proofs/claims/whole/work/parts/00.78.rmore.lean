/-! others, undertaking, picked, deposits, owed, back of the reference: their cores. -/
section
variable {N : Nat} {V : Vw} {ν : Mem} {f t : Int}
theorem val_lay {x : Int32} {y : Int64} {ν1 : Mem} (h : fX11_lays N ν = some ((), ν1)) (h1 : fX11_lays N ν1 = some ((), ν1)) : fX11_valueBy N x y ν = fX11_valueBy N x y ν1 := by
  unfold fX11_valueBy
  rw [h, h1]
theorem r_valK (hV : vB V) (hW : vO V) (hN : 100 ≤ N) (f0 : 0 ≤ f) (f1 : f < 4) (hK : RKd N V ν) : ∃ ν', fX11_valueBy N (I_ f) (J_ 0) ν = some (J_ (x_val V f), ν') ∧ Fr P_rq ν ν' ∧ RKd N V ν' := by
  obtain ⟨ν1, a1, a2, a3, a4⟩ := r_lay hV hW hN hK
  have e := r_val (N := N) (r := 0) hV hN a3 f0 f1
  rw [show x_val V f + 1000 * 0 * x_mn V f 1 = x_val V f by omega] at e
  exact ⟨ν1, by rw [val_lay a1 a4]; exact e, a2, hK.laid a2 a3⟩
theorem r_ot12 (hV : vB V) (hW : vO V) (hN : 100 ≤ N) : ∀ (d n : Nat) (i : Int) (ν : Mem), d < n → 0 ≤ i → i + d = fN V → RKd N V ν → ∃ ν', fX11_others_12 N n (J_ (sg i.toNat 0 (g_or V))) (J_ (sg i.toNat 0 (g_ov V))) (I_ i) ν = some (I_ (x_ot V), ν') ∧ Fr P_rq ν ν' ∧ RKd N V ν' := by
  have hn := hV.1
  unfold vN at hn
  intro d
  induction d with
  | zero =>
    intro n i ν h1 h2 h3 hK
    obtain ⟨n, rfl⟩ : ∃ m, n = m + 1 := ⟨n - 1, by omega⟩
    have hle : fN V ≤ i := by omega
    have hi : i = fN V := by omega
    subst hi
    have e1 : sg (fN V).toNat 0 (g_or V) = x_or V := rfl
    have e2 : sg (fN V).toNat 0 (g_ov V) = x_ov V := rfl
    have a := x_or_in hV
    have c := x_ov_in hV
    refine ⟨ν, ?_, Fr.rf, hK⟩
    unfold x_ot
    by_cases hz : x_ov V = 0
    · rw [if_pos hz]
      simp (disch := omega) only [fX11_others_12, fX11_others_90, Int.reduceEq, Int.reduceNe, Int.reduceLT, Int.reduceLE, Int.reduceAdd, Int.reduceSub, Int.reduceMul, Int.reduceNeg, Int.zero_add, Int.add_zero, nm_eq, bd_some, bv_some, aI_ok, aL_ok, aS_ok, dv_ok, dw_ok, I_add, I_sub, I_mul, I_neg, I_lt, I_le, I_eq, I_nat, J_add, J_sub, J_mul, J_neg, J_lt, J_le, J_eq, I_l, J_i, I_div, J_div, b2_0, b2_1, b2_nar, nar_0, nar_1, zr_0, zr_1, zr_b2, cmp_eq, cmp_le, cmp_lt, cmp_gt, cmp_ge, mx_I, mn_I, mx_L, mn_L, az_I, if_true, if_false, not_true_eq_false, not_false_eq_true, i_0, i_1, i_2, i_3, i_4, i_5, i_6, i_7, i_8, i_9, i_10, i_11, i_12, i_16, i_18, i_20, i_24, i_28, i_29, i_30, i_31, i_32, i_33, i_34, i_35, i_37, i_40, i_41, i_42, i_43, i_45, i_46, i_47, i_48, i_57, i_59, i_63, i_64, i_96, i_97, i_98, i_99, i_100, i_101, i_102, i_103, i_104, i_105, i_106, i_107, i_108, i_109, i_110, i_111, i_112, i_113, i_122, i_200, i_255, i_256, i_257, i_258, i_355, i_400, i_999, i_1000, i_1200, i_5680, i_9999, i_10000, i_99999, j_0, j_1, j_2, j_3, j_4, j_5, j_6, j_9, j_10, j_11, j_98, j_99, j_100, j_999, j_1000, j_9999, j_10000, j_99999, j_1000000, RB_f hK.1, hle, e1, e2, hz]
    · rw [if_neg hz]
      simp (disch := omega) only [fX11_others_12, fX11_others_90, Int.reduceEq, Int.reduceNe, Int.reduceLT, Int.reduceLE, Int.reduceAdd, Int.reduceSub, Int.reduceMul, Int.reduceNeg, Int.zero_add, Int.add_zero, nm_eq, bd_some, bv_some, aI_ok, aL_ok, aS_ok, dv_ok, dw_ok, I_add, I_sub, I_mul, I_neg, I_lt, I_le, I_eq, I_nat, J_add, J_sub, J_mul, J_neg, J_lt, J_le, J_eq, I_l, J_i, I_div, J_div, b2_0, b2_1, b2_nar, nar_0, nar_1, zr_0, zr_1, zr_b2, cmp_eq, cmp_le, cmp_lt, cmp_gt, cmp_ge, mx_I, mn_I, mx_L, mn_L, az_I, if_true, if_false, not_true_eq_false, not_false_eq_true, i_0, i_1, i_2, i_3, i_4, i_5, i_6, i_7, i_8, i_9, i_10, i_11, i_12, i_16, i_18, i_20, i_24, i_28, i_29, i_30, i_31, i_32, i_33, i_34, i_35, i_37, i_40, i_41, i_42, i_43, i_45, i_46, i_47, i_48, i_57, i_59, i_63, i_64, i_96, i_97, i_98, i_99, i_100, i_101, i_102, i_103, i_104, i_105, i_106, i_107, i_108, i_109, i_110, i_111, i_112, i_113, i_122, i_200, i_255, i_256, i_257, i_258, i_355, i_400, i_999, i_1000, i_1200, i_5680, i_9999, i_10000, i_99999, j_0, j_1, j_2, j_3, j_4, j_5, j_6, j_9, j_10, j_11, j_98, j_99, j_100, j_999, j_1000, j_9999, j_10000, j_99999, j_1000000, RB_f hK.1, hle, e1, e2, hz]
  | succ d ih =>
    intro n i ν h1 h2 h3 hK
    obtain ⟨n, rfl⟩ : ∃ m, n = m + 1 := ⟨n - 1, by omega⟩
    have hle : ¬ fN V ≤ i := by omega
    have hs := hV.2.2.2.2 i h2 (by omega)
    by_cases hi : s_si V i = 1
    · have hp : ¬ p_or V i := fun q => by have := q.1; omega
      have z1 : g_or V i = 0 := by unfold g_or; rw [if_neg hp]
      have z2 : g_ov V i = 0 := by unfold g_ov; rw [if_neg hp]
      obtain ⟨ν', e1, e2⟩ := ih n (i + 1) ν (by omega) (by omega) (by omega) hK
      rw [sg_step h2, sg_step h2, z1, z2, Int.add_zero, Int.add_zero] at e1
      refine ⟨ν', ?_, e2⟩
      simp (disch := omega) only [fX11_others_12, fX11_others_40, fX11_others_63, Int.reduceEq, Int.reduceNe, Int.reduceLT, Int.reduceLE, Int.reduceAdd, Int.reduceSub, Int.reduceMul, Int.reduceNeg, Int.zero_add, Int.add_zero, nm_eq, bd_some, bv_some, aI_ok, aL_ok, aS_ok, dv_ok, dw_ok, I_add, I_sub, I_mul, I_neg, I_lt, I_le, I_eq, I_nat, J_add, J_sub, J_mul, J_neg, J_lt, J_le, J_eq, I_l, J_i, I_div, J_div, b2_0, b2_1, b2_nar, nar_0, nar_1, zr_0, zr_1, zr_b2, cmp_eq, cmp_le, cmp_lt, cmp_gt, cmp_ge, mx_I, mn_I, mx_L, mn_L, az_I, if_true, if_false, not_true_eq_false, not_false_eq_true, i_0, i_1, i_2, i_3, i_4, i_5, i_6, i_7, i_8, i_9, i_10, i_11, i_12, i_16, i_18, i_20, i_24, i_28, i_29, i_30, i_31, i_32, i_33, i_34, i_35, i_37, i_40, i_41, i_42, i_43, i_45, i_46, i_47, i_48, i_57, i_59, i_63, i_64, i_96, i_97, i_98, i_99, i_100, i_101, i_102, i_103, i_104, i_105, i_106, i_107, i_108, i_109, i_110, i_111, i_112, i_113, i_122, i_200, i_255, i_256, i_257, i_258, i_355, i_400, i_999, i_1000, i_1200, i_5680, i_9999, i_10000, i_99999, j_0, j_1, j_2, j_3, j_4, j_5, j_6, j_9, j_10, j_11, j_98, j_99, j_100, j_999, j_1000, j_9999, j_10000, j_99999, j_1000000, RB_f hK.1, hle, r_isSil hV hK.1, b2_t hi, e1]
    · obtain ⟨ν1, a1, a2, a3⟩ := r_ra (N := N) (f := i) hV hW hN h2 (by omega) hK
      have hr := x_ra_in (V := V) (f := i)
      by_cases hz : x_ra V i = 0
      · have hp : ¬ p_or V i := fun q => by have := q.2; omega
        have z1 : g_or V i = 0 := by unfold g_or; rw [if_neg hp]
        have z2 : g_ov V i = 0 := by unfold g_ov; rw [if_neg hp]
        obtain ⟨ν', e1, e2, e3⟩ := ih n (i + 1) ν1 (by omega) (by omega) (by omega) a3
        rw [sg_step h2, sg_step h2, z1, z2, Int.add_zero, Int.add_zero] at e1
        rw [hz] at a1
        refine ⟨ν', ?_, a2.tr e2, e3⟩
        simp (disch := omega) only [fX11_others_12, fX11_others_40, fX11_others_63, Int.reduceEq, Int.reduceNe, Int.reduceLT, Int.reduceLE, Int.reduceAdd, Int.reduceSub, Int.reduceMul, Int.reduceNeg, Int.zero_add, Int.add_zero, nm_eq, bd_some, bv_some, aI_ok, aL_ok, aS_ok, dv_ok, dw_ok, I_add, I_sub, I_mul, I_neg, I_lt, I_le, I_eq, I_nat, J_add, J_sub, J_mul, J_neg, J_lt, J_le, J_eq, I_l, J_i, I_div, J_div, b2_0, b2_1, b2_nar, nar_0, nar_1, zr_0, zr_1, zr_b2, cmp_eq, cmp_le, cmp_lt, cmp_gt, cmp_ge, mx_I, mn_I, mx_L, mn_L, az_I, if_true, if_false, not_true_eq_false, not_false_eq_true, i_0, i_1, i_2, i_3, i_4, i_5, i_6, i_7, i_8, i_9, i_10, i_11, i_12, i_16, i_18, i_20, i_24, i_28, i_29, i_30, i_31, i_32, i_33, i_34, i_35, i_37, i_40, i_41, i_42, i_43, i_45, i_46, i_47, i_48, i_57, i_59, i_63, i_64, i_96, i_97, i_98, i_99, i_100, i_101, i_102, i_103, i_104, i_105, i_106, i_107, i_108, i_109, i_110, i_111, i_112, i_113, i_122, i_200, i_255, i_256, i_257, i_258, i_355, i_400, i_999, i_1000, i_1200, i_5680, i_9999, i_10000, i_99999, j_0, j_1, j_2, j_3, j_4, j_5, j_6, j_9, j_10, j_11, j_98, j_99, j_100, j_999, j_1000, j_9999, j_10000, j_99999, j_1000000, RB_f hK.1, hle, r_isSil hV hK.1, b2_f hi, a1, e1]
      · have hp : p_or V i := ⟨by omega, by omega⟩
        have z1 : g_or V i = x_ra V i * x_val V i := by unfold g_or; rw [if_pos hp]
        have z2 : g_ov V i = x_val V i := by unfold g_ov; rw [if_pos hp]
        obtain ⟨ν2, c1, c2, c3⟩ := r_valK (N := N) (f := i) hV hW hN h2 (by omega) a3
        obtain ⟨ν3, d1, d2, d3⟩ := r_valK (N := N) (f := i) hV hW hN h2 (by omega) c3
        obtain ⟨ν', e1, e2, e3⟩ := ih n (i + 1) ν3 (by omega) (by omega) (by omega) d3
        rw [sg_step h2, sg_step h2, z1, z2] at e1
        refine ⟨ν', ?_, ((a2.tr c2).tr d2).tr e2, e3⟩
        simp (disch := omega) only [fX11_others_12, fX11_others_40, fX11_others_63, Int.reduceEq, Int.reduceNe, Int.reduceLT, Int.reduceLE, Int.reduceAdd, Int.reduceSub, Int.reduceMul, Int.reduceNeg, Int.zero_add, Int.add_zero, nm_eq, bd_some, bv_some, aI_ok, aL_ok, aS_ok, dv_ok, dw_ok, I_add, I_sub, I_mul, I_neg, I_lt, I_le, I_eq, I_nat, J_add, J_sub, J_mul, J_neg, J_lt, J_le, J_eq, I_l, J_i, I_div, J_div, b2_0, b2_1, b2_nar, nar_0, nar_1, zr_0, zr_1, zr_b2, cmp_eq, cmp_le, cmp_lt, cmp_gt, cmp_ge, mx_I, mn_I, mx_L, mn_L, az_I, if_true, if_false, not_true_eq_false, not_false_eq_true, i_0, i_1, i_2, i_3, i_4, i_5, i_6, i_7, i_8, i_9, i_10, i_11, i_12, i_16, i_18, i_20, i_24, i_28, i_29, i_30, i_31, i_32, i_33, i_34, i_35, i_37, i_40, i_41, i_42, i_43, i_45, i_46, i_47, i_48, i_57, i_59, i_63, i_64, i_96, i_97, i_98, i_99, i_100, i_101, i_102, i_103, i_104, i_105, i_106, i_107, i_108, i_109, i_110, i_111, i_112, i_113, i_122, i_200, i_255, i_256, i_257, i_258, i_355, i_400, i_999, i_1000, i_1200, i_5680, i_9999, i_10000, i_99999, j_0, j_1, j_2, j_3, j_4, j_5, j_6, j_9, j_10, j_11, j_98, j_99, j_100, j_999, j_1000, j_9999, j_10000, j_99999, j_1000000, RB_f hK.1, hle, r_isSil hV hK.1, b2_f hi, a1, hz, c1, d1, e1]
/-- the method whose margin is greatest, or least -/
def me1 (V : Vw) (f : Int) (G : Prop) [Decidable G] (m best : Int) : Int := if (if G then x_tm V f best (s_se V 1 = 1) < x_tm V f m (s_se V 1 = 1) else x_tm V f m (s_se V 1 = 1) < x_tm V f best (s_se V 1 = 1)) then m else best
def x_me (V : Vw) (f : Int) (G : Prop) [Decidable G] : Int := me1 V f G 2 (me1 V f G 1 0)
theorem r_me {G : Prop} [Decidable G] (hV : vB V) (hW : vO V) (hN : 100 ≤ N) (f0 : 0 ≤ f) (f1 : f < fN V) {w : Int} (hw : (w = 0 ∧ G) ∨ (w = 1 ∧ ¬ G)) : ∀ (d n : Nat) (m best : Int) (ν : Mem), d < n → 1 ≤ m → m + d = 3 → 0 ≤ best → best < m → RKd N V ν → ∃ ν', fX11_method_57 N n (I_ f) (I_ w) (I_ best) (I_ (x_tm V f best (s_se V 1 = 1))) (I_ m) ν = some (I_ (if d = 0 then best else if d = 1 then me1 V f G m best else me1 V f G (m + 1) (me1 V f G m best)), ν') ∧ Fr P_rq ν ν' ∧ RKd N V ν' := by
  intro d
  induction d with
  | zero =>
    intro n m best ν h1 h2 h3 h4 h5 hK
    obtain ⟨n, rfl⟩ : ∃ m, n = m + 1 := ⟨n - 1, by omega⟩
    have hle : 3 ≤ m := by omega
    refine ⟨ν, ?_, Fr.rf, hK⟩
    rw [if_pos rfl]
    have b3 : best < 3 := by omega
    simp (disch := omega) only [fX11_method_57, Int.reduceEq, Int.reduceNe, Int.reduceLT, Int.reduceLE, Int.reduceAdd, Int.reduceSub, Int.reduceMul, Int.reduceNeg, Int.zero_add, Int.add_zero, nm_eq, bd_some, bv_some, aI_ok, aL_ok, aS_ok, dv_ok, dw_ok, I_add, I_sub, I_mul, I_neg, I_lt, I_le, I_eq, I_nat, J_add, J_sub, J_mul, J_neg, J_lt, J_le, J_eq, I_l, J_i, I_div, J_div, b2_0, b2_1, b2_nar, nar_0, nar_1, zr_0, zr_1, zr_b2, cmp_eq, cmp_le, cmp_lt, cmp_gt, cmp_ge, mx_I, mn_I, mx_L, mn_L, az_I, if_true, if_false, not_true_eq_false, not_false_eq_true, i_0, i_1, i_2, i_3, i_4, i_5, i_6, i_7, i_8, i_9, i_10, i_11, i_12, i_16, i_18, i_20, i_24, i_28, i_29, i_30, i_31, i_32, i_33, i_34, i_35, i_37, i_40, i_41, i_42, i_43, i_45, i_46, i_47, i_48, i_57, i_59, i_63, i_64, i_96, i_97, i_98, i_99, i_100, i_101, i_102, i_103, i_104, i_105, i_106, i_107, i_108, i_109, i_110, i_111, i_112, i_113, i_122, i_200, i_255, i_256, i_257, i_258, i_355, i_400, i_999, i_1000, i_1200, i_5680, i_9999, i_10000, i_99999, j_0, j_1, j_2, j_3, j_4, j_5, j_6, j_9, j_10, j_11, j_98, j_99, j_100, j_999, j_1000, j_9999, j_10000, j_99999, j_1000000, hle]
  | succ d ih =>
    intro n m best ν h1 h2 h3 h4 h5 hK
    obtain ⟨n, rfl⟩ : ∃ m, n = m + 1 := ⟨n - 1, by omega⟩
    have hle : ¬ 3 ≤ m := by omega
    obtain ⟨ν1, a1, a2, a3⟩ := r_tm (N := N) (t := m) (Z := (s_se V 1 = 1)) hV hW hN f0 f1 (by omega) (by omega) hK
    have x1 := x_tm_in (V := V) (f := f) (t := m) (Z := (s_se V 1 = 1))
    have x2 := x_tm_in (V := V) (f := f) (t := best) (Z := (s_se V 1 = 1))
    obtain ⟨ν', e1, e2, e3⟩ := ih n (m + 1) (me1 V f G m best) ν1 (by omega) (by omega) (by omega) (by unfold me1; split <;> omega) (by unfold me1; split <;> omega) a3
    have ee : (if d = 0 then me1 V f G m best else if d = 1 then me1 V f G (m + 1) (me1 V f G m best) else me1 V f G (m + 1 + 1) (me1 V f G (m + 1) (me1 V f G m best))) = (if d + 1 = 0 then best else if d + 1 = 1 then me1 V f G m best else me1 V f G (m + 1) (me1 V f G m best)) := by
      rcases (show d = 0 ∨ d = 1 by omega) with r | r <;> subst r <;> simp
    rw [ee] at e1
    refine ⟨ν', ?_, a2.tr e2, e3⟩
    rw [← e1]
    rcases hw with ⟨hw, hG⟩ | ⟨hw, hG⟩
    · subst hw
      by_cases hc : x_tm V f m (s_se V 1 = 1) ≤ x_tm V f best (s_se V 1 = 1)
      · have em : me1 V f G m best = best := by unfold me1; rw [if_neg]; rw [if_pos hG]; omega
        rw [em]
        simp (disch := omega) only [fX11_method_57, Int.reduceEq, Int.reduceNe, Int.reduceLT, Int.reduceLE, Int.reduceAdd, Int.reduceSub, Int.reduceMul, Int.reduceNeg, Int.zero_add, Int.add_zero, nm_eq, bd_some, bv_some, aI_ok, aL_ok, aS_ok, dv_ok, dw_ok, I_add, I_sub, I_mul, I_neg, I_lt, I_le, I_eq, I_nat, J_add, J_sub, J_mul, J_neg, J_lt, J_le, J_eq, I_l, J_i, I_div, J_div, b2_0, b2_1, b2_nar, nar_0, nar_1, zr_0, zr_1, zr_b2, cmp_eq, cmp_le, cmp_lt, cmp_gt, cmp_ge, mx_I, mn_I, mx_L, mn_L, az_I, if_true, if_false, not_true_eq_false, not_false_eq_true, i_0, i_1, i_2, i_3, i_4, i_5, i_6, i_7, i_8, i_9, i_10, i_11, i_12, i_16, i_18, i_20, i_24, i_28, i_29, i_30, i_31, i_32, i_33, i_34, i_35, i_37, i_40, i_41, i_42, i_43, i_45, i_46, i_47, i_48, i_57, i_59, i_63, i_64, i_96, i_97, i_98, i_99, i_100, i_101, i_102, i_103, i_104, i_105, i_106, i_107, i_108, i_109, i_110, i_111, i_112, i_113, i_122, i_200, i_255, i_256, i_257, i_258, i_355, i_400, i_999, i_1000, i_1200, i_5680, i_9999, i_10000, i_99999, j_0, j_1, j_2, j_3, j_4, j_5, j_6, j_9, j_10, j_11, j_98, j_99, j_100, j_999, j_1000, j_9999, j_10000, j_99999, j_1000000, hle, r_isZ hV hK.1, a1, hc]
      · have em : me1 V f G m best = m := by unfold me1; rw [if_pos]; rw [if_pos hG]; omega
        rw [em]
        simp (disch := omega) only [fX11_method_57, Int.reduceEq, Int.reduceNe, Int.reduceLT, Int.reduceLE, Int.reduceAdd, Int.reduceSub, Int.reduceMul, Int.reduceNeg, Int.zero_add, Int.add_zero, nm_eq, bd_some, bv_some, aI_ok, aL_ok, aS_ok, dv_ok, dw_ok, I_add, I_sub, I_mul, I_neg, I_lt, I_le, I_eq, I_nat, J_add, J_sub, J_mul, J_neg, J_lt, J_le, J_eq, I_l, J_i, I_div, J_div, b2_0, b2_1, b2_nar, nar_0, nar_1, zr_0, zr_1, zr_b2, cmp_eq, cmp_le, cmp_lt, cmp_gt, cmp_ge, mx_I, mn_I, mx_L, mn_L, az_I, if_true, if_false, not_true_eq_false, not_false_eq_true, i_0, i_1, i_2, i_3, i_4, i_5, i_6, i_7, i_8, i_9, i_10, i_11, i_12, i_16, i_18, i_20, i_24, i_28, i_29, i_30, i_31, i_32, i_33, i_34, i_35, i_37, i_40, i_41, i_42, i_43, i_45, i_46, i_47, i_48, i_57, i_59, i_63, i_64, i_96, i_97, i_98, i_99, i_100, i_101, i_102, i_103, i_104, i_105, i_106, i_107, i_108, i_109, i_110, i_111, i_112, i_113, i_122, i_200, i_255, i_256, i_257, i_258, i_355, i_400, i_999, i_1000, i_1200, i_5680, i_9999, i_10000, i_99999, j_0, j_1, j_2, j_3, j_4, j_5, j_6, j_9, j_10, j_11, j_98, j_99, j_100, j_999, j_1000, j_9999, j_10000, j_99999, j_1000000, hle, r_isZ hV hK.1, a1, hc]
    · subst hw
      by_cases hc : x_tm V f best (s_se V 1 = 1) ≤ x_tm V f m (s_se V 1 = 1)
      · have em : me1 V f G m best = best := by unfold me1; rw [if_neg]; rw [if_neg hG]; omega
        rw [em]
        simp (disch := omega) only [fX11_method_57, Int.reduceEq, Int.reduceNe, Int.reduceLT, Int.reduceLE, Int.reduceAdd, Int.reduceSub, Int.reduceMul, Int.reduceNeg, Int.zero_add, Int.add_zero, nm_eq, bd_some, bv_some, aI_ok, aL_ok, aS_ok, dv_ok, dw_ok, I_add, I_sub, I_mul, I_neg, I_lt, I_le, I_eq, I_nat, J_add, J_sub, J_mul, J_neg, J_lt, J_le, J_eq, I_l, J_i, I_div, J_div, b2_0, b2_1, b2_nar, nar_0, nar_1, zr_0, zr_1, zr_b2, cmp_eq, cmp_le, cmp_lt, cmp_gt, cmp_ge, mx_I, mn_I, mx_L, mn_L, az_I, if_true, if_false, not_true_eq_false, not_false_eq_true, i_0, i_1, i_2, i_3, i_4, i_5, i_6, i_7, i_8, i_9, i_10, i_11, i_12, i_16, i_18, i_20, i_24, i_28, i_29, i_30, i_31, i_32, i_33, i_34, i_35, i_37, i_40, i_41, i_42, i_43, i_45, i_46, i_47, i_48, i_57, i_59, i_63, i_64, i_96, i_97, i_98, i_99, i_100, i_101, i_102, i_103, i_104, i_105, i_106, i_107, i_108, i_109, i_110, i_111, i_112, i_113, i_122, i_200, i_255, i_256, i_257, i_258, i_355, i_400, i_999, i_1000, i_1200, i_5680, i_9999, i_10000, i_99999, j_0, j_1, j_2, j_3, j_4, j_5, j_6, j_9, j_10, j_11, j_98, j_99, j_100, j_999, j_1000, j_9999, j_10000, j_99999, j_1000000, hle, r_isZ hV hK.1, a1, hc]
      · have em : me1 V f G m best = m := by unfold me1; rw [if_pos]; rw [if_neg hG]; omega
        rw [em]
        simp (disch := omega) only [fX11_method_57, Int.reduceEq, Int.reduceNe, Int.reduceLT, Int.reduceLE, Int.reduceAdd, Int.reduceSub, Int.reduceMul, Int.reduceNeg, Int.zero_add, Int.add_zero, nm_eq, bd_some, bv_some, aI_ok, aL_ok, aS_ok, dv_ok, dw_ok, I_add, I_sub, I_mul, I_neg, I_lt, I_le, I_eq, I_nat, J_add, J_sub, J_mul, J_neg, J_lt, J_le, J_eq, I_l, J_i, I_div, J_div, b2_0, b2_1, b2_nar, nar_0, nar_1, zr_0, zr_1, zr_b2, cmp_eq, cmp_le, cmp_lt, cmp_gt, cmp_ge, mx_I, mn_I, mx_L, mn_L, az_I, if_true, if_false, not_true_eq_false, not_false_eq_true, i_0, i_1, i_2, i_3, i_4, i_5, i_6, i_7, i_8, i_9, i_10, i_11, i_12, i_16, i_18, i_20, i_24, i_28, i_29, i_30, i_31, i_32, i_33, i_34, i_35, i_37, i_40, i_41, i_42, i_43, i_45, i_46, i_47, i_48, i_57, i_59, i_63, i_64, i_96, i_97, i_98, i_99, i_100, i_101, i_102, i_103, i_104, i_105, i_106, i_107, i_108, i_109, i_110, i_111, i_112, i_113, i_122, i_200, i_255, i_256, i_257, i_258, i_355, i_400, i_999, i_1000, i_1200, i_5680, i_9999, i_10000, i_99999, j_0, j_1, j_2, j_3, j_4, j_5, j_6, j_9, j_10, j_11, j_98, j_99, j_100, j_999, j_1000, j_9999, j_10000, j_99999, j_1000000, hle, r_isZ hV hK.1, a1, hc]
theorem r_un53 (hV : vB V) (hN : 100 ≤ N) (hL : RLd V ν) (hP : PP V f t ν) (f0 : 0 ≤ f) (f1 : f < 4) : ∀ (d n : Nat) (r : Int), d < n → 0 ≤ r → r + d = 10000 → fX11_undertaking_53 N n (I_ f) (I_ r) ν = some (I_ (scn (fun r => x_ma V f t r (s_se V 1 = 1)) d r), ν) := by
  have h2 := x_val_mx hV f
  intro d
  induction d with
  | zero =>
    intro n r h1 h0 h3
    obtain ⟨n, rfl⟩ : ∃ m, n = m + 1 := ⟨n - 1, by omega⟩
    have hle : 10000 ≤ r := by omega
    simp (disch := omega) only [fX11_undertaking_53, Int.reduceEq, Int.reduceNe, Int.reduceLT, Int.reduceLE, Int.reduceAdd, Int.reduceSub, Int.reduceMul, Int.reduceNeg, Int.zero_add, Int.add_zero, nm_eq, bd_some, bv_some, aI_ok, aL_ok, aS_ok, dv_ok, dw_ok, I_add, I_sub, I_mul, I_neg, I_lt, I_le, I_eq, I_nat, J_add, J_sub, J_mul, J_neg, J_lt, J_le, J_eq, I_l, J_i, I_div, J_div, b2_0, b2_1, b2_nar, nar_0, nar_1, zr_0, zr_1, zr_b2, cmp_eq, cmp_le, cmp_lt, cmp_gt, cmp_ge, mx_I, mn_I, mx_L, mn_L, az_I, if_true, if_false, not_true_eq_false, not_false_eq_true, i_0, i_1, i_2, i_3, i_4, i_5, i_6, i_7, i_8, i_9, i_10, i_11, i_12, i_16, i_18, i_20, i_24, i_28, i_29, i_30, i_31, i_32, i_33, i_34, i_35, i_37, i_40, i_41, i_42, i_43, i_45, i_46, i_47, i_48, i_57, i_59, i_63, i_64, i_96, i_97, i_98, i_99, i_100, i_101, i_102, i_103, i_104, i_105, i_106, i_107, i_108, i_109, i_110, i_111, i_112, i_113, i_122, i_200, i_255, i_256, i_257, i_258, i_355, i_400, i_999, i_1000, i_1200, i_5680, i_9999, i_10000, i_99999, j_0, j_1, j_2, j_3, j_4, j_5, j_6, j_9, j_10, j_11, j_98, j_99, j_100, j_999, j_1000, j_9999, j_10000, j_99999, j_1000000, hle, scn]
  | succ d ih =>
    intro n r h1 h0 h3
    obtain ⟨n, rfl⟩ : ∃ m, n = m + 1 := ⟨n - 1, by omega⟩
    have hle : ¬ 10000 ≤ r := by omega
    have hu := x_us_in (f := f) (t := t) (Z := (s_se V 1 = 1)) hV (r := r) h0 (by omega)
    have h4 := rm_in (f := f) (r := r) hV h0 (by omega)
    have es := r_sum (N := N) (Z := (s_se V 1 = 1)) hV hN hP (r := r) h0 (by omega)
    have ev := r_val (N := N) (r := r) hV hN hL f0 f1
    have esh := r_share (N := N) (ν := ν) (s := x_us V f t r (s_se V 1 = 1)) (v := x_val V f + 1000 * r * x_mn V f 1) hu.1 hu.2 (by omega) (by omega)
    have esh : fX11_shareOf N (J_ (x_us V f t r (s_se V 1 = 1))) (J_ (x_val V f + 1000 * r * x_mn V f 1)) ν = some (I_ (x_ma V f t r (s_se V 1 = 1)), ν) := esh
    have hm := x_ma_in (Z := (s_se V 1 = 1)) V f t r
    by_cases hp : x_ma V f t r (s_se V 1 = 1) < 200
    · have hp' : ¬ 200 ≤ x_ma V f t r (s_se V 1 = 1) := by omega
      simp (disch := omega) only [fX11_undertaking_53, Int.reduceEq, Int.reduceNe, Int.reduceLT, Int.reduceLE, Int.reduceAdd, Int.reduceSub, Int.reduceMul, Int.reduceNeg, Int.zero_add, Int.add_zero, nm_eq, bd_some, bv_some, aI_ok, aL_ok, aS_ok, dv_ok, dw_ok, I_add, I_sub, I_mul, I_neg, I_lt, I_le, I_eq, I_nat, J_add, J_sub, J_mul, J_neg, J_lt, J_le, J_eq, I_l, J_i, I_div, J_div, b2_0, b2_1, b2_nar, nar_0, nar_1, zr_0, zr_1, zr_b2, cmp_eq, cmp_le, cmp_lt, cmp_gt, cmp_ge, mx_I, mn_I, mx_L, mn_L, az_I, if_true, if_false, not_true_eq_false, not_false_eq_true, i_0, i_1, i_2, i_3, i_4, i_5, i_6, i_7, i_8, i_9, i_10, i_11, i_12, i_16, i_18, i_20, i_24, i_28, i_29, i_30, i_31, i_32, i_33, i_34, i_35, i_37, i_40, i_41, i_42, i_43, i_45, i_46, i_47, i_48, i_57, i_59, i_63, i_64, i_96, i_97, i_98, i_99, i_100, i_101, i_102, i_103, i_104, i_105, i_106, i_107, i_108, i_109, i_110, i_111, i_112, i_113, i_122, i_200, i_255, i_256, i_257, i_258, i_355, i_400, i_999, i_1000, i_1200, i_5680, i_9999, i_10000, i_99999, j_0, j_1, j_2, j_3, j_4, j_5, j_6, j_9, j_10, j_11, j_98, j_99, j_100, j_999, j_1000, j_9999, j_10000, j_99999, j_1000000, hle, r_isZ hV hL.1, es, ev, esh, hp', scn, hp]
    · have hp' : 200 ≤ x_ma V f t r (s_se V 1 = 1) := by omega
      simp (disch := omega) only [fX11_undertaking_53, Int.reduceEq, Int.reduceNe, Int.reduceLT, Int.reduceLE, Int.reduceAdd, Int.reduceSub, Int.reduceMul, Int.reduceNeg, Int.zero_add, Int.add_zero, nm_eq, bd_some, bv_some, aI_ok, aL_ok, aS_ok, dv_ok, dw_ok, I_add, I_sub, I_mul, I_neg, I_lt, I_le, I_eq, I_nat, J_add, J_sub, J_mul, J_neg, J_lt, J_le, J_eq, I_l, J_i, I_div, J_div, b2_0, b2_1, b2_nar, nar_0, nar_1, zr_0, zr_1, zr_b2, cmp_eq, cmp_le, cmp_lt, cmp_gt, cmp_ge, mx_I, mn_I, mx_L, mn_L, az_I, if_true, if_false, not_true_eq_false, not_false_eq_true, i_0, i_1, i_2, i_3, i_4, i_5, i_6, i_7, i_8, i_9, i_10, i_11, i_12, i_16, i_18, i_20, i_24, i_28, i_29, i_30, i_31, i_32, i_33, i_34, i_35, i_37, i_40, i_41, i_42, i_43, i_45, i_46, i_47, i_48, i_57, i_59, i_63, i_64, i_96, i_97, i_98, i_99, i_100, i_101, i_102, i_103, i_104, i_105, i_106, i_107, i_108, i_109, i_110, i_111, i_112, i_113, i_122, i_200, i_255, i_256, i_257, i_258, i_355, i_400, i_999, i_1000, i_1200, i_5680, i_9999, i_10000, i_99999, j_0, j_1, j_2, j_3, j_4, j_5, j_6, j_9, j_10, j_11, j_98, j_99, j_100, j_999, j_1000, j_9999, j_10000, j_99999, j_1000000, hle, r_isZ hV hL.1, es, ev, esh, hp', scn, hp, ih]
/-- UNDERTAKING of the reference, once the call is allowed -/
theorem r_un (hV : vB V) (hW : vO V) (hN : 20000 ≤ N) (f0 : 0 ≤ f) (f1 : f < 4) (hK : RKd N V ν) : ∃ ν', (bv (fX11_laysParts N (I_ f) (I_ (s_se V 0)) ν) fun μ => fX11_undertaking_53 N N (I_ f) (I_ 0) μ) = some (I_ (x_un V f (s_se V 0) (s_se V 1 = 1)), ν') ∧ Fr P_rq ν ν' ∧ RKd N V ν' := by
  have hn := hV.1
  unfold vN at hn
  obtain ⟨ν1, a1, a2, a3, a4⟩ := r_lay hV hW (by omega) hK
  obtain ⟨ν', e1, e2, e3⟩ := r_parts (N := N) (t := s_se V 0) hV (by omega) f0 f1 (by omega) (by omega) a3
  have hF := a2.tr (e2.mono (fun k j h => P_rp_rq h))
  refine ⟨ν', ?_, hF, hK.laid hF (a3.p e2)⟩
  rw [parts_lay a1 a4, e1, bv_some]
  exact r_un53 (N := N) hV (by omega) (a3.p e2) e3 f0 f1 10000 N 0 (by omega) (by omega) (by omega)
end
