/-! deposits, owed, back, picked of the reference: their cores. -/
def t_ow (V : Vw) : Int := if s_se V 0 = 2 then 2 else 1
def x_ow (V : Vw) (z : Int) : Int := max 0 (x_df V z (t_ow V))
def g_bk (V : Vw) (f z : Int) : Int := if p_ex V f z then x_dp V z - x_ow V z else 0
def x_bk (V : Vw) (f : Int) : Int := sg (zN V) 0 (g_bk V f)
section
variable {N : Nat} {V : Vw} {ν : Mem} {f t : Int}
theorem x_df_in (hV : vB V) {e t : Int} (e0 : 0 ≤ e) (e1 : e < sN V) : -99899001000 ≤ x_df V e t ∧ x_df V e t ≤ 199800000000 := by
  have hv := hV.2.1 e e0 e1
  unfold vS at hv
  have a := x_wf_in hV (t := t) e0 e1
  have m1 := mul_in (a := x_wf V e t) (A := 200000000) (b := s_mn V e) (B := 999) a.1 a.2 (by omega) (by omega)
  have m2 := val_in hV e0 e1
  unfold x_df
  rw [Int.sub_mul]
  omega
theorem x_dp_in (hV : vB V) {z : Int} (z0 : 0 ≤ z) (z1 : z < sN V) : 0 ≤ x_dp V z ∧ x_dp V z ≤ 999000000000 := by
  have hv := hV.2.1 z z0 z1
  unfold vS at hv
  have hr := x_ra_in (V := V) (f := s_fm V z)
  have m1 := mul_in (a := x_ra V (s_fm V z)) (A := 99999) (b := s_nt V z) (B := 99999) hr.1 hr.2 (by omega) (by omega)
  have m2 := mul_in (a := x_ra V (s_fm V z) * s_nt V z) (A := 9999800001) (b := s_mn V z) (B := 999) m1.1 (by omega) (by omega) (by omega)
  unfold x_dp
  omega
theorem r_dp (hV : vB V) (hW : vO V) (hN : 100 ≤ N) {z : Int} (z0 : 0 ≤ z) (z1 : z < sN V) (hK : RKd N V ν) : ∃ ν', fX11_depositOf N (I_ z) ν = some (J_ (x_dp V z), ν') ∧ Fr P_rq ν ν' ∧ RKd N V ν' := by
  have hn := hV.1
  unfold vN at hn
  have hv := hV.2.1 z z0 z1
  unfold vS at hv
  obtain ⟨ν1, a1, a2, a3, a4⟩ := r_lay hV hW hN hK
  have hK1 := hK.laidE a2 a3
  obtain ⟨ν2, c1, c2, c3⟩ := e_ra (N := N) (f := s_fm V z) hV hW hN (by omega) (by omega) hK1
  have r19 : ν2.1 19 z.toNat = I_ (s_nt V z) := (c3.L.2.1.2 z z0 z1).2.1
  have hr := x_ra_in (V := V) (f := s_fm V z)
  have m1 := mul_in (a := x_ra V (s_fm V z)) (A := 99999) (b := s_nt V z) (B := 99999) hr.1 hr.2 (by omega) (by omega)
  have m2 := mul_in (a := x_ra V (s_fm V z) * s_nt V z) (A := 9999800001) (b := s_mn V z) (B := 999) m1.1 (by omega) (by omega) (by omega)
  refine ⟨ν2, ?_, a2.tr c2, c3.K⟩
  unfold x_dp
  simp (disch := omega) only [fX11_depositOf, Int.reduceEq, Int.reduceNe, Int.reduceLT, Int.reduceLE, Int.reduceAdd, Int.reduceSub, Int.reduceMul, Int.reduceNeg, Int.zero_add, Int.add_zero, nm_eq, bd_some, bv_some, aI_ok, aL_ok, aS_ok, dv_ok, dw_ok, I_add, I_sub, I_mul, I_neg, I_lt, I_le, I_eq, I_nat, J_add, J_sub, J_mul, J_neg, J_lt, J_le, J_eq, I_l, J_i, I_div, J_div, b2_0, b2_1, b2_nar, nar_0, nar_1, zr_0, zr_1, zr_b2, cmp_eq, cmp_le, cmp_lt, cmp_gt, cmp_ge, mx_I, mn_I, mx_L, mn_L, az_I, if_true, if_false, not_true_eq_false, not_false_eq_true, i_0, i_1, i_2, i_3, i_4, i_5, i_6, i_7, i_8, i_9, i_10, i_11, i_12, i_16, i_18, i_20, i_24, i_28, i_29, i_30, i_31, i_32, i_33, i_34, i_35, i_37, i_40, i_41, i_42, i_43, i_45, i_46, i_47, i_48, i_57, i_59, i_63, i_64, i_96, i_97, i_98, i_99, i_100, i_101, i_102, i_103, i_104, i_105, i_106, i_107, i_108, i_109, i_110, i_111, i_112, i_113, i_122, i_200, i_255, i_256, i_257, i_258, i_355, i_400, i_999, i_1000, i_1200, i_5680, i_9999, i_10000, i_99999, j_0, j_1, j_2, j_3, j_4, j_5, j_6, j_9, j_10, j_11, j_98, j_99, j_100, j_999, j_1000, j_9999, j_10000, j_99999, j_1000000, a1, r_of1 hV a3.1, c1, r19, r_of5 hV c3.1]
theorem r_ow (hV : vB V) (hW : vO V) (hN : 100 ≤ N) {z : Int} (z0 : 0 ≤ z) (z1 : z < sN V) (hK : RKd N V ν) : ∃ ν', fX11_owedOf N (I_ z) ν = some (J_ (x_ow V z), ν') ∧ Fr P_rq ν ν' ∧ RKd N V ν' := by
  have hn := hV.1
  unfold vN at hn
  have hse := hV.2.2.2.1
  have se0 : ν.1 1 (28 : Int).toNat = I_ (s_se V 0) := RB_se hK.1 (k := 0) (by omega) (by omega)
  have ht : 1 ≤ t_ow V ∧ t_ow V ≤ 2 := by unfold t_ow; split <;> omega
  obtain ⟨ν1, a1, a2, a3, a4⟩ := r_lay hV hW hN hK
  obtain ⟨ν2, c1, c2⟩ := r_df (N := N) (t := t_ow V) hV hN a3 z0 z1 (by omega) (by omega)
  have e1 : fX11_differenceOf N (I_ z) (I_ (t_ow V)) ν = some (J_ (x_df V z (t_ow V)), ν2) := by
    rw [← c1]
    unfold fX11_differenceOf
    rw [a1, a4]
  have hF := a2.tr (c2.mono (T := P_rq) (fun k j h => by unfold P_rf at h; unfold P_rq; omega))
  have hd := x_df_in hV (t := t_ow V) z0 z1
  have e2 : fX11_owedOf_18 N (I_ (t_ow V)) (I_ z) ν = some (J_ (x_ow V z), ν2) := by
    unfold x_ow
    by_cases hc : 0 ≤ x_df V z (t_ow V)
    · have em : max 0 (x_df V z (t_ow V)) = x_df V z (t_ow V) := by omega
      rw [em]
      simp (disch := omega) only [fX11_owedOf_18, Int.reduceEq, Int.reduceNe, Int.reduceLT, Int.reduceLE, Int.reduceAdd, Int.reduceSub, Int.reduceMul, Int.reduceNeg, Int.zero_add, Int.add_zero, nm_eq, bd_some, bv_some, aI_ok, aL_ok, aS_ok, dv_ok, dw_ok, I_add, I_sub, I_mul, I_neg, I_lt, I_le, I_eq, I_nat, J_add, J_sub, J_mul, J_neg, J_lt, J_le, J_eq, I_l, J_i, I_div, J_div, b2_0, b2_1, b2_nar, nar_0, nar_1, zr_0, zr_1, zr_b2, cmp_eq, cmp_le, cmp_lt, cmp_gt, cmp_ge, mx_I, mn_I, mx_L, mn_L, az_I, if_true, if_false, not_true_eq_false, not_false_eq_true, i_0, i_1, i_2, i_3, i_4, i_5, i_6, i_7, i_8, i_9, i_10, i_11, i_12, i_16, i_18, i_20, i_24, i_28, i_29, i_30, i_31, i_32, i_33, i_34, i_35, i_37, i_40, i_41, i_42, i_43, i_45, i_46, i_47, i_48, i_57, i_59, i_63, i_64, i_96, i_97, i_98, i_99, i_100, i_101, i_102, i_103, i_104, i_105, i_106, i_107, i_108, i_109, i_110, i_111, i_112, i_113, i_122, i_200, i_255, i_256, i_257, i_258, i_355, i_400, i_999, i_1000, i_1200, i_5680, i_9999, i_10000, i_99999, j_0, j_1, j_2, j_3, j_4, j_5, j_6, j_9, j_10, j_11, j_98, j_99, j_100, j_999, j_1000, j_9999, j_10000, j_99999, j_1000000, e1, hc]
    · have em : max 0 (x_df V z (t_ow V)) = 0 := by omega
      rw [em]
      simp (disch := omega) only [fX11_owedOf_18, Int.reduceEq, Int.reduceNe, Int.reduceLT, Int.reduceLE, Int.reduceAdd, Int.reduceSub, Int.reduceMul, Int.reduceNeg, Int.zero_add, Int.add_zero, nm_eq, bd_some, bv_some, aI_ok, aL_ok, aS_ok, dv_ok, dw_ok, I_add, I_sub, I_mul, I_neg, I_lt, I_le, I_eq, I_nat, J_add, J_sub, J_mul, J_neg, J_lt, J_le, J_eq, I_l, J_i, I_div, J_div, b2_0, b2_1, b2_nar, nar_0, nar_1, zr_0, zr_1, zr_b2, cmp_eq, cmp_le, cmp_lt, cmp_gt, cmp_ge, mx_I, mn_I, mx_L, mn_L, az_I, if_true, if_false, not_true_eq_false, not_false_eq_true, i_0, i_1, i_2, i_3, i_4, i_5, i_6, i_7, i_8, i_9, i_10, i_11, i_12, i_16, i_18, i_20, i_24, i_28, i_29, i_30, i_31, i_32, i_33, i_34, i_35, i_37, i_40, i_41, i_42, i_43, i_45, i_46, i_47, i_48, i_57, i_59, i_63, i_64, i_96, i_97, i_98, i_99, i_100, i_101, i_102, i_103, i_104, i_105, i_106, i_107, i_108, i_109, i_110, i_111, i_112, i_113, i_122, i_200, i_255, i_256, i_257, i_258, i_355, i_400, i_999, i_1000, i_1200, i_5680, i_9999, i_10000, i_99999, j_0, j_1, j_2, j_3, j_4, j_5, j_6, j_9, j_10, j_11, j_98, j_99, j_100, j_999, j_1000, j_9999, j_10000, j_99999, j_1000000, e1, hc]
  refine ⟨ν2, ?_, hF, hK.laid hF (a3.f c2)⟩
  by_cases h2 : s_se V 0 = 2
  · have et : t_ow V = 2 := if_pos h2
    rw [et] at e2
    simp (disch := omega) only [fX11_owedOf, Int.reduceEq, Int.reduceNe, Int.reduceLT, Int.reduceLE, Int.reduceAdd, Int.reduceSub, Int.reduceMul, Int.reduceNeg, Int.zero_add, Int.add_zero, nm_eq, bd_some, bv_some, aI_ok, aL_ok, aS_ok, dv_ok, dw_ok, I_add, I_sub, I_mul, I_neg, I_lt, I_le, I_eq, I_nat, J_add, J_sub, J_mul, J_neg, J_lt, J_le, J_eq, I_l, J_i, I_div, J_div, b2_0, b2_1, b2_nar, nar_0, nar_1, zr_0, zr_1, zr_b2, cmp_eq, cmp_le, cmp_lt, cmp_gt, cmp_ge, mx_I, mn_I, mx_L, mn_L, az_I, if_true, if_false, not_true_eq_false, not_false_eq_true, i_0, i_1, i_2, i_3, i_4, i_5, i_6, i_7, i_8, i_9, i_10, i_11, i_12, i_16, i_18, i_20, i_24, i_28, i_29, i_30, i_31, i_32, i_33, i_34, i_35, i_37, i_40, i_41, i_42, i_43, i_45, i_46, i_47, i_48, i_57, i_59, i_63, i_64, i_96, i_97, i_98, i_99, i_100, i_101, i_102, i_103, i_104, i_105, i_106, i_107, i_108, i_109, i_110, i_111, i_112, i_113, i_122, i_200, i_255, i_256, i_257, i_258, i_355, i_400, i_999, i_1000, i_1200, i_5680, i_9999, i_10000, i_99999, j_0, j_1, j_2, j_3, j_4, j_5, j_6, j_9, j_10, j_11, j_98, j_99, j_100, j_999, j_1000, j_9999, j_10000, j_99999, j_1000000, se0, h2, e2]
  · have et : t_ow V = 1 := if_neg h2
    rw [et] at e2
    simp (disch := omega) only [fX11_owedOf, Int.reduceEq, Int.reduceNe, Int.reduceLT, Int.reduceLE, Int.reduceAdd, Int.reduceSub, Int.reduceMul, Int.reduceNeg, Int.zero_add, Int.add_zero, nm_eq, bd_some, bv_some, aI_ok, aL_ok, aS_ok, dv_ok, dw_ok, I_add, I_sub, I_mul, I_neg, I_lt, I_le, I_eq, I_nat, J_add, J_sub, J_mul, J_neg, J_lt, J_le, J_eq, I_l, J_i, I_div, J_div, b2_0, b2_1, b2_nar, nar_0, nar_1, zr_0, zr_1, zr_b2, cmp_eq, cmp_le, cmp_lt, cmp_gt, cmp_ge, mx_I, mn_I, mx_L, mn_L, az_I, if_true, if_false, not_true_eq_false, not_false_eq_true, i_0, i_1, i_2, i_3, i_4, i_5, i_6, i_7, i_8, i_9, i_10, i_11, i_12, i_16, i_18, i_20, i_24, i_28, i_29, i_30, i_31, i_32, i_33, i_34, i_35, i_37, i_40, i_41, i_42, i_43, i_45, i_46, i_47, i_48, i_57, i_59, i_63, i_64, i_96, i_97, i_98, i_99, i_100, i_101, i_102, i_103, i_104, i_105, i_106, i_107, i_108, i_109, i_110, i_111, i_112, i_113, i_122, i_200, i_255, i_256, i_257, i_258, i_355, i_400, i_999, i_1000, i_1200, i_5680, i_9999, i_10000, i_99999, j_0, j_1, j_2, j_3, j_4, j_5, j_6, j_9, j_10, j_11, j_98, j_99, j_100, j_999, j_1000, j_9999, j_10000, j_99999, j_1000000, se0, h2, e2]
theorem r_bk (hV : vB V) (hW : vO V) (hN : 100 ≤ N) (f0 : 0 ≤ f) (f1 : f < fN V) : ∀ (d n : Nat) (i acc : Int) (ν : Mem), d < n → 0 ≤ i → i + d = sN V → RKd N V ν → ∃ ν', fX11_back_31 N n (I_ f) (J_ acc) (I_ i) ν = some (J_ (acc + sg d i (g_bk V f)), ν') ∧ Fr P_rq ν ν' ∧ RKd N V ν' := by
  have hn := hV.1
  unfold vN at hn
  intro d
  induction d with
  | zero =>
    intro n i acc ν h1 h2 h3 hK
    obtain ⟨n, rfl⟩ : ∃ m, n = m + 1 := ⟨n - 1, by omega⟩
    have hle : sN V ≤ i := by omega
    refine ⟨ν, ?_, Fr.rf, hK⟩
    simp (disch := omega) only [fX11_back_31, Int.reduceEq, Int.reduceNe, Int.reduceLT, Int.reduceLE, Int.reduceAdd, Int.reduceSub, Int.reduceMul, Int.reduceNeg, Int.zero_add, Int.add_zero, nm_eq, bd_some, bv_some, aI_ok, aL_ok, aS_ok, dv_ok, dw_ok, I_add, I_sub, I_mul, I_neg, I_lt, I_le, I_eq, I_nat, J_add, J_sub, J_mul, J_neg, J_lt, J_le, J_eq, I_l, J_i, I_div, J_div, b2_0, b2_1, b2_nar, nar_0, nar_1, zr_0, zr_1, zr_b2, cmp_eq, cmp_le, cmp_lt, cmp_gt, cmp_ge, mx_I, mn_I, mx_L, mn_L, az_I, if_true, if_false, not_true_eq_false, not_false_eq_true, i_0, i_1, i_2, i_3, i_4, i_5, i_6, i_7, i_8, i_9, i_10, i_11, i_12, i_16, i_18, i_20, i_24, i_28, i_29, i_30, i_31, i_32, i_33, i_34, i_35, i_37, i_40, i_41, i_42, i_43, i_45, i_46, i_47, i_48, i_57, i_59, i_63, i_64, i_96, i_97, i_98, i_99, i_100, i_101, i_102, i_103, i_104, i_105, i_106, i_107, i_108, i_109, i_110, i_111, i_112, i_113, i_122, i_200, i_255, i_256, i_257, i_258, i_355, i_400, i_999, i_1000, i_1200, i_5680, i_9999, i_10000, i_99999, j_0, j_1, j_2, j_3, j_4, j_5, j_6, j_9, j_10, j_11, j_98, j_99, j_100, j_999, j_1000, j_9999, j_10000, j_99999, j_1000000, RB_n hK.1, hle, sg]
  | succ d ih =>
    intro n i acc ν h1 h2 h3 hK
    obtain ⟨n, rfl⟩ : ∃ m, n = m + 1 := ⟨n - 1, by omega⟩
    have hle : ¬ sN V ≤ i := by omega
    have hlt : i < sN V := by omega
    have hv := hV.2.1 i h2 hlt
    unfold vS at hv
    by_cases hp : s_li V i = 1 ∧ s_mk V i = 1
    · by_cases hf : s_fm V i = f
      · have e : g_bk V f i = x_dp V i - x_ow V i := by unfold g_bk; rw [if_pos]; unfold p_ex; omega
        obtain ⟨ν1, a1, a2, a3⟩ := r_dp (N := N) hV hW hN h2 hlt hK
        obtain ⟨ν2, c1, c2, c3⟩ := r_ow (N := N) hV hW hN h2 hlt a3
        obtain ⟨ν', e1, e2, e3⟩ := ih n (i + 1) (acc + (x_dp V i - x_ow V i)) ν2 (by omega) (by omega) (by omega) c3
        rw [Int.add_assoc] at e1
        refine ⟨ν', ?_, (a2.tr c2).tr e2, e3⟩
        rw [sg, e]
        simp (disch := omega) only [fX11_back_31, Int.reduceEq, Int.reduceNe, Int.reduceLT, Int.reduceLE, Int.reduceAdd, Int.reduceSub, Int.reduceMul, Int.reduceNeg, Int.zero_add, Int.add_zero, nm_eq, bd_some, bv_some, aI_ok, aL_ok, aS_ok, dv_ok, dw_ok, I_add, I_sub, I_mul, I_neg, I_lt, I_le, I_eq, I_nat, J_add, J_sub, J_mul, J_neg, J_lt, J_le, J_eq, I_l, J_i, I_div, J_div, b2_0, b2_1, b2_nar, nar_0, nar_1, zr_0, zr_1, zr_b2, cmp_eq, cmp_le, cmp_lt, cmp_gt, cmp_ge, mx_I, mn_I, mx_L, mn_L, az_I, if_true, if_false, not_true_eq_false, not_false_eq_true, i_0, i_1, i_2, i_3, i_4, i_5, i_6, i_7, i_8, i_9, i_10, i_11, i_12, i_16, i_18, i_20, i_24, i_28, i_29, i_30, i_31, i_32, i_33, i_34, i_35, i_37, i_40, i_41, i_42, i_43, i_45, i_46, i_47, i_48, i_57, i_59, i_63, i_64, i_96, i_97, i_98, i_99, i_100, i_101, i_102, i_103, i_104, i_105, i_106, i_107, i_108, i_109, i_110, i_111, i_112, i_113, i_122, i_200, i_255, i_256, i_257, i_258, i_355, i_400, i_999, i_1000, i_1200, i_5680, i_9999, i_10000, i_99999, j_0, j_1, j_2, j_3, j_4, j_5, j_6, j_9, j_10, j_11, j_98, j_99, j_100, j_999, j_1000, j_9999, j_10000, j_99999, j_1000000, RB_n hK.1, hle, r_isExp hV hK.1, b2_t hp, r_of1 hV hK.1, hf, a1, c1, e1]
      · have e : g_bk V f i = 0 := by unfold g_bk; rw [if_neg]; unfold p_ex; omega
        obtain ⟨ν', e1, e2⟩ := ih n (i + 1) acc ν (by omega) (by omega) (by omega) hK
        refine ⟨ν', ?_, e2⟩
        rw [sg, e, Int.zero_add]
        simp (disch := omega) only [fX11_back_31, Int.reduceEq, Int.reduceNe, Int.reduceLT, Int.reduceLE, Int.reduceAdd, Int.reduceSub, Int.reduceMul, Int.reduceNeg, Int.zero_add, Int.add_zero, nm_eq, bd_some, bv_some, aI_ok, aL_ok, aS_ok, dv_ok, dw_ok, I_add, I_sub, I_mul, I_neg, I_lt, I_le, I_eq, I_nat, J_add, J_sub, J_mul, J_neg, J_lt, J_le, J_eq, I_l, J_i, I_div, J_div, b2_0, b2_1, b2_nar, nar_0, nar_1, zr_0, zr_1, zr_b2, cmp_eq, cmp_le, cmp_lt, cmp_gt, cmp_ge, mx_I, mn_I, mx_L, mn_L, az_I, if_true, if_false, not_true_eq_false, not_false_eq_true, i_0, i_1, i_2, i_3, i_4, i_5, i_6, i_7, i_8, i_9, i_10, i_11, i_12, i_16, i_18, i_20, i_24, i_28, i_29, i_30, i_31, i_32, i_33, i_34, i_35, i_37, i_40, i_41, i_42, i_43, i_45, i_46, i_47, i_48, i_57, i_59, i_63, i_64, i_96, i_97, i_98, i_99, i_100, i_101, i_102, i_103, i_104, i_105, i_106, i_107, i_108, i_109, i_110, i_111, i_112, i_113, i_122, i_200, i_255, i_256, i_257, i_258, i_355, i_400, i_999, i_1000, i_1200, i_5680, i_9999, i_10000, i_99999, j_0, j_1, j_2, j_3, j_4, j_5, j_6, j_9, j_10, j_11, j_98, j_99, j_100, j_999, j_1000, j_9999, j_10000, j_99999, j_1000000, RB_n hK.1, hle, r_isExp hV hK.1, b2_t hp, r_of1 hV hK.1, hf, e1]
    · have e : g_bk V f i = 0 := by unfold g_bk; rw [if_neg]; unfold p_ex; omega
      obtain ⟨ν', e1, e2⟩ := ih n (i + 1) acc ν (by omega) (by omega) (by omega) hK
      refine ⟨ν', ?_, e2⟩
      rw [sg, e, Int.zero_add]
      simp (disch := omega) only [fX11_back_31, Int.reduceEq, Int.reduceNe, Int.reduceLT, Int.reduceLE, Int.reduceAdd, Int.reduceSub, Int.reduceMul, Int.reduceNeg, Int.zero_add, Int.add_zero, nm_eq, bd_some, bv_some, aI_ok, aL_ok, aS_ok, dv_ok, dw_ok, I_add, I_sub, I_mul, I_neg, I_lt, I_le, I_eq, I_nat, J_add, J_sub, J_mul, J_neg, J_lt, J_le, J_eq, I_l, J_i, I_div, J_div, b2_0, b2_1, b2_nar, nar_0, nar_1, zr_0, zr_1, zr_b2, cmp_eq, cmp_le, cmp_lt, cmp_gt, cmp_ge, mx_I, mn_I, mx_L, mn_L, az_I, if_true, if_false, not_true_eq_false, not_false_eq_true, i_0, i_1, i_2, i_3, i_4, i_5, i_6, i_7, i_8, i_9, i_10, i_11, i_12, i_16, i_18, i_20, i_24, i_28, i_29, i_30, i_31, i_32, i_33, i_34, i_35, i_37, i_40, i_41, i_42, i_43, i_45, i_46, i_47, i_48, i_57, i_59, i_63, i_64, i_96, i_97, i_98, i_99, i_100, i_101, i_102, i_103, i_104, i_105, i_106, i_107, i_108, i_109, i_110, i_111, i_112, i_113, i_122, i_200, i_255, i_256, i_257, i_258, i_355, i_400, i_999, i_1000, i_1200, i_5680, i_9999, i_10000, i_99999, j_0, j_1, j_2, j_3, j_4, j_5, j_6, j_9, j_10, j_11, j_98, j_99, j_100, j_999, j_1000, j_9999, j_10000, j_99999, j_1000000, RB_n hK.1, hle, r_isExp hV hK.1, b2_f hp, e1]
end
