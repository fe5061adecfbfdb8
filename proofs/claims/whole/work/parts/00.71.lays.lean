/-! The reference lays worths out. -/
def LA (V : Vw) (ν : Mem) : Prop := (∀ f, 0 ≤ f → f < fN V → ν.1 22 f.toNat = I_ (x_bs V f)) ∧ ∀ z, 0 ≤ z → z < sN V → ν.1 18 z.toNat = I_ (s_of V z) ∧ ν.1 19 z.toNat = I_ (s_nt V z) ∧ ν.1 20 z.toNat = I_ (b2 (p_bl V z)) ∧ ν.1 21 z.toNat = I_ (b2 (p_to V z))
/-- NET is what OFF makes it -/
def vO (V : Vw) : Prop := ∀ z, 0 ≤ z → z < sN V → s_nt V z = max 0 (min 99999 (s_pr V z - s_of V z))
def P_la (k _ : Nat) : Prop := 18 ≤ k ∧ k ≤ 23
def P_lb (k j : Nat) : Prop := (k = 0 ∧ j = 30) ∨ (18 ≤ k ∧ k ≤ 23)
theorem P_lb_rb (k j : Nat) (h : P_rb k j) : ¬ P_lb k j := by unfold P_rb at h; unfold P_lb; omega
theorem P_la_rb (k j : Nat) (h : P_rb k j) : ¬ P_la k j := by unfold P_rb at h; unfold P_la; omega
theorem P_sk_rb (k j : Nat) (h : P_rb k j) : ¬ P_sk k j := by unfold P_rb at h; unfold P_sk; omega
section
variable {N : Nat} {V : Vw} {ν : Mem} {f m : Int}
theorem r_inBase (hV : vB V) (hR : RB V ν) (hb : ∀ f, 0 ≤ f → f < fN V → ν.1 22 f.toNat = I_ (x_bs V f)) {z : Int} (z0 : 0 ≤ z) (z1 : z < sN V) : fX11_isInBase N (I_ z) ν = some (I_ (b2 (p_in V z)), ν) := by
  have hn := hV.1
  unfold vN at hn
  have hv := hV.2.1 z z0 z1
  unfold vS at hv
  have hbi := x_bs_in V (s_fm V z)
  have r22 := hb (s_fm V z) (by omega) (by omega)
  by_cases hl : s_li V z = 1
  · by_cases hq : s_mk V z = x_bs V (s_fm V z)
    · rw [b2_t (show p_in V z from ⟨hl, hq⟩)]
      simp (disch := omega) only [fX11_isInBase, Int.reduceEq, Int.reduceNe, Int.reduceLT, Int.reduceLE, Int.reduceAdd, Int.reduceSub, Int.reduceMul, Int.reduceNeg, Int.zero_add, Int.add_zero, nm_eq, bd_some, bv_some, aI_ok, aL_ok, aS_ok, dv_ok, dw_ok, I_add, I_sub, I_mul, I_neg, I_lt, I_le, I_eq, I_nat, J_add, J_sub, J_mul, J_neg, J_lt, J_le, J_eq, I_l, J_i, I_div, J_div, b2_0, b2_1, b2_nar, nar_0, nar_1, zr_0, zr_1, zr_b2, cmp_eq, cmp_le, cmp_lt, cmp_gt, cmp_ge, mx_I, mn_I, mx_L, mn_L, az_I, if_true, if_false, not_true_eq_false, not_false_eq_true, i_0, i_1, i_2, i_3, i_4, i_5, i_6, i_7, i_8, i_9, i_10, i_11, i_12, i_16, i_18, i_20, i_24, i_28, i_29, i_30, i_31, i_32, i_33, i_34, i_35, i_37, i_40, i_41, i_42, i_43, i_45, i_46, i_47, i_48, i_57, i_59, i_63, i_64, i_96, i_97, i_98, i_99, i_100, i_101, i_102, i_103, i_104, i_105, i_106, i_107, i_108, i_109, i_110, i_111, i_112, i_113, i_122, i_200, i_255, i_256, i_257, i_258, i_355, i_400, i_999, i_1000, i_1200, i_5680, i_9999, i_10000, i_99999, j_0, j_1, j_2, j_3, j_4, j_5, j_6, j_9, j_10, j_11, j_98, j_99, j_100, j_999, j_1000, j_9999, j_10000, j_99999, j_1000000, r_sale hV hR, hl, r_of0 hV hR, r_of1 hV hR, r_of2 hV hR, r_of3 hV hR, r_of4 hV hR, r_of5 hV hR, r_of6 hV hR, r_of7 hV hR, r22, hq]
    · rw [b2_f (show ¬ p_in V z from fun q => hq q.2)]
      simp (disch := omega) only [fX11_isInBase, Int.reduceEq, Int.reduceNe, Int.reduceLT, Int.reduceLE, Int.reduceAdd, Int.reduceSub, Int.reduceMul, Int.reduceNeg, Int.zero_add, Int.add_zero, nm_eq, bd_some, bv_some, aI_ok, aL_ok, aS_ok, dv_ok, dw_ok, I_add, I_sub, I_mul, I_neg, I_lt, I_le, I_eq, I_nat, J_add, J_sub, J_mul, J_neg, J_lt, J_le, J_eq, I_l, J_i, I_div, J_div, b2_0, b2_1, b2_nar, nar_0, nar_1, zr_0, zr_1, zr_b2, cmp_eq, cmp_le, cmp_lt, cmp_gt, cmp_ge, mx_I, mn_I, mx_L, mn_L, az_I, if_true, if_false, not_true_eq_false, not_false_eq_true, i_0, i_1, i_2, i_3, i_4, i_5, i_6, i_7, i_8, i_9, i_10, i_11, i_12, i_16, i_18, i_20, i_24, i_28, i_29, i_30, i_31, i_32, i_33, i_34, i_35, i_37, i_40, i_41, i_42, i_43, i_45, i_46, i_47, i_48, i_57, i_59, i_63, i_64, i_96, i_97, i_98, i_99, i_100, i_101, i_102, i_103, i_104, i_105, i_106, i_107, i_108, i_109, i_110, i_111, i_112, i_113, i_122, i_200, i_255, i_256, i_257, i_258, i_355, i_400, i_999, i_1000, i_1200, i_5680, i_9999, i_10000, i_99999, j_0, j_1, j_2, j_3, j_4, j_5, j_6, j_9, j_10, j_11, j_98, j_99, j_100, j_999, j_1000, j_9999, j_10000, j_99999, j_1000000, r_sale hV hR, hl, r_of0 hV hR, r_of1 hV hR, r_of2 hV hR, r_of3 hV hR, r_of4 hV hR, r_of5 hV hR, r_of6 hV hR, r_of7 hV hR, r22, hq]
  · rw [b2_f (show ¬ p_in V z from fun q => hl q.1)]
    simp (disch := omega) only [fX11_isInBase, Int.reduceEq, Int.reduceNe, Int.reduceLT, Int.reduceLE, Int.reduceAdd, Int.reduceSub, Int.reduceMul, Int.reduceNeg, Int.zero_add, Int.add_zero, nm_eq, bd_some, bv_some, aI_ok, aL_ok, aS_ok, dv_ok, dw_ok, I_add, I_sub, I_mul, I_neg, I_lt, I_le, I_eq, I_nat, J_add, J_sub, J_mul, J_neg, J_lt, J_le, J_eq, I_l, J_i, I_div, J_div, b2_0, b2_1, b2_nar, nar_0, nar_1, zr_0, zr_1, zr_b2, cmp_eq, cmp_le, cmp_lt, cmp_gt, cmp_ge, mx_I, mn_I, mx_L, mn_L, az_I, if_true, if_false, not_true_eq_false, not_false_eq_true, i_0, i_1, i_2, i_3, i_4, i_5, i_6, i_7, i_8, i_9, i_10, i_11, i_12, i_16, i_18, i_20, i_24, i_28, i_29, i_30, i_31, i_32, i_33, i_34, i_35, i_37, i_40, i_41, i_42, i_43, i_45, i_46, i_47, i_48, i_57, i_59, i_63, i_64, i_96, i_97, i_98, i_99, i_100, i_101, i_102, i_103, i_104, i_105, i_106, i_107, i_108, i_109, i_110, i_111, i_112, i_113, i_122, i_200, i_255, i_256, i_257, i_258, i_355, i_400, i_999, i_1000, i_1200, i_5680, i_9999, i_10000, i_99999, j_0, j_1, j_2, j_3, j_4, j_5, j_6, j_9, j_10, j_11, j_98, j_99, j_100, j_999, j_1000, j_9999, j_10000, j_99999, j_1000000, r_sale hV hR, hl]
def g_mb (V : Vw) (f m : Int) (Q : Prop) [Decidable Q] (z : Int) : Int := if Q then g_bel V f m z else g_all V f m z
theorem r_mb_l {Q : Prop} [Decidable Q] (hV : vB V) (hR : RB V ν) (hb : ∀ f, 0 ≤ f → f < fN V → ν.1 22 f.toNat = I_ (x_bs V f)) (hl : ∀ z, 0 ≤ z → z < sN V → ν.1 20 z.toNat = I_ (b2 (p_bl V z))) (f0 : -10 ≤ f) (f1 : f ≤ 10) (m0 : -10 ≤ m) (m1 : m ≤ 10) : ∀ (d n : Nat) (i acc : Int), d < n → 0 ≤ i → i + d = sN V → fX11_manyBase_6 N n (I_ f) (I_ m) (I_ (b2 Q)) (I_ acc) (I_ i) ν = some (I_ (acc + sg d i (g_mb V f m Q)), ν) := by
  have hn := hV.1
  unfold vN at hn
  intro d
  induction d with
  | zero =>
    intro n i acc h1 h2 h3
    obtain ⟨n, rfl⟩ : ∃ m, n = m + 1 := ⟨n - 1, by omega⟩
    have hle : sN V ≤ i := by omega
    simp (disch := omega) only [fX11_manyBase_6, Int.reduceEq, Int.reduceNe, Int.reduceLT, Int.reduceLE, Int.reduceAdd, Int.reduceSub, Int.reduceMul, Int.reduceNeg, Int.zero_add, Int.add_zero, nm_eq, bd_some, bv_some, aI_ok, aL_ok, aS_ok, dv_ok, dw_ok, I_add, I_sub, I_mul, I_neg, I_lt, I_le, I_eq, I_nat, J_add, J_sub, J_mul, J_neg, J_lt, J_le, J_eq, I_l, J_i, I_div, J_div, b2_0, b2_1, b2_nar, nar_0, nar_1, zr_0, zr_1, zr_b2, cmp_eq, cmp_le, cmp_lt, cmp_gt, cmp_ge, mx_I, mn_I, mx_L, mn_L, az_I, if_true, if_false, not_true_eq_false, not_false_eq_true, i_0, i_1, i_2, i_3, i_4, i_5, i_6, i_7, i_8, i_9, i_10, i_11, i_12, i_16, i_18, i_20, i_24, i_28, i_29, i_30, i_31, i_32, i_33, i_34, i_35, i_37, i_40, i_41, i_42, i_43, i_45, i_46, i_47, i_48, i_57, i_59, i_63, i_64, i_96, i_97, i_98, i_99, i_100, i_101, i_102, i_103, i_104, i_105, i_106, i_107, i_108, i_109, i_110, i_111, i_112, i_113, i_122, i_200, i_255, i_256, i_257, i_258, i_355, i_400, i_999, i_1000, i_1200, i_5680, i_9999, i_10000, i_99999, j_0, j_1, j_2, j_3, j_4, j_5, j_6, j_9, j_10, j_11, j_98, j_99, j_100, j_999, j_1000, j_9999, j_10000, j_99999, j_1000000, RB_n hR, hle, sg]
  | succ d ih =>
    intro n i acc h1 h2 h3
    obtain ⟨n, rfl⟩ : ∃ m, n = m + 1 := ⟨n - 1, by omega⟩
    have hle : ¬ sN V ≤ i := by omega
    have hlt : i < sN V := by omega
    have hv := hV.2.1 i h2 hlt
    unfold vS at hv
    have r20 := hl i h2 hlt
    have skip : ¬ (p_in V i ∧ s_fm V i = f ∧ s_md V i = m) → g_mb V f m Q i = 0 := fun h => by
      have z1 : g_bel V f m i = 0 := by unfold g_bel; rw [if_neg (fun q => h ⟨q.1.1, q.2.1, q.2.2⟩)]
      have z2 : g_all V f m i = 0 := by unfold g_all; rw [if_neg h]
      unfold g_mb
      rw [z1, z2]
      split <;> rfl
    by_cases hp : p_in V i
    · by_cases hf : s_fm V i = f
      · by_cases hm : s_md V i = m
        · by_cases hQ : Q
          · have nQ : (¬ Q) = False := eq_false (fun q => q hQ)
            by_cases hbl : p_bl V i
            · have e : g_mb V f m Q i = s_mn V i := by unfold g_mb g_bel; rw [if_pos hQ, if_pos ⟨hbl, hf, hm⟩]
              simp (disch := omega) only [fX11_manyBase_6, fX11_manyBase_54, fX11_manyBase_77, Int.reduceEq, Int.reduceNe, Int.reduceLT, Int.reduceLE, Int.reduceAdd, Int.reduceSub, Int.reduceMul, Int.reduceNeg, Int.zero_add, Int.add_zero, nm_eq, bd_some, bv_some, aI_ok, aL_ok, aS_ok, dv_ok, dw_ok, I_add, I_sub, I_mul, I_neg, I_lt, I_le, I_eq, I_nat, J_add, J_sub, J_mul, J_neg, J_lt, J_le, J_eq, I_l, J_i, I_div, J_div, b2_0, b2_1, b2_nar, nar_0, nar_1, zr_0, zr_1, zr_b2, cmp_eq, cmp_le, cmp_lt, cmp_gt, cmp_ge, mx_I, mn_I, mx_L, mn_L, az_I, if_true, if_false, not_true_eq_false, not_false_eq_true, i_0, i_1, i_2, i_3, i_4, i_5, i_6, i_7, i_8, i_9, i_10, i_11, i_12, i_16, i_18, i_20, i_24, i_28, i_29, i_30, i_31, i_32, i_33, i_34, i_35, i_37, i_40, i_41, i_42, i_43, i_45, i_46, i_47, i_48, i_57, i_59, i_63, i_64, i_96, i_97, i_98, i_99, i_100, i_101, i_102, i_103, i_104, i_105, i_106, i_107, i_108, i_109, i_110, i_111, i_112, i_113, i_122, i_200, i_255, i_256, i_257, i_258, i_355, i_400, i_999, i_1000, i_1200, i_5680, i_9999, i_10000, i_99999, j_0, j_1, j_2, j_3, j_4, j_5, j_6, j_9, j_10, j_11, j_98, j_99, j_100, j_999, j_1000, j_9999, j_10000, j_99999, j_1000000, RB_n hR, hle, r_inBase hV hR hb, b2_t hp, r_of0 hV hR, r_of1 hV hR, r_of2 hV hR, r_of3 hV hR, r_of4 hV hR, r_of5 hV hR, r_of6 hV hR, r_of7 hV hR, hf, hm, nQ, r20, b2_t hbl, ih, sg, e, Int.add_assoc]
            · have e : g_mb V f m Q i = 0 := by unfold g_mb g_bel; rw [if_pos hQ, if_neg (fun q => hbl q.1)]
              simp (disch := omega) only [fX11_manyBase_6, fX11_manyBase_54, fX11_manyBase_77, Int.reduceEq, Int.reduceNe, Int.reduceLT, Int.reduceLE, Int.reduceAdd, Int.reduceSub, Int.reduceMul, Int.reduceNeg, Int.zero_add, Int.add_zero, nm_eq, bd_some, bv_some, aI_ok, aL_ok, aS_ok, dv_ok, dw_ok, I_add, I_sub, I_mul, I_neg, I_lt, I_le, I_eq, I_nat, J_add, J_sub, J_mul, J_neg, J_lt, J_le, J_eq, I_l, J_i, I_div, J_div, b2_0, b2_1, b2_nar, nar_0, nar_1, zr_0, zr_1, zr_b2, cmp_eq, cmp_le, cmp_lt, cmp_gt, cmp_ge, mx_I, mn_I, mx_L, mn_L, az_I, if_true, if_false, not_true_eq_false, not_false_eq_true, i_0, i_1, i_2, i_3, i_4, i_5, i_6, i_7, i_8, i_9, i_10, i_11, i_12, i_16, i_18, i_20, i_24, i_28, i_29, i_30, i_31, i_32, i_33, i_34, i_35, i_37, i_40, i_41, i_42, i_43, i_45, i_46, i_47, i_48, i_57, i_59, i_63, i_64, i_96, i_97, i_98, i_99, i_100, i_101, i_102, i_103, i_104, i_105, i_106, i_107, i_108, i_109, i_110, i_111, i_112, i_113, i_122, i_200, i_255, i_256, i_257, i_258, i_355, i_400, i_999, i_1000, i_1200, i_5680, i_9999, i_10000, i_99999, j_0, j_1, j_2, j_3, j_4, j_5, j_6, j_9, j_10, j_11, j_98, j_99, j_100, j_999, j_1000, j_9999, j_10000, j_99999, j_1000000, RB_n hR, hle, r_inBase hV hR hb, b2_t hp, r_of0 hV hR, r_of1 hV hR, r_of2 hV hR, r_of3 hV hR, r_of4 hV hR, r_of5 hV hR, r_of6 hV hR, r_of7 hV hR, hf, hm, nQ, r20, b2_f hbl, ih, sg, e]
          · have nQ : (¬ Q) = True := eq_true hQ
            have e : g_mb V f m Q i = s_mn V i := by unfold g_mb g_all; rw [if_neg hQ, if_pos ⟨hp, hf, hm⟩]
            simp (disch := omega) only [fX11_manyBase_6, fX11_manyBase_54, fX11_manyBase_77, Int.reduceEq, Int.reduceNe, Int.reduceLT, Int.reduceLE, Int.reduceAdd, Int.reduceSub, Int.reduceMul, Int.reduceNeg, Int.zero_add, Int.add_zero, nm_eq, bd_some, bv_some, aI_ok, aL_ok, aS_ok, dv_ok, dw_ok, I_add, I_sub, I_mul, I_neg, I_lt, I_le, I_eq, I_nat, J_add, J_sub, J_mul, J_neg, J_lt, J_le, J_eq, I_l, J_i, I_div, J_div, b2_0, b2_1, b2_nar, nar_0, nar_1, zr_0, zr_1, zr_b2, cmp_eq, cmp_le, cmp_lt, cmp_gt, cmp_ge, mx_I, mn_I, mx_L, mn_L, az_I, if_true, if_false, not_true_eq_false, not_false_eq_true, i_0, i_1, i_2, i_3, i_4, i_5, i_6, i_7, i_8, i_9, i_10, i_11, i_12, i_16, i_18, i_20, i_24, i_28, i_29, i_30, i_31, i_32, i_33, i_34, i_35, i_37, i_40, i_41, i_42, i_43, i_45, i_46, i_47, i_48, i_57, i_59, i_63, i_64, i_96, i_97, i_98, i_99, i_100, i_101, i_102, i_103, i_104, i_105, i_106, i_107, i_108, i_109, i_110, i_111, i_112, i_113, i_122, i_200, i_255, i_256, i_257, i_258, i_355, i_400, i_999, i_1000, i_1200, i_5680, i_9999, i_10000, i_99999, j_0, j_1, j_2, j_3, j_4, j_5, j_6, j_9, j_10, j_11, j_98, j_99, j_100, j_999, j_1000, j_9999, j_10000, j_99999, j_1000000, RB_n hR, hle, r_inBase hV hR hb, b2_t hp, r_of0 hV hR, r_of1 hV hR, r_of2 hV hR, r_of3 hV hR, r_of4 hV hR, r_of5 hV hR, r_of6 hV hR, r_of7 hV hR, hf, hm, nQ, ih, sg, e, Int.add_assoc]
        · have e := skip (fun q => hm q.2.2)
          simp (disch := omega) only [fX11_manyBase_6, fX11_manyBase_54, Int.reduceEq, Int.reduceNe, Int.reduceLT, Int.reduceLE, Int.reduceAdd, Int.reduceSub, Int.reduceMul, Int.reduceNeg, Int.zero_add, Int.add_zero, nm_eq, bd_some, bv_some, aI_ok, aL_ok, aS_ok, dv_ok, dw_ok, I_add, I_sub, I_mul, I_neg, I_lt, I_le, I_eq, I_nat, J_add, J_sub, J_mul, J_neg, J_lt, J_le, J_eq, I_l, J_i, I_div, J_div, b2_0, b2_1, b2_nar, nar_0, nar_1, zr_0, zr_1, zr_b2, cmp_eq, cmp_le, cmp_lt, cmp_gt, cmp_ge, mx_I, mn_I, mx_L, mn_L, az_I, if_true, if_false, not_true_eq_false, not_false_eq_true, i_0, i_1, i_2, i_3, i_4, i_5, i_6, i_7, i_8, i_9, i_10, i_11, i_12, i_16, i_18, i_20, i_24, i_28, i_29, i_30, i_31, i_32, i_33, i_34, i_35, i_37, i_40, i_41, i_42, i_43, i_45, i_46, i_47, i_48, i_57, i_59, i_63, i_64, i_96, i_97, i_98, i_99, i_100, i_101, i_102, i_103, i_104, i_105, i_106, i_107, i_108, i_109, i_110, i_111, i_112, i_113, i_122, i_200, i_255, i_256, i_257, i_258, i_355, i_400, i_999, i_1000, i_1200, i_5680, i_9999, i_10000, i_99999, j_0, j_1, j_2, j_3, j_4, j_5, j_6, j_9, j_10, j_11, j_98, j_99, j_100, j_999, j_1000, j_9999, j_10000, j_99999, j_1000000, RB_n hR, hle, r_inBase hV hR hb, b2_t hp, r_of0 hV hR, r_of1 hV hR, r_of2 hV hR, r_of3 hV hR, r_of4 hV hR, r_of5 hV hR, r_of6 hV hR, r_of7 hV hR, hf, hm, ih, sg, e]
      · have e := skip (fun q => hf q.2.1)
        simp (disch := omega) only [fX11_manyBase_6, fX11_manyBase_54, Int.reduceEq, Int.reduceNe, Int.reduceLT, Int.reduceLE, Int.reduceAdd, Int.reduceSub, Int.reduceMul, Int.reduceNeg, Int.zero_add, Int.add_zero, nm_eq, bd_some, bv_some, aI_ok, aL_ok, aS_ok, dv_ok, dw_ok, I_add, I_sub, I_mul, I_neg, I_lt, I_le, I_eq, I_nat, J_add, J_sub, J_mul, J_neg, J_lt, J_le, J_eq, I_l, J_i, I_div, J_div, b2_0, b2_1, b2_nar, nar_0, nar_1, zr_0, zr_1, zr_b2, cmp_eq, cmp_le, cmp_lt, cmp_gt, cmp_ge, mx_I, mn_I, mx_L, mn_L, az_I, if_true, if_false, not_true_eq_false, not_false_eq_true, i_0, i_1, i_2, i_3, i_4, i_5, i_6, i_7, i_8, i_9, i_10, i_11, i_12, i_16, i_18, i_20, i_24, i_28, i_29, i_30, i_31, i_32, i_33, i_34, i_35, i_37, i_40, i_41, i_42, i_43, i_45, i_46, i_47, i_48, i_57, i_59, i_63, i_64, i_96, i_97, i_98, i_99, i_100, i_101, i_102, i_103, i_104, i_105, i_106, i_107, i_108, i_109, i_110, i_111, i_112, i_113, i_122, i_200, i_255, i_256, i_257, i_258, i_355, i_400, i_999, i_1000, i_1200, i_5680, i_9999, i_10000, i_99999, j_0, j_1, j_2, j_3, j_4, j_5, j_6, j_9, j_10, j_11, j_98, j_99, j_100, j_999, j_1000, j_9999, j_10000, j_99999, j_1000000, RB_n hR, hle, r_inBase hV hR hb, b2_t hp, r_of0 hV hR, r_of1 hV hR, r_of2 hV hR, r_of3 hV hR, r_of4 hV hR, r_of5 hV hR, r_of6 hV hR, r_of7 hV hR, hf, ih, sg, e]
    · have e := skip (fun q => hp q.1)
      simp (disch := omega) only [fX11_manyBase_6, fX11_manyBase_54, Int.reduceEq, Int.reduceNe, Int.reduceLT, Int.reduceLE, Int.reduceAdd, Int.reduceSub, Int.reduceMul, Int.reduceNeg, Int.zero_add, Int.add_zero, nm_eq, bd_some, bv_some, aI_ok, aL_ok, aS_ok, dv_ok, dw_ok, I_add, I_sub, I_mul, I_neg, I_lt, I_le, I_eq, I_nat, J_add, J_sub, J_mul, J_neg, J_lt, J_le, J_eq, I_l, J_i, I_div, J_div, b2_0, b2_1, b2_nar, nar_0, nar_1, zr_0, zr_1, zr_b2, cmp_eq, cmp_le, cmp_lt, cmp_gt, cmp_ge, mx_I, mn_I, mx_L, mn_L, az_I, if_true, if_false, not_true_eq_false, not_false_eq_true, i_0, i_1, i_2, i_3, i_4, i_5, i_6, i_7, i_8, i_9, i_10, i_11, i_12, i_16, i_18, i_20, i_24, i_28, i_29, i_30, i_31, i_32, i_33, i_34, i_35, i_37, i_40, i_41, i_42, i_43, i_45, i_46, i_47, i_48, i_57, i_59, i_63, i_64, i_96, i_97, i_98, i_99, i_100, i_101, i_102, i_103, i_104, i_105, i_106, i_107, i_108, i_109, i_110, i_111, i_112, i_113, i_122, i_200, i_255, i_256, i_257, i_258, i_355, i_400, i_999, i_1000, i_1200, i_5680, i_9999, i_10000, i_99999, j_0, j_1, j_2, j_3, j_4, j_5, j_6, j_9, j_10, j_11, j_98, j_99, j_100, j_999, j_1000, j_9999, j_10000, j_99999, j_1000000, RB_n hR, hle, r_inBase hV hR hb, b2_f hp, ih, sg, e]
theorem r_mb {Q : Prop} [Decidable Q] (hV : vB V) (hN : 100 ≤ N) (hR : RB V ν) (hb : ∀ f, 0 ≤ f → f < fN V → ν.1 22 f.toNat = I_ (x_bs V f)) (hl : ∀ z, 0 ≤ z → z < sN V → ν.1 20 z.toNat = I_ (b2 (p_bl V z))) (f0 : -10 ≤ f) (f1 : f ≤ 10) (m0 : -10 ≤ m) (m1 : m ≤ 10) : fX11_manyBase N (I_ f) (I_ m) (I_ (b2 Q)) ν = some (I_ (if Q then x_bel V f m else x_all V f m), ν) := by
  have hn := hV.1
  unfold vN at hn
  have := r_mb_l (N := N) (Q := Q) hV hR hb hl f0 f1 m0 m1 (sN V).toNat N 0 0 (by omega) (by omega) (by omega)
  rw [Int.zero_add] at this
  have e : sg (sN V).toNat 0 (g_mb V f m Q) = (if Q then x_bel V f m else x_all V f m) := by
    by_cases hQ : Q
    · rw [if_pos hQ]; exact sg_congr _ _ (fun z _ _ => by unfold g_mb; rw [if_pos hQ])
    · rw [if_neg hQ]; exact sg_congr _ _ (fun z _ _ => by unfold g_mb; rw [if_neg hQ])
  rw [e] at this
  simp (disch := omega) only [fX11_manyBase, Int.reduceEq, Int.reduceNe, Int.reduceLT, Int.reduceLE, Int.reduceAdd, Int.reduceSub, Int.reduceMul, Int.reduceNeg, Int.zero_add, Int.add_zero, nm_eq, bd_some, bv_some, aI_ok, aL_ok, aS_ok, dv_ok, dw_ok, I_add, I_sub, I_mul, I_neg, I_lt, I_le, I_eq, I_nat, J_add, J_sub, J_mul, J_neg, J_lt, J_le, J_eq, I_l, J_i, I_div, J_div, b2_0, b2_1, b2_nar, nar_0, nar_1, zr_0, zr_1, zr_b2, cmp_eq, cmp_le, cmp_lt, cmp_gt, cmp_ge, mx_I, mn_I, mx_L, mn_L, az_I, if_true, if_false, not_true_eq_false, not_false_eq_true, i_0, i_1, i_2, i_3, i_4, i_5, i_6, i_7, i_8, i_9, i_10, i_11, i_12, i_16, i_18, i_20, i_24, i_28, i_29, i_30, i_31, i_32, i_33, i_34, i_35, i_37, i_40, i_41, i_42, i_43, i_45, i_46, i_47, i_48, i_57, i_59, i_63, i_64, i_96, i_97, i_98, i_99, i_100, i_101, i_102, i_103, i_104, i_105, i_106, i_107, i_108, i_109, i_110, i_111, i_112, i_113, i_122, i_200, i_255, i_256, i_257, i_258, i_355, i_400, i_999, i_1000, i_1200, i_5680, i_9999, i_10000, i_99999, j_0, j_1, j_2, j_3, j_4, j_5, j_6, j_9, j_10, j_11, j_98, j_99, j_100, j_999, j_1000, j_9999, j_10000, j_99999, j_1000000, this]
theorem r_out (hV : vB V) (hN : 100 ≤ N) (hR : RB V ν) (hb : ∀ f, 0 ≤ f → f < fN V → ν.1 22 f.toNat = I_ (x_bs V f)) (hl : ∀ z, 0 ≤ z → z < sN V → ν.1 20 z.toNat = I_ (b2 (p_bl V z))) (f0 : -10 ≤ f) (f1 : f ≤ 10) (m0 : -10 ≤ m) (m1 : m ≤ 10) : fX11_areOut N (I_ f) (I_ m) ν = some (I_ (b2 (p_out V f m)), ν) := by
  have a := x_all_in hV f m
  have c := x_bel_in hV f m
  have q1 := r_mb (N := N) (Q := True) hV hN hR hb hl f0 f1 m0 m1
  have q0 := r_mb (N := N) (Q := False) hV hN hR hb hl f0 f1 m0 m1
  rw [b2_t trivial, if_pos trivial] at q1
  rw [b2_f (fun q => q), if_neg (fun q => q)] at q0
  unfold b2
  simp (disch := omega) only [fX11_areOut, Int.reduceEq, Int.reduceNe, Int.reduceLT, Int.reduceLE, Int.reduceAdd, Int.reduceSub, Int.reduceMul, Int.reduceNeg, Int.zero_add, Int.add_zero, nm_eq, bd_some, bv_some, aI_ok, aL_ok, aS_ok, dv_ok, dw_ok, I_add, I_sub, I_mul, I_neg, I_lt, I_le, I_eq, I_nat, J_add, J_sub, J_mul, J_neg, J_lt, J_le, J_eq, I_l, J_i, I_div, J_div, b2_0, b2_1, b2_nar, nar_0, nar_1, zr_0, zr_1, zr_b2, cmp_eq, cmp_le, cmp_lt, cmp_gt, cmp_ge, mx_I, mn_I, mx_L, mn_L, az_I, if_true, if_false, not_true_eq_false, not_false_eq_true, i_0, i_1, i_2, i_3, i_4, i_5, i_6, i_7, i_8, i_9, i_10, i_11, i_12, i_16, i_18, i_20, i_24, i_28, i_29, i_30, i_31, i_32, i_33, i_34, i_35, i_37, i_40, i_41, i_42, i_43, i_45, i_46, i_47, i_48, i_57, i_59, i_63, i_64, i_96, i_97, i_98, i_99, i_100, i_101, i_102, i_103, i_104, i_105, i_106, i_107, i_108, i_109, i_110, i_111, i_112, i_113, i_122, i_200, i_255, i_256, i_257, i_258, i_355, i_400, i_999, i_1000, i_1200, i_5680, i_9999, i_10000, i_99999, j_0, j_1, j_2, j_3, j_4, j_5, j_6, j_9, j_10, j_11, j_98, j_99, j_100, j_999, j_1000, j_9999, j_10000, j_99999, j_1000000, q1, q0]
  (repeat' split) <;> first | rfl | (exfalso; omega)
theorem r_la159 (hV : vB V) (hN : 100 ≤ N) : ∀ (d n : Nat) (i : Int) (ν : Mem), d < n → 0 ≤ i → i + d = sN V → RB V ν → (∀ f, 0 ≤ f → f < fN V → ν.1 22 f.toNat = I_ (x_bs V f)) → (∀ z, 0 ≤ z → z < sN V → ν.1 18 z.toNat = I_ (s_of V z) ∧ ν.1 19 z.toNat = I_ (s_nt V z) ∧ ν.1 20 z.toNat = I_ (b2 (p_bl V z))) → (∀ z, 0 ≤ z → z < i → ν.1 21 z.toNat = I_ (b2 (p_to V z))) → ∃ ν', fX11_lays_159 N n (I_ i) ν = some ((), ν') ∧ Fr P_la ν ν' ∧ LA V ν' := by
  have hn := hV.1
  unfold vN at hn
  intro d
  induction d with
  | zero =>
    intro n i ν h1 h2 h3 hR hb hz h21
    obtain ⟨n, rfl⟩ : ∃ m, n = m + 1 := ⟨n - 1, by omega⟩
    have hle : sN V ≤ i := by omega
    refine ⟨ν, ?_, Fr.rf, hb, fun z a c => ⟨(hz z a c).1, (hz z a c).2.1, (hz z a c).2.2, h21 z a (by omega)⟩⟩
    simp (disch := omega) only [fX11_lays_159, Int.reduceEq, Int.reduceNe, Int.reduceLT, Int.reduceLE, Int.reduceAdd, Int.reduceSub, Int.reduceMul, Int.reduceNeg, Int.zero_add, Int.add_zero, nm_eq, bd_some, bv_some, aI_ok, aL_ok, aS_ok, dv_ok, dw_ok, I_add, I_sub, I_mul, I_neg, I_lt, I_le, I_eq, I_nat, J_add, J_sub, J_mul, J_neg, J_lt, J_le, J_eq, I_l, J_i, I_div, J_div, b2_0, b2_1, b2_nar, nar_0, nar_1, zr_0, zr_1, zr_b2, cmp_eq, cmp_le, cmp_lt, cmp_gt, cmp_ge, mx_I, mn_I, mx_L, mn_L, az_I, if_true, if_false, not_true_eq_false, not_false_eq_true, i_0, i_1, i_2, i_3, i_4, i_5, i_6, i_7, i_8, i_9, i_10, i_11, i_12, i_16, i_18, i_20, i_24, i_28, i_29, i_30, i_31, i_32, i_33, i_34, i_35, i_37, i_40, i_41, i_42, i_43, i_45, i_46, i_47, i_48, i_57, i_59, i_63, i_64, i_96, i_97, i_98, i_99, i_100, i_101, i_102, i_103, i_104, i_105, i_106, i_107, i_108, i_109, i_110, i_111, i_112, i_113, i_122, i_200, i_255, i_256, i_257, i_258, i_355, i_400, i_999, i_1000, i_1200, i_5680, i_9999, i_10000, i_99999, j_0, j_1, j_2, j_3, j_4, j_5, j_6, j_9, j_10, j_11, j_98, j_99, j_100, j_999, j_1000, j_9999, j_10000, j_99999, j_1000000, RB_n hR, hle]
  | succ d ih =>
    intro n i ν h1 h2 h3 hR hb hz h21
    obtain ⟨n, rfl⟩ : ∃ m, n = m + 1 := ⟨n - 1, by omega⟩
    have hle : ¬ sN V ≤ i := by omega
    have hlt : i < sN V := by omega
    have hv := hV.2.1 i h2 hlt
    unfold vS at hv
    have r20 := (hz i h2 hlt).2.2
    have go : ∃ ν', fX11_lays_159 N n (I_ (i + 1)) (stI ν 21 i.toNat (I_ (b2 (p_to V i)))) = some ((), ν') ∧ Fr P_la ν ν' ∧ LA V ν' := by
      have hF : Fr P_la ν (stI ν 21 i.toNat (I_ (b2 (p_to V i)))) := Fr.rf.stI (by unfold P_la; omega)
      obtain ⟨ν', e1, e2, e3⟩ := ih n (i + 1) _ (by omega) (by omega) (by omega) (hR.F hF P_la_rb) (fun f a c => by simp (disch := omega) only [st_ne]; exact hb f a c) (fun z a c => by simp (disch := omega) only [st_ne]; exact hz z a c) (fun z a c => by
        simp (disch := omega) only [at_I]
        by_cases hq : z = i
        · rw [if_pos hq, hq]
        · rw [if_neg hq]; exact h21 z a (by omega))
      exact ⟨ν', e1, hF.tr e2, e3⟩
    obtain ⟨ν', e1, e2⟩ := go
    refine ⟨ν', ?_, e2⟩
    by_cases hp : p_in V i
    · by_cases hbl : p_bl V i
      · by_cases ho : p_out V (s_fm V i) (s_md V i)
        · have ht : ¬ p_to V i := fun q => q.2 ⟨hbl, ho⟩
          rw [b2_f ht] at e1
          simp (disch := omega) only [fX11_lays_159, Int.reduceEq, Int.reduceNe, Int.reduceLT, Int.reduceLE, Int.reduceAdd, Int.reduceSub, Int.reduceMul, Int.reduceNeg, Int.zero_add, Int.add_zero, nm_eq, bd_some, bv_some, aI_ok, aL_ok, aS_ok, dv_ok, dw_ok, I_add, I_sub, I_mul, I_neg, I_lt, I_le, I_eq, I_nat, J_add, J_sub, J_mul, J_neg, J_lt, J_le, J_eq, I_l, J_i, I_div, J_div, b2_0, b2_1, b2_nar, nar_0, nar_1, zr_0, zr_1, zr_b2, cmp_eq, cmp_le, cmp_lt, cmp_gt, cmp_ge, mx_I, mn_I, mx_L, mn_L, az_I, if_true, if_false, not_true_eq_false, not_false_eq_true, i_0, i_1, i_2, i_3, i_4, i_5, i_6, i_7, i_8, i_9, i_10, i_11, i_12, i_16, i_18, i_20, i_24, i_28, i_29, i_30, i_31, i_32, i_33, i_34, i_35, i_37, i_40, i_41, i_42, i_43, i_45, i_46, i_47, i_48, i_57, i_59, i_63, i_64, i_96, i_97, i_98, i_99, i_100, i_101, i_102, i_103, i_104, i_105, i_106, i_107, i_108, i_109, i_110, i_111, i_112, i_113, i_122, i_200, i_255, i_256, i_257, i_258, i_355, i_400, i_999, i_1000, i_1200, i_5680, i_9999, i_10000, i_99999, j_0, j_1, j_2, j_3, j_4, j_5, j_6, j_9, j_10, j_11, j_98, j_99, j_100, j_999, j_1000, j_9999, j_10000, j_99999, j_1000000, RB_n hR, hle, r_inBase hV hR hb, b2_t hp, r20, b2_t hbl, r_of0 hV hR, r_of1 hV hR, r_of2 hV hR, r_of3 hV hR, r_of4 hV hR, r_of5 hV hR, r_of6 hV hR, r_of7 hV hR, r_out hV hN hR hb (fun z a c => (hz z a c).2.2), b2_t ho, e1]
        · have ht : p_to V i := ⟨hp, fun q => ho q.2⟩
          rw [b2_t ht] at e1
          simp (disch := omega) only [fX11_lays_159, Int.reduceEq, Int.reduceNe, Int.reduceLT, Int.reduceLE, Int.reduceAdd, Int.reduceSub, Int.reduceMul, Int.reduceNeg, Int.zero_add, Int.add_zero, nm_eq, bd_some, bv_some, aI_ok, aL_ok, aS_ok, dv_ok, dw_ok, I_add, I_sub, I_mul, I_neg, I_lt, I_le, I_eq, I_nat, J_add, J_sub, J_mul, J_neg, J_lt, J_le, J_eq, I_l, J_i, I_div, J_div, b2_0, b2_1, b2_nar, nar_0, nar_1, zr_0, zr_1, zr_b2, cmp_eq, cmp_le, cmp_lt, cmp_gt, cmp_ge, mx_I, mn_I, mx_L, mn_L, az_I, if_true, if_false, not_true_eq_false, not_false_eq_true, i_0, i_1, i_2, i_3, i_4, i_5, i_6, i_7, i_8, i_9, i_10, i_11, i_12, i_16, i_18, i_20, i_24, i_28, i_29, i_30, i_31, i_32, i_33, i_34, i_35, i_37, i_40, i_41, i_42, i_43, i_45, i_46, i_47, i_48, i_57, i_59, i_63, i_64, i_96, i_97, i_98, i_99, i_100, i_101, i_102, i_103, i_104, i_105, i_106, i_107, i_108, i_109, i_110, i_111, i_112, i_113, i_122, i_200, i_255, i_256, i_257, i_258, i_355, i_400, i_999, i_1000, i_1200, i_5680, i_9999, i_10000, i_99999, j_0, j_1, j_2, j_3, j_4, j_5, j_6, j_9, j_10, j_11, j_98, j_99, j_100, j_999, j_1000, j_9999, j_10000, j_99999, j_1000000, RB_n hR, hle, r_inBase hV hR hb, b2_t hp, r20, b2_t hbl, r_of0 hV hR, r_of1 hV hR, r_of2 hV hR, r_of3 hV hR, r_of4 hV hR, r_of5 hV hR, r_of6 hV hR, r_of7 hV hR, r_out hV hN hR hb (fun z a c => (hz z a c).2.2), b2_f ho, e1]
      · have ht : p_to V i := ⟨hp, fun q => hbl q.1⟩
        rw [b2_t ht] at e1
        simp (disch := omega) only [fX11_lays_159, Int.reduceEq, Int.reduceNe, Int.reduceLT, Int.reduceLE, Int.reduceAdd, Int.reduceSub, Int.reduceMul, Int.reduceNeg, Int.zero_add, Int.add_zero, nm_eq, bd_some, bv_some, aI_ok, aL_ok, aS_ok, dv_ok, dw_ok, I_add, I_sub, I_mul, I_neg, I_lt, I_le, I_eq, I_nat, J_add, J_sub, J_mul, J_neg, J_lt, J_le, J_eq, I_l, J_i, I_div, J_div, b2_0, b2_1, b2_nar, nar_0, nar_1, zr_0, zr_1, zr_b2, cmp_eq, cmp_le, cmp_lt, cmp_gt, cmp_ge, mx_I, mn_I, mx_L, mn_L, az_I, if_true, if_false, not_true_eq_false, not_false_eq_true, i_0, i_1, i_2, i_3, i_4, i_5, i_6, i_7, i_8, i_9, i_10, i_11, i_12, i_16, i_18, i_20, i_24, i_28, i_29, i_30, i_31, i_32, i_33, i_34, i_35, i_37, i_40, i_41, i_42, i_43, i_45, i_46, i_47, i_48, i_57, i_59, i_63, i_64, i_96, i_97, i_98, i_99, i_100, i_101, i_102, i_103, i_104, i_105, i_106, i_107, i_108, i_109, i_110, i_111, i_112, i_113, i_122, i_200, i_255, i_256, i_257, i_258, i_355, i_400, i_999, i_1000, i_1200, i_5680, i_9999, i_10000, i_99999, j_0, j_1, j_2, j_3, j_4, j_5, j_6, j_9, j_10, j_11, j_98, j_99, j_100, j_999, j_1000, j_9999, j_10000, j_99999, j_1000000, RB_n hR, hle, r_inBase hV hR hb, b2_t hp, r20, b2_f hbl, e1]
    · have ht : ¬ p_to V i := fun q => hp q.1
      rw [b2_f ht] at e1
      simp (disch := omega) only [fX11_lays_159, Int.reduceEq, Int.reduceNe, Int.reduceLT, Int.reduceLE, Int.reduceAdd, Int.reduceSub, Int.reduceMul, Int.reduceNeg, Int.zero_add, Int.add_zero, nm_eq, bd_some, bv_some, aI_ok, aL_ok, aS_ok, dv_ok, dw_ok, I_add, I_sub, I_mul, I_neg, I_lt, I_le, I_eq, I_nat, J_add, J_sub, J_mul, J_neg, J_lt, J_le, J_eq, I_l, J_i, I_div, J_div, b2_0, b2_1, b2_nar, nar_0, nar_1, zr_0, zr_1, zr_b2, cmp_eq, cmp_le, cmp_lt, cmp_gt, cmp_ge, mx_I, mn_I, mx_L, mn_L, az_I, if_true, if_false, not_true_eq_false, not_false_eq_true, i_0, i_1, i_2, i_3, i_4, i_5, i_6, i_7, i_8, i_9, i_10, i_11, i_12, i_16, i_18, i_20, i_24, i_28, i_29, i_30, i_31, i_32, i_33, i_34, i_35, i_37, i_40, i_41, i_42, i_43, i_45, i_46, i_47, i_48, i_57, i_59, i_63, i_64, i_96, i_97, i_98, i_99, i_100, i_101, i_102, i_103, i_104, i_105, i_106, i_107, i_108, i_109, i_110, i_111, i_112, i_113, i_122, i_200, i_255, i_256, i_257, i_258, i_355, i_400, i_999, i_1000, i_1200, i_5680, i_9999, i_10000, i_99999, j_0, j_1, j_2, j_3, j_4, j_5, j_6, j_9, j_10, j_11, j_98, j_99, j_100, j_999, j_1000, j_9999, j_10000, j_99999, j_1000000, RB_n hR, hle, r_inBase hV hR hb, b2_f hp, e1]
theorem r_la42 (hV : vB V) (hW : vO V) (hN : 100 ≤ N) : ∀ (d n : Nat) (i : Int) (ν : Mem), d < n → 0 ≤ i → i + d = sN V → RB V ν → RO N V ν → (∀ f, 0 ≤ f → f < fN V → ν.1 22 f.toNat = I_ (x_bs V f)) → (∀ z, 0 ≤ z → z < i → ν.1 18 z.toNat = I_ (s_of V z) ∧ ν.1 19 z.toNat = I_ (s_nt V z) ∧ ν.1 20 z.toNat = I_ (b2 (p_bl V z))) → ∃ ν', fX11_lays_42 N n (I_ i) ν = some ((), ν') ∧ Fr P_la ν ν' ∧ LA V ν' := by
  have hn := hV.1
  unfold vN at hn
  intro d
  induction d with
  | zero =>
    intro n i ν h1 h2 h3 hR hO hb hz
    obtain ⟨n, rfl⟩ : ∃ m, n = m + 1 := ⟨n - 1, by omega⟩
    have hle : sN V ≤ i := by omega
    have hi : i = sN V := by omega
    subst hi
    obtain ⟨ν', e1, e2, e3⟩ := r_la159 (N := N) hV hN (sN V).toNat N 0 ν (by omega) (by omega) (by omega) hR hb hz (fun z a c => by omega)
    refine ⟨ν', ?_, e2, e3⟩
    simp (disch := omega) only [fX11_lays_42, Int.reduceEq, Int.reduceNe, Int.reduceLT, Int.reduceLE, Int.reduceAdd, Int.reduceSub, Int.reduceMul, Int.reduceNeg, Int.zero_add, Int.add_zero, nm_eq, bd_some, bv_some, aI_ok, aL_ok, aS_ok, dv_ok, dw_ok, I_add, I_sub, I_mul, I_neg, I_lt, I_le, I_eq, I_nat, J_add, J_sub, J_mul, J_neg, J_lt, J_le, J_eq, I_l, J_i, I_div, J_div, b2_0, b2_1, b2_nar, nar_0, nar_1, zr_0, zr_1, zr_b2, cmp_eq, cmp_le, cmp_lt, cmp_gt, cmp_ge, mx_I, mn_I, mx_L, mn_L, az_I, if_true, if_false, not_true_eq_false, not_false_eq_true, i_0, i_1, i_2, i_3, i_4, i_5, i_6, i_7, i_8, i_9, i_10, i_11, i_12, i_16, i_18, i_20, i_24, i_28, i_29, i_30, i_31, i_32, i_33, i_34, i_35, i_37, i_40, i_41, i_42, i_43, i_45, i_46, i_47, i_48, i_57, i_59, i_63, i_64, i_96, i_97, i_98, i_99, i_100, i_101, i_102, i_103, i_104, i_105, i_106, i_107, i_108, i_109, i_110, i_111, i_112, i_113, i_122, i_200, i_255, i_256, i_257, i_258, i_355, i_400, i_999, i_1000, i_1200, i_5680, i_9999, i_10000, i_99999, j_0, j_1, j_2, j_3, j_4, j_5, j_6, j_9, j_10, j_11, j_98, j_99, j_100, j_999, j_1000, j_9999, j_10000, j_99999, j_1000000, RB_n hR, hle, e1]
  | succ d ih =>
    intro n i ν h1 h2 h3 hR hO hb hz
    obtain ⟨n, rfl⟩ : ∃ m, n = m + 1 := ⟨n - 1, by omega⟩
    have hle : ¬ sN V ≤ i := by omega
    have hlt : i < sN V := by omega
    have hv := hV.2.1 i h2 hlt
    unfold vS at hv
    have hw := hW i h2 hlt
    have hc := c_of_in hV (f := s_fm V i) (m := s_md V i) (by omega) (by omega) (by omega) (by omega)
    obtain ⟨ν1, a1, a2⟩ := hO i h2 hlt ν (fun k j _ => rfl)
    have hF1 : Fr P_la ν ν1 := a2.mono (fun k j h => by unfold P_sk at h; unfold P_la; omega)
    have hF2 : Fr P_la ν (stI ν1 18 i.toNat (I_ (s_of V i))) := hF1.stI (by unfold P_la; omega)
    have hF3 : Fr P_la ν (stI (stI ν1 18 i.toNat (I_ (s_of V i))) 19 i.toNat (I_ (s_nt V i))) := hF2.stI (by unfold P_la; omega)
    have hR2 := hR.F hF2 P_la_rb
    have hR3 := hR.F hF3 P_la_rb
    have q1 : ∀ c, 18 ≤ c ∧ c ≤ 22 → ∀ j, ν1.1 c j = ν.1 c j := fun c hc j => (a2 c j (by unfold P_sk; omega)).1
    have hb3 : ∀ f, 0 ≤ f → f < fN V → (stI (stI ν1 18 i.toNat (I_ (s_of V i))) 19 i.toNat (I_ (s_nt V i))).1 22 f.toNat = I_ (x_bs V f) := fun f a c => by
      simp (disch := omega) only [st_ne]
      rw [q1 22 (by omega)]; exact hb f a c
    have go : ∃ ν', fX11_lays_42 N n (I_ (i + 1)) (stI (stI (stI ν1 18 i.toNat (I_ (s_of V i))) 19 i.toNat (I_ (s_nt V i))) 20 i.toNat (I_ (b2 (p_bl V i)))) = some ((), ν') ∧ Fr P_la ν ν' ∧ LA V ν' := by
      have hF4 : Fr P_la ν (stI (stI (stI ν1 18 i.toNat (I_ (s_of V i))) 19 i.toNat (I_ (s_nt V i))) 20 i.toNat (I_ (b2 (p_bl V i)))) := hF3.stI (by unfold P_la; omega)
      obtain ⟨ν', e1, e2, e3⟩ := ih n (i + 1) _ (by omega) (by omega) (by omega) (hR.F hF4 P_la_rb) (hO.F hF4 P_la_rb) (fun f a c => by
        simp (disch := omega) only [st_ne]
        rw [q1 22 (by omega)]; exact hb f a c) (fun z a c => by
        simp (disch := omega) only [st_ne, at_I]
        by_cases hq : z = i
        · rw [if_pos hq, if_pos hq, if_pos hq, hq]; exact ⟨rfl, rfl, rfl⟩
        · rw [if_neg hq, if_neg hq, if_neg hq, q1 18 (by omega), q1 19 (by omega), q1 20 (by omega)]
          exact hz z a (by omega))
      exact ⟨ν', e1, hF4.tr e2, e3⟩
    obtain ⟨ν', e1, e2⟩ := go
    refine ⟨ν', ?_, e2⟩
    have e106 : fX11_lays_106 N (fun v1 μ => fX11_lays_42 N n v1 μ) (I_ i) (I_ (s_nt V i)) (I_ i) (stI ν1 18 i.toNat (I_ (s_of V i))) = some ((), ν') := by
      by_cases hp : p_in V i
      · by_cases hk : s_nt V i < c_of V (s_fm V i) (s_md V i)
        · have hbl : p_bl V i := ⟨hp, hk⟩
          have hk' : ¬ c_of V (s_fm V i) (s_md V i) ≤ s_nt V i := by omega
          rw [b2_t hbl] at e1
          simp (disch := omega) only [fX11_lays_106, Int.reduceEq, Int.reduceNe, Int.reduceLT, Int.reduceLE, Int.reduceAdd, Int.reduceSub, Int.reduceMul, Int.reduceNeg, Int.zero_add, Int.add_zero, nm_eq, bd_some, bv_some, aI_ok, aL_ok, aS_ok, dv_ok, dw_ok, I_add, I_sub, I_mul, I_neg, I_lt, I_le, I_eq, I_nat, J_add, J_sub, J_mul, J_neg, J_lt, J_le, J_eq, I_l, J_i, I_div, J_div, b2_0, b2_1, b2_nar, nar_0, nar_1, zr_0, zr_1, zr_b2, cmp_eq, cmp_le, cmp_lt, cmp_gt, cmp_ge, mx_I, mn_I, mx_L, mn_L, az_I, if_true, if_false, not_true_eq_false, not_false_eq_true, i_0, i_1, i_2, i_3, i_4, i_5, i_6, i_7, i_8, i_9, i_10, i_11, i_12, i_16, i_18, i_20, i_24, i_28, i_29, i_30, i_31, i_32, i_33, i_34, i_35, i_37, i_40, i_41, i_42, i_43, i_45, i_46, i_47, i_48, i_57, i_59, i_63, i_64, i_96, i_97, i_98, i_99, i_100, i_101, i_102, i_103, i_104, i_105, i_106, i_107, i_108, i_109, i_110, i_111, i_112, i_113, i_122, i_200, i_255, i_256, i_257, i_258, i_355, i_400, i_999, i_1000, i_1200, i_5680, i_9999, i_10000, i_99999, j_0, j_1, j_2, j_3, j_4, j_5, j_6, j_9, j_10, j_11, j_98, j_99, j_100, j_999, j_1000, j_9999, j_10000, j_99999, j_1000000, r_inBase hV hR3 hb3, b2_t hp, at_I, r_of0 hV hR3, r_of1 hV hR3, r_of2 hV hR3, r_of3 hV hR3, r_of4 hV hR3, r_of5 hV hR3, r_of6 hV hR3, r_of7 hV hR3, r_costOf hV hR3, hk', e1]
        · have hbl : ¬ p_bl V i := fun q => hk q.2
          have hk' : c_of V (s_fm V i) (s_md V i) ≤ s_nt V i := by omega
          rw [b2_f hbl] at e1
          simp (disch := omega) only [fX11_lays_106, Int.reduceEq, Int.reduceNe, Int.reduceLT, Int.reduceLE, Int.reduceAdd, Int.reduceSub, Int.reduceMul, Int.reduceNeg, Int.zero_add, Int.add_zero, nm_eq, bd_some, bv_some, aI_ok, aL_ok, aS_ok, dv_ok, dw_ok, I_add, I_sub, I_mul, I_neg, I_lt, I_le, I_eq, I_nat, J_add, J_sub, J_mul, J_neg, J_lt, J_le, J_eq, I_l, J_i, I_div, J_div, b2_0, b2_1, b2_nar, nar_0, nar_1, zr_0, zr_1, zr_b2, cmp_eq, cmp_le, cmp_lt, cmp_gt, cmp_ge, mx_I, mn_I, mx_L, mn_L, az_I, if_true, if_false, not_true_eq_false, not_false_eq_true, i_0, i_1, i_2, i_3, i_4, i_5, i_6, i_7, i_8, i_9, i_10, i_11, i_12, i_16, i_18, i_20, i_24, i_28, i_29, i_30, i_31, i_32, i_33, i_34, i_35, i_37, i_40, i_41, i_42, i_43, i_45, i_46, i_47, i_48, i_57, i_59, i_63, i_64, i_96, i_97, i_98, i_99, i_100, i_101, i_102, i_103, i_104, i_105, i_106, i_107, i_108, i_109, i_110, i_111, i_112, i_113, i_122, i_200, i_255, i_256, i_257, i_258, i_355, i_400, i_999, i_1000, i_1200, i_5680, i_9999, i_10000, i_99999, j_0, j_1, j_2, j_3, j_4, j_5, j_6, j_9, j_10, j_11, j_98, j_99, j_100, j_999, j_1000, j_9999, j_10000, j_99999, j_1000000, r_inBase hV hR3 hb3, b2_t hp, at_I, r_of0 hV hR3, r_of1 hV hR3, r_of2 hV hR3, r_of3 hV hR3, r_of4 hV hR3, r_of5 hV hR3, r_of6 hV hR3, r_of7 hV hR3, r_costOf hV hR3, hk', e1]
      · have hbl : ¬ p_bl V i := fun q => hp q.1
        rw [b2_f hbl] at e1
        simp (disch := omega) only [fX11_lays_106, Int.reduceEq, Int.reduceNe, Int.reduceLT, Int.reduceLE, Int.reduceAdd, Int.reduceSub, Int.reduceMul, Int.reduceNeg, Int.zero_add, Int.add_zero, nm_eq, bd_some, bv_some, aI_ok, aL_ok, aS_ok, dv_ok, dw_ok, I_add, I_sub, I_mul, I_neg, I_lt, I_le, I_eq, I_nat, J_add, J_sub, J_mul, J_neg, J_lt, J_le, J_eq, I_l, J_i, I_div, J_div, b2_0, b2_1, b2_nar, nar_0, nar_1, zr_0, zr_1, zr_b2, cmp_eq, cmp_le, cmp_lt, cmp_gt, cmp_ge, mx_I, mn_I, mx_L, mn_L, az_I, if_true, if_false, not_true_eq_false, not_false_eq_true, i_0, i_1, i_2, i_3, i_4, i_5, i_6, i_7, i_8, i_9, i_10, i_11, i_12, i_16, i_18, i_20, i_24, i_28, i_29, i_30, i_31, i_32, i_33, i_34, i_35, i_37, i_40, i_41, i_42, i_43, i_45, i_46, i_47, i_48, i_57, i_59, i_63, i_64, i_96, i_97, i_98, i_99, i_100, i_101, i_102, i_103, i_104, i_105, i_106, i_107, i_108, i_109, i_110, i_111, i_112, i_113, i_122, i_200, i_255, i_256, i_257, i_258, i_355, i_400, i_999, i_1000, i_1200, i_5680, i_9999, i_10000, i_99999, j_0, j_1, j_2, j_3, j_4, j_5, j_6, j_9, j_10, j_11, j_98, j_99, j_100, j_999, j_1000, j_9999, j_10000, j_99999, j_1000000, r_inBase hV hR3 hb3, b2_f hp, e1]
    by_cases h5 : 0 ≤ s_pr V i - s_of V i
    · by_cases h6 : s_pr V i - s_of V i ≤ 99999
      · have en : s_nt V i = s_pr V i - s_of V i := by omega
        rw [en] at e106
        simp (disch := omega) only [fX11_lays_42, Int.reduceEq, Int.reduceNe, Int.reduceLT, Int.reduceLE, Int.reduceAdd, Int.reduceSub, Int.reduceMul, Int.reduceNeg, Int.zero_add, Int.add_zero, nm_eq, bd_some, bv_some, aI_ok, aL_ok, aS_ok, dv_ok, dw_ok, I_add, I_sub, I_mul, I_neg, I_lt, I_le, I_eq, I_nat, J_add, J_sub, J_mul, J_neg, J_lt, J_le, J_eq, I_l, J_i, I_div, J_div, b2_0, b2_1, b2_nar, nar_0, nar_1, zr_0, zr_1, zr_b2, cmp_eq, cmp_le, cmp_lt, cmp_gt, cmp_ge, mx_I, mn_I, mx_L, mn_L, az_I, if_true, if_false, not_true_eq_false, not_false_eq_true, i_0, i_1, i_2, i_3, i_4, i_5, i_6, i_7, i_8, i_9, i_10, i_11, i_12, i_16, i_18, i_20, i_24, i_28, i_29, i_30, i_31, i_32, i_33, i_34, i_35, i_37, i_40, i_41, i_42, i_43, i_45, i_46, i_47, i_48, i_57, i_59, i_63, i_64, i_96, i_97, i_98, i_99, i_100, i_101, i_102, i_103, i_104, i_105, i_106, i_107, i_108, i_109, i_110, i_111, i_112, i_113, i_122, i_200, i_255, i_256, i_257, i_258, i_355, i_400, i_999, i_1000, i_1200, i_5680, i_9999, i_10000, i_99999, j_0, j_1, j_2, j_3, j_4, j_5, j_6, j_9, j_10, j_11, j_98, j_99, j_100, j_999, j_1000, j_9999, j_10000, j_99999, j_1000000, RB_n hR, hle, a1, r_of0 hV hR2, r_of1 hV hR2, r_of2 hV hR2, r_of3 hV hR2, r_of4 hV hR2, r_of5 hV hR2, r_of6 hV hR2, r_of7 hV hR2, at_I, h5, h6, e106]
      · have en : s_nt V i = 99999 := by omega
        rw [en] at e106
        simp (disch := omega) only [fX11_lays_42, Int.reduceEq, Int.reduceNe, Int.reduceLT, Int.reduceLE, Int.reduceAdd, Int.reduceSub, Int.reduceMul, Int.reduceNeg, Int.zero_add, Int.add_zero, nm_eq, bd_some, bv_some, aI_ok, aL_ok, aS_ok, dv_ok, dw_ok, I_add, I_sub, I_mul, I_neg, I_lt, I_le, I_eq, I_nat, J_add, J_sub, J_mul, J_neg, J_lt, J_le, J_eq, I_l, J_i, I_div, J_div, b2_0, b2_1, b2_nar, nar_0, nar_1, zr_0, zr_1, zr_b2, cmp_eq, cmp_le, cmp_lt, cmp_gt, cmp_ge, mx_I, mn_I, mx_L, mn_L, az_I, if_true, if_false, not_true_eq_false, not_false_eq_true, i_0, i_1, i_2, i_3, i_4, i_5, i_6, i_7, i_8, i_9, i_10, i_11, i_12, i_16, i_18, i_20, i_24, i_28, i_29, i_30, i_31, i_32, i_33, i_34, i_35, i_37, i_40, i_41, i_42, i_43, i_45, i_46, i_47, i_48, i_57, i_59, i_63, i_64, i_96, i_97, i_98, i_99, i_100, i_101, i_102, i_103, i_104, i_105, i_106, i_107, i_108, i_109, i_110, i_111, i_112, i_113, i_122, i_200, i_255, i_256, i_257, i_258, i_355, i_400, i_999, i_1000, i_1200, i_5680, i_9999, i_10000, i_99999, j_0, j_1, j_2, j_3, j_4, j_5, j_6, j_9, j_10, j_11, j_98, j_99, j_100, j_999, j_1000, j_9999, j_10000, j_99999, j_1000000, RB_n hR, hle, a1, r_of0 hV hR2, r_of1 hV hR2, r_of2 hV hR2, r_of3 hV hR2, r_of4 hV hR2, r_of5 hV hR2, r_of6 hV hR2, r_of7 hV hR2, at_I, h5, h6, e106]
    · have en : s_nt V i = 0 := by omega
      rw [en] at e106
      simp (disch := omega) only [fX11_lays_42, Int.reduceEq, Int.reduceNe, Int.reduceLT, Int.reduceLE, Int.reduceAdd, Int.reduceSub, Int.reduceMul, Int.reduceNeg, Int.zero_add, Int.add_zero, nm_eq, bd_some, bv_some, aI_ok, aL_ok, aS_ok, dv_ok, dw_ok, I_add, I_sub, I_mul, I_neg, I_lt, I_le, I_eq, I_nat, J_add, J_sub, J_mul, J_neg, J_lt, J_le, J_eq, I_l, J_i, I_div, J_div, b2_0, b2_1, b2_nar, nar_0, nar_1, zr_0, zr_1, zr_b2, cmp_eq, cmp_le, cmp_lt, cmp_gt, cmp_ge, mx_I, mn_I, mx_L, mn_L, az_I, if_true, if_false, not_true_eq_false, not_false_eq_true, i_0, i_1, i_2, i_3, i_4, i_5, i_6, i_7, i_8, i_9, i_10, i_11, i_12, i_16, i_18, i_20, i_24, i_28, i_29, i_30, i_31, i_32, i_33, i_34, i_35, i_37, i_40, i_41, i_42, i_43, i_45, i_46, i_47, i_48, i_57, i_59, i_63, i_64, i_96, i_97, i_98, i_99, i_100, i_101, i_102, i_103, i_104, i_105, i_106, i_107, i_108, i_109, i_110, i_111, i_112, i_113, i_122, i_200, i_255, i_256, i_257, i_258, i_355, i_400, i_999, i_1000, i_1200, i_5680, i_9999, i_10000, i_99999, j_0, j_1, j_2, j_3, j_4, j_5, j_6, j_9, j_10, j_11, j_98, j_99, j_100, j_999, j_1000, j_9999, j_10000, j_99999, j_1000000, RB_n hR, hle, a1, r_of0 hV hR2, r_of1 hV hR2, r_of2 hV hR2, r_of3 hV hR2, r_of4 hV hR2, r_of5 hV hR2, r_of6 hV hR2, r_of7 hV hR2, at_I, h5, e106]
theorem r_la15 (hV : vB V) (hW : vO V) (hN : 100 ≤ N) : ∀ (d n : Nat) (i : Int) (ν : Mem), d < n → 0 ≤ i → i + d = fN V → RB V ν → RO N V ν → (∀ f, 0 ≤ f → f < i → ν.1 22 f.toNat = I_ (x_bs V f)) → ∃ ν', fX11_lays_15 N n (I_ i) ν = some ((), ν') ∧ Fr P_la ν ν' ∧ LA V ν' := by
  have hn := hV.1
  unfold vN at hn
  intro d
  induction d with
  | zero =>
    intro n i ν h1 h2 h3 hR hO hb
    obtain ⟨n, rfl⟩ : ∃ m, n = m + 1 := ⟨n - 1, by omega⟩
    have hle : fN V ≤ i := by omega
    have hi : i = fN V := by omega
    subst hi
    obtain ⟨ν', e1, e2, e3⟩ := r_la42 (N := N) hV hW hN (sN V).toNat N 0 ν (by omega) (by omega) (by omega) hR hO hb (fun z a c => by omega)
    refine ⟨ν', ?_, e2, e3⟩
    simp (disch := omega) only [fX11_lays_15, Int.reduceEq, Int.reduceNe, Int.reduceLT, Int.reduceLE, Int.reduceAdd, Int.reduceSub, Int.reduceMul, Int.reduceNeg, Int.zero_add, Int.add_zero, nm_eq, bd_some, bv_some, aI_ok, aL_ok, aS_ok, dv_ok, dw_ok, I_add, I_sub, I_mul, I_neg, I_lt, I_le, I_eq, I_nat, J_add, J_sub, J_mul, J_neg, J_lt, J_le, J_eq, I_l, J_i, I_div, J_div, b2_0, b2_1, b2_nar, nar_0, nar_1, zr_0, zr_1, zr_b2, cmp_eq, cmp_le, cmp_lt, cmp_gt, cmp_ge, mx_I, mn_I, mx_L, mn_L, az_I, if_true, if_false, not_true_eq_false, not_false_eq_true, i_0, i_1, i_2, i_3, i_4, i_5, i_6, i_7, i_8, i_9, i_10, i_11, i_12, i_16, i_18, i_20, i_24, i_28, i_29, i_30, i_31, i_32, i_33, i_34, i_35, i_37, i_40, i_41, i_42, i_43, i_45, i_46, i_47, i_48, i_57, i_59, i_63, i_64, i_96, i_97, i_98, i_99, i_100, i_101, i_102, i_103, i_104, i_105, i_106, i_107, i_108, i_109, i_110, i_111, i_112, i_113, i_122, i_200, i_255, i_256, i_257, i_258, i_355, i_400, i_999, i_1000, i_1200, i_5680, i_9999, i_10000, i_99999, j_0, j_1, j_2, j_3, j_4, j_5, j_6, j_9, j_10, j_11, j_98, j_99, j_100, j_999, j_1000, j_9999, j_10000, j_99999, j_1000000, RB_f hR, hle, e1]
  | succ d ih =>
    intro n i ν h1 h2 h3 hR hO hb
    obtain ⟨n, rfl⟩ : ∃ m, n = m + 1 := ⟨n - 1, by omega⟩
    have hle : ¬ fN V ≤ i := by omega
    have hF : Fr P_la ν (stI ν 22 i.toNat (I_ (x_bs V i))) := Fr.rf.stI (by unfold P_la; omega)
    obtain ⟨ν', e1, e2, e3⟩ := ih n (i + 1) _ (by omega) (by omega) (by omega) (hR.F hF P_la_rb) (hO.F hF P_la_rb) (fun f a c => by
      simp (disch := omega) only [at_I]
      by_cases hq : f = i
      · rw [if_pos hq, hq]
      · rw [if_neg hq]; exact hb f a (by omega))
    refine ⟨ν', ?_, hF.tr e2, e3⟩
    simp (disch := omega) only [fX11_lays_15, Int.reduceEq, Int.reduceNe, Int.reduceLT, Int.reduceLE, Int.reduceAdd, Int.reduceSub, Int.reduceMul, Int.reduceNeg, Int.zero_add, Int.add_zero, nm_eq, bd_some, bv_some, aI_ok, aL_ok, aS_ok, dv_ok, dw_ok, I_add, I_sub, I_mul, I_neg, I_lt, I_le, I_eq, I_nat, J_add, J_sub, J_mul, J_neg, J_lt, J_le, J_eq, I_l, J_i, I_div, J_div, b2_0, b2_1, b2_nar, nar_0, nar_1, zr_0, zr_1, zr_b2, cmp_eq, cmp_le, cmp_lt, cmp_gt, cmp_ge, mx_I, mn_I, mx_L, mn_L, az_I, if_true, if_false, not_true_eq_false, not_false_eq_true, i_0, i_1, i_2, i_3, i_4, i_5, i_6, i_7, i_8, i_9, i_10, i_11, i_12, i_16, i_18, i_20, i_24, i_28, i_29, i_30, i_31, i_32, i_33, i_34, i_35, i_37, i_40, i_41, i_42, i_43, i_45, i_46, i_47, i_48, i_57, i_59, i_63, i_64, i_96, i_97, i_98, i_99, i_100, i_101, i_102, i_103, i_104, i_105, i_106, i_107, i_108, i_109, i_110, i_111, i_112, i_113, i_122, i_200, i_255, i_256, i_257, i_258, i_355, i_400, i_999, i_1000, i_1200, i_5680, i_9999, i_10000, i_99999, j_0, j_1, j_2, j_3, j_4, j_5, j_6, j_9, j_10, j_11, j_98, j_99, j_100, j_999, j_1000, j_9999, j_10000, j_99999, j_1000000, RB_f hR, hle, r_base hV hN hR, e1]
/-- laid, if it says so -/
def LF (V : Vw) (ν : Mem) : Prop := ν.1 0 30 = I_ 0 ∨ (ν.1 0 30 = I_ 1 ∧ LA V ν)
theorem r_lays (hV : vB V) (hW : vO V) (hN : 100 ≤ N) {ν : Mem} (hR : RB V ν) (hO : RO N V ν) (hL : LF V ν) : ∃ ν', fX11_lays N ν = some ((), ν') ∧ Fr P_lb ν ν' ∧ LA V ν' ∧ ν'.1 0 30 = I_ 1 := by
  have hn := hV.1
  unfold vN at hn
  rcases hL with hL | ⟨hL, hA⟩
  · have hF : Fr P_lb ν (stI ν 0 30 (I_ 1)) := Fr.rf.stI (Or.inl ⟨rfl, rfl⟩)
    obtain ⟨ν', e1, e2, e3⟩ := r_la15 (N := N) hV hW hN (fN V).toNat N 0 _ (by omega) (by omega) (by omega) (hR.F hF P_lb_rb) (hO.F hF P_lb_rb) (fun f a c => by omega)
    refine ⟨ν', ?_, hF.tr (e2.mono (fun k j h => Or.inr h)), e3, ?_⟩
    · simp (disch := omega) only [fX11_lays, Int.reduceEq, Int.reduceNe, Int.reduceLT, Int.reduceLE, Int.reduceAdd, Int.reduceSub, Int.reduceMul, Int.reduceNeg, Int.zero_add, Int.add_zero, nm_eq, bd_some, bv_some, aI_ok, aL_ok, aS_ok, dv_ok, dw_ok, I_add, I_sub, I_mul, I_neg, I_lt, I_le, I_eq, I_nat, J_add, J_sub, J_mul, J_neg, J_lt, J_le, J_eq, I_l, J_i, I_div, J_div, b2_0, b2_1, b2_nar, nar_0, nar_1, zr_0, zr_1, zr_b2, cmp_eq, cmp_le, cmp_lt, cmp_gt, cmp_ge, mx_I, mn_I, mx_L, mn_L, az_I, if_true, if_false, not_true_eq_false, not_false_eq_true, i_0, i_1, i_2, i_3, i_4, i_5, i_6, i_7, i_8, i_9, i_10, i_11, i_12, i_16, i_18, i_20, i_24, i_28, i_29, i_30, i_31, i_32, i_33, i_34, i_35, i_37, i_40, i_41, i_42, i_43, i_45, i_46, i_47, i_48, i_57, i_59, i_63, i_64, i_96, i_97, i_98, i_99, i_100, i_101, i_102, i_103, i_104, i_105, i_106, i_107, i_108, i_109, i_110, i_111, i_112, i_113, i_122, i_200, i_255, i_256, i_257, i_258, i_355, i_400, i_999, i_1000, i_1200, i_5680, i_9999, i_10000, i_99999, j_0, j_1, j_2, j_3, j_4, j_5, j_6, j_9, j_10, j_11, j_98, j_99, j_100, j_999, j_1000, j_9999, j_10000, j_99999, j_1000000, hL, e1]
    · rw [(e2 0 30 (by unfold P_la; omega)).1]; exact at_S
  · refine ⟨ν, ?_, Fr.rf, hA, hL⟩
    simp (disch := omega) only [fX11_lays, Int.reduceEq, Int.reduceNe, Int.reduceLT, Int.reduceLE, Int.reduceAdd, Int.reduceSub, Int.reduceMul, Int.reduceNeg, Int.zero_add, Int.add_zero, nm_eq, bd_some, bv_some, aI_ok, aL_ok, aS_ok, dv_ok, dw_ok, I_add, I_sub, I_mul, I_neg, I_lt, I_le, I_eq, I_nat, J_add, J_sub, J_mul, J_neg, J_lt, J_le, J_eq, I_l, J_i, I_div, J_div, b2_0, b2_1, b2_nar, nar_0, nar_1, zr_0, zr_1, zr_b2, cmp_eq, cmp_le, cmp_lt, cmp_gt, cmp_ge, mx_I, mn_I, mx_L, mn_L, az_I, if_true, if_false, not_true_eq_false, not_false_eq_true, i_0, i_1, i_2, i_3, i_4, i_5, i_6, i_7, i_8, i_9, i_10, i_11, i_12, i_16, i_18, i_20, i_24, i_28, i_29, i_30, i_31, i_32, i_33, i_34, i_35, i_37, i_40, i_41, i_42, i_43, i_45, i_46, i_47, i_48, i_57, i_59, i_63, i_64, i_96, i_97, i_98, i_99, i_100, i_101, i_102, i_103, i_104, i_105, i_106, i_107, i_108, i_109, i_110, i_111, i_112, i_113, i_122, i_200, i_255, i_256, i_257, i_258, i_355, i_400, i_999, i_1000, i_1200, i_5680, i_9999, i_10000, i_99999, j_0, j_1, j_2, j_3, j_4, j_5, j_6, j_9, j_10, j_11, j_98, j_99, j_100, j_999, j_1000, j_9999, j_10000, j_99999, j_1000000, hL]
end
