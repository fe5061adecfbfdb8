/-! finds, averageIn, worthOf, matchOf, differenceOf. -/
abbrev p_av (V : Vw) (f m l t z : Int) : Prop := p_to V z ∧ s_fm V z = f ∧ s_md V z = m ∧ s_lv V z = l ∧ (t = -2 ∨ s_mo V z = t)
def g_am (V : Vw) (f m l t z : Int) : Int := if p_av V f m l t z then s_mn V z else 0
def g_aq (V : Vw) (f m l t z : Int) : Int := if p_av V f m l t z then s_nt V z * s_mn V z else 0
section
variable {N : Nat} {V : Vw} {ν : Mem} {f m : Int}
theorem am_any (V : Vw) (f m l : Int) : sg (zN V) 0 (g_am V f m l (-2)) = x_im V f m l := sg_congr _ _ (fun z _ _ => by
  unfold g_am g_im
  by_cases h : p_to V z ∧ s_fm V z = f ∧ s_md V z = m ∧ s_lv V z = l
  · rw [if_pos h, if_pos ⟨h.1, h.2.1, h.2.2.1, h.2.2.2, Or.inl rfl⟩]
  · rw [if_neg h, if_neg (fun q => h ⟨q.1, q.2.1, q.2.2.1, q.2.2.2.1⟩)])
theorem aq_any (V : Vw) (f m l : Int) : 1000 * sg (zN V) 0 (g_aq V f m l (-2)) = x_iv V f m l := by
  rw [← sg_mul]
  exact sg_congr _ _ (fun z _ _ => by
    unfold g_aq g_iv
    by_cases h : p_to V z ∧ s_fm V z = f ∧ s_md V z = m ∧ s_lv V z = l
    · rw [if_pos h, if_pos ⟨h.1, h.2.1, h.2.2.1, h.2.2.2, Or.inl rfl⟩, Int.mul_assoc]
    · rw [if_neg h, if_neg (fun q => h ⟨q.1, q.2.1, q.2.2.1, q.2.2.2.1⟩)]; rfl)
theorem am_mo (V : Vw) (f m l : Int) {t : Int} (ht : t ≠ -2) : sg (zN V) 0 (g_am V f m l t) = x_mm V f m l t := sg_congr _ _ (fun z _ _ => by
  unfold g_am g_mm
  by_cases h : p_to V z ∧ s_fm V z = f ∧ s_md V z = m ∧ s_lv V z = l ∧ s_mo V z = t
  · rw [if_pos h, if_pos ⟨h.1, h.2.1, h.2.2.1, h.2.2.2.1, Or.inr h.2.2.2.2⟩]
  · rw [if_neg h, if_neg (fun q => h ⟨q.1, q.2.1, q.2.2.1, q.2.2.2.1, q.2.2.2.2.resolve_left ht⟩)])
theorem aq_mo (V : Vw) (f m l : Int) {t : Int} (ht : t ≠ -2) : 1000 * sg (zN V) 0 (g_aq V f m l t) = x_mv V f m l t := by
  rw [← sg_mul]
  exact sg_congr _ _ (fun z _ _ => by
    unfold g_aq g_mv
    by_cases h : p_to V z ∧ s_fm V z = f ∧ s_md V z = m ∧ s_lv V z = l ∧ s_mo V z = t
    · rw [if_pos h, if_pos ⟨h.1, h.2.1, h.2.2.1, h.2.2.2.1, Or.inr h.2.2.2.2⟩, Int.mul_assoc]
    · rw [if_neg h, if_neg (fun q => h ⟨q.1, q.2.1, q.2.2.1, q.2.2.2.1, q.2.2.2.2.resolve_left ht⟩)]; rfl)
theorem r_av_l (hV : vB V) (hL : RLd V ν) (f0 : -10 ≤ f) (f1 : f ≤ 10) (m0 : -10 ≤ m) (m1 : m ≤ 10) {l t : Int} (l0 : -10 ≤ l) (l1 : l ≤ 10) (t0 : -10 ≤ t) (t1 : t ≤ 11) : ∀ (d n : Nat) (i a v : Int), d < n → 0 ≤ i → i + d = sN V → fX11_averageIn_9 N n (I_ f) (I_ m) (I_ l) (I_ t) (J_ v) (J_ a) (I_ i) ν = fX11_averageIn_106 N (J_ (v + sg d i (g_aq V f m l t))) (J_ (a + sg d i (g_am V f m l t))) ν := by
  have hn := hV.1
  unfold vN at hn
  have hR := hL.1
  intro d
  induction d with
  | zero =>
    intro n i a v h1 h2 h3
    obtain ⟨n, rfl⟩ : ∃ m, n = m + 1 := ⟨n - 1, by omega⟩
    have hle : sN V ≤ i := by omega
    simp (disch := omega) only [fX11_averageIn_9, Int.reduceEq, Int.reduceNe, Int.reduceLT, Int.reduceLE, Int.reduceAdd, Int.reduceSub, Int.reduceMul, Int.reduceNeg, Int.zero_add, Int.add_zero, nm_eq, bd_some, bv_some, aI_ok, aL_ok, aS_ok, dv_ok, dw_ok, I_add, I_sub, I_mul, I_neg, I_lt, I_le, I_eq, I_nat, J_add, J_sub, J_mul, J_neg, J_lt, J_le, J_eq, I_l, J_i, I_div, J_div, b2_0, b2_1, b2_nar, nar_0, nar_1, zr_0, zr_1, zr_b2, cmp_eq, cmp_le, cmp_lt, cmp_gt, cmp_ge, mx_I, mn_I, mx_L, mn_L, az_I, if_true, if_false, not_true_eq_false, not_false_eq_true, i_0, i_1, i_2, i_3, i_4, i_5, i_6, i_7, i_8, i_9, i_10, i_11, i_12, i_16, i_18, i_20, i_24, i_28, i_29, i_30, i_31, i_32, i_33, i_34, i_35, i_37, i_40, i_41, i_42, i_43, i_45, i_46, i_47, i_48, i_57, i_59, i_63, i_64, i_96, i_97, i_98, i_99, i_100, i_101, i_102, i_103, i_104, i_105, i_106, i_107, i_108, i_109, i_110, i_111, i_112, i_113, i_122, i_200, i_255, i_256, i_257, i_258, i_355, i_400, i_999, i_1000, i_1200, i_5680, i_9999, i_10000, i_99999, j_0, j_1, j_2, j_3, j_4, j_5, j_6, j_9, j_10, j_11, j_98, j_99, j_100, j_999, j_1000, j_9999, j_10000, j_99999, j_1000000, RB_n hR, hle, sg]
  | succ d ih =>
    intro n i a v h1 h2 h3
    obtain ⟨n, rfl⟩ : ∃ m, n = m + 1 := ⟨n - 1, by omega⟩
    have hle : ¬ sN V ≤ i := by omega
    have hlt : i < sN V := by omega
    have hv := hV.2.1 i h2 hlt
    unfold vS at hv
    have r19 := (hL.2.1.2 i h2 hlt).2.1
    have sk : ¬ p_av V f m l t i → g_am V f m l t i = 0 ∧ g_aq V f m l t i = 0 := fun h => by
      unfold g_am g_aq; rw [if_neg h, if_neg h]; exact ⟨rfl, rfl⟩
    have tk : p_av V f m l t i → g_am V f m l t i = s_mn V i ∧ g_aq V f m l t i = s_nt V i * s_mn V i := fun h => by
      unfold g_am g_aq; rw [if_pos h, if_pos h]; exact ⟨rfl, rfl⟩
    by_cases hp : p_to V i ∧ s_fm V i = f ∧ s_md V i = m
    · by_cases hl : s_lv V i = l
      · by_cases ht : t = -2
        · obtain ⟨e1, e2⟩ := tk ⟨hp.1, hp.2.1, hp.2.2, hl, Or.inl ht⟩
          subst ht
          simp (disch := omega) only [fX11_averageIn_9, fX11_averageIn_65, Int.reduceEq, Int.reduceNe, Int.reduceLT, Int.reduceLE, Int.reduceAdd, Int.reduceSub, Int.reduceMul, Int.reduceNeg, Int.zero_add, Int.add_zero, nm_eq, bd_some, bv_some, aI_ok, aL_ok, aS_ok, dv_ok, dw_ok, I_add, I_sub, I_mul, I_neg, I_lt, I_le, I_eq, I_nat, J_add, J_sub, J_mul, J_neg, J_lt, J_le, J_eq, I_l, J_i, I_div, J_div, b2_0, b2_1, b2_nar, nar_0, nar_1, zr_0, zr_1, zr_b2, cmp_eq, cmp_le, cmp_lt, cmp_gt, cmp_ge, mx_I, mn_I, mx_L, mn_L, az_I, if_true, if_false, not_true_eq_false, not_false_eq_true, i_0, i_1, i_2, i_3, i_4, i_5, i_6, i_7, i_8, i_9, i_10, i_11, i_12, i_16, i_18, i_20, i_24, i_28, i_29, i_30, i_31, i_32, i_33, i_34, i_35, i_37, i_40, i_41, i_42, i_43, i_45, i_46, i_47, i_48, i_57, i_59, i_63, i_64, i_96, i_97, i_98, i_99, i_100, i_101, i_102, i_103, i_104, i_105, i_106, i_107, i_108, i_109, i_110, i_111, i_112, i_113, i_122, i_200, i_255, i_256, i_257, i_258, i_355, i_400, i_999, i_1000, i_1200, i_5680, i_9999, i_10000, i_99999, j_0, j_1, j_2, j_3, j_4, j_5, j_6, j_9, j_10, j_11, j_98, j_99, j_100, j_999, j_1000, j_9999, j_10000, j_99999, j_1000000, RB_n hR, hle, r_isOf hV hL, b2_t hp, r_of0 hV hR, r_of1 hV hR, r_of2 hV hR, r_of3 hV hR, r_of4 hV hR, r_of5 hV hR, r_of6 hV hR, r_of7 hV hR, hl, r19, ih, sg, e1, e2, Int.add_assoc]
        · by_cases hm : s_mo V i = t
          · obtain ⟨e1, e2⟩ := tk ⟨hp.1, hp.2.1, hp.2.2, hl, Or.inr hm⟩
            simp (disch := omega) only [fX11_averageIn_9, fX11_averageIn_65, Int.reduceEq, Int.reduceNe, Int.reduceLT, Int.reduceLE, Int.reduceAdd, Int.reduceSub, Int.reduceMul, Int.reduceNeg, Int.zero_add, Int.add_zero, nm_eq, bd_some, bv_some, aI_ok, aL_ok, aS_ok, dv_ok, dw_ok, I_add, I_sub, I_mul, I_neg, I_lt, I_le, I_eq, I_nat, J_add, J_sub, J_mul, J_neg, J_lt, J_le, J_eq, I_l, J_i, I_div, J_div, b2_0, b2_1, b2_nar, nar_0, nar_1, zr_0, zr_1, zr_b2, cmp_eq, cmp_le, cmp_lt, cmp_gt, cmp_ge, mx_I, mn_I, mx_L, mn_L, az_I, if_true, if_false, not_true_eq_false, not_false_eq_true, i_0, i_1, i_2, i_3, i_4, i_5, i_6, i_7, i_8, i_9, i_10, i_11, i_12, i_16, i_18, i_20, i_24, i_28, i_29, i_30, i_31, i_32, i_33, i_34, i_35, i_37, i_40, i_41, i_42, i_43, i_45, i_46, i_47, i_48, i_57, i_59, i_63, i_64, i_96, i_97, i_98, i_99, i_100, i_101, i_102, i_103, i_104, i_105, i_106, i_107, i_108, i_109, i_110, i_111, i_112, i_113, i_122, i_200, i_255, i_256, i_257, i_258, i_355, i_400, i_999, i_1000, i_1200, i_5680, i_9999, i_10000, i_99999, j_0, j_1, j_2, j_3, j_4, j_5, j_6, j_9, j_10, j_11, j_98, j_99, j_100, j_999, j_1000, j_9999, j_10000, j_99999, j_1000000, RB_n hR, hle, r_isOf hV hL, b2_t hp, r_of0 hV hR, r_of1 hV hR, r_of2 hV hR, r_of3 hV hR, r_of4 hV hR, r_of5 hV hR, r_of6 hV hR, r_of7 hV hR, hl, ht, hm, r19, ih, sg, e1, e2, Int.add_assoc]
          · obtain ⟨e1, e2⟩ := sk (fun q => q.2.2.2.2.elim ht hm)
            simp (disch := omega) only [fX11_averageIn_9, fX11_averageIn_65, Int.reduceEq, Int.reduceNe, Int.reduceLT, Int.reduceLE, Int.reduceAdd, Int.reduceSub, Int.reduceMul, Int.reduceNeg, Int.zero_add, Int.add_zero, nm_eq, bd_some, bv_some, aI_ok, aL_ok, aS_ok, dv_ok, dw_ok, I_add, I_sub, I_mul, I_neg, I_lt, I_le, I_eq, I_nat, J_add, J_sub, J_mul, J_neg, J_lt, J_le, J_eq, I_l, J_i, I_div, J_div, b2_0, b2_1, b2_nar, nar_0, nar_1, zr_0, zr_1, zr_b2, cmp_eq, cmp_le, cmp_lt, cmp_gt, cmp_ge, mx_I, mn_I, mx_L, mn_L, az_I, if_true, if_false, not_true_eq_false, not_false_eq_true, i_0, i_1, i_2, i_3, i_4, i_5, i_6, i_7, i_8, i_9, i_10, i_11, i_12, i_16, i_18, i_20, i_24, i_28, i_29, i_30, i_31, i_32, i_33, i_34, i_35, i_37, i_40, i_41, i_42, i_43, i_45, i_46, i_47, i_48, i_57, i_59, i_63, i_64, i_96, i_97, i_98, i_99, i_100, i_101, i_102, i_103, i_104, i_105, i_106, i_107, i_108, i_109, i_110, i_111, i_112, i_113, i_122, i_200, i_255, i_256, i_257, i_258, i_355, i_400, i_999, i_1000, i_1200, i_5680, i_9999, i_10000, i_99999, j_0, j_1, j_2, j_3, j_4, j_5, j_6, j_9, j_10, j_11, j_98, j_99, j_100, j_999, j_1000, j_9999, j_10000, j_99999, j_1000000, RB_n hR, hle, r_isOf hV hL, b2_t hp, r_of0 hV hR, r_of1 hV hR, r_of2 hV hR, r_of3 hV hR, r_of4 hV hR, r_of5 hV hR, r_of6 hV hR, r_of7 hV hR, hl, ht, hm, ih, sg, e1, e2]
      · obtain ⟨e1, e2⟩ := sk (fun q => hl q.2.2.2.1)
        simp (disch := omega) only [fX11_averageIn_9, Int.reduceEq, Int.reduceNe, Int.reduceLT, Int.reduceLE, Int.reduceAdd, Int.reduceSub, Int.reduceMul, Int.reduceNeg, Int.zero_add, Int.add_zero, nm_eq, bd_some, bv_some, aI_ok, aL_ok, aS_ok, dv_ok, dw_ok, I_add, I_sub, I_mul, I_neg, I_lt, I_le, I_eq, I_nat, J_add, J_sub, J_mul, J_neg, J_lt, J_le, J_eq, I_l, J_i, I_div, J_div, b2_0, b2_1, b2_nar, nar_0, nar_1, zr_0, zr_1, zr_b2, cmp_eq, cmp_le, cmp_lt, cmp_gt, cmp_ge, mx_I, mn_I, mx_L, mn_L, az_I, if_true, if_false, not_true_eq_false, not_false_eq_true, i_0, i_1, i_2, i_3, i_4, i_5, i_6, i_7, i_8, i_9, i_10, i_11, i_12, i_16, i_18, i_20, i_24, i_28, i_29, i_30, i_31, i_32, i_33, i_34, i_35, i_37, i_40, i_41, i_42, i_43, i_45, i_46, i_47, i_48, i_57, i_59, i_63, i_64, i_96, i_97, i_98, i_99, i_100, i_101, i_102, i_103, i_104, i_105, i_106, i_107, i_108, i_109, i_110, i_111, i_112, i_113, i_122, i_200, i_255, i_256, i_257, i_258, i_355, i_400, i_999, i_1000, i_1200, i_5680, i_9999, i_10000, i_99999, j_0, j_1, j_2, j_3, j_4, j_5, j_6, j_9, j_10, j_11, j_98, j_99, j_100, j_999, j_1000, j_9999, j_10000, j_99999, j_1000000, RB_n hR, hle, r_isOf hV hL, b2_t hp, r_of0 hV hR, r_of1 hV hR, r_of2 hV hR, r_of3 hV hR, r_of4 hV hR, r_of5 hV hR, r_of6 hV hR, r_of7 hV hR, hl, ih, sg, e1, e2]
    · obtain ⟨e1, e2⟩ := sk (fun q => hp ⟨q.1, q.2.1, q.2.2.1⟩)
      simp (disch := omega) only [fX11_averageIn_9, Int.reduceEq, Int.reduceNe, Int.reduceLT, Int.reduceLE, Int.reduceAdd, Int.reduceSub, Int.reduceMul, Int.reduceNeg, Int.zero_add, Int.add_zero, nm_eq, bd_some, bv_some, aI_ok, aL_ok, aS_ok, dv_ok, dw_ok, I_add, I_sub, I_mul, I_neg, I_lt, I_le, I_eq, I_nat, J_add, J_sub, J_mul, J_neg, J_lt, J_le, J_eq, I_l, J_i, I_div, J_div, b2_0, b2_1, b2_nar, nar_0, nar_1, zr_0, zr_1, zr_b2, cmp_eq, cmp_le, cmp_lt, cmp_gt, cmp_ge, mx_I, mn_I, mx_L, mn_L, az_I, if_true, if_false, not_true_eq_false, not_false_eq_true, i_0, i_1, i_2, i_3, i_4, i_5, i_6, i_7, i_8, i_9, i_10, i_11, i_12, i_16, i_18, i_20, i_24, i_28, i_29, i_30, i_31, i_32, i_33, i_34, i_35, i_37, i_40, i_41, i_42, i_43, i_45, i_46, i_47, i_48, i_57, i_59, i_63, i_64, i_96, i_97, i_98, i_99, i_100, i_101, i_102, i_103, i_104, i_105, i_106, i_107, i_108, i_109, i_110, i_111, i_112, i_113, i_122, i_200, i_255, i_256, i_257, i_258, i_355, i_400, i_999, i_1000, i_1200, i_5680, i_9999, i_10000, i_99999, j_0, j_1, j_2, j_3, j_4, j_5, j_6, j_9, j_10, j_11, j_98, j_99, j_100, j_999, j_1000, j_9999, j_10000, j_99999, j_1000000, RB_n hR, hle, r_isOf hV hL, b2_f hp, ih, sg, e1, e2]
theorem r_av_any (hV : vB V) (hN : 100 ≤ N) (hL : RLd V ν) (f0 : -10 ≤ f) (f1 : f ≤ 10) (m0 : -10 ≤ m) (m1 : m ≤ 10) {l : Int} (l0 : -10 ≤ l) (l1 : l ≤ 10) : fX11_averageIn N (I_ f) (I_ m) (I_ l) (I_ (-2)) ν = some (J_ (if x_im V f m l = 0 then -1 else x_iv V f m l / x_im V f m l), ν) := by
  have hn := hV.1
  unfold vN at hn
  have := r_av_l (N := N) (t := -2) hV hL f0 f1 m0 m1 l0 l1 (by omega) (by omega) (sN V).toNat N 0 0 0 (by omega) (by omega) (by omega)
  rw [Int.zero_add, Int.zero_add] at this
  have a := x_iv_in hV f m l
  have a' := x_im_in hV f m l
  have e1 : sg (sN V).toNat 0 (g_am V f m l (-2)) = x_im V f m l := am_any V f m l
  have e2 : 1000 * sg (sN V).toNat 0 (g_aq V f m l (-2)) = x_iv V f m l := aq_any V f m l
  rw [e1] at this
  by_cases h0 : x_im V f m l = 0
  · rw [if_pos h0]
    simp (disch := omega) only [fX11_averageIn, Int.reduceEq, Int.reduceNe, Int.reduceLT, Int.reduceLE, Int.reduceAdd, Int.reduceSub, Int.reduceMul, Int.reduceNeg, Int.zero_add, Int.add_zero, nm_eq, bd_some, bv_some, aI_ok, aL_ok, aS_ok, dv_ok, dw_ok, I_add, I_sub, I_mul, I_neg, I_lt, I_le, I_eq, I_nat, J_add, J_sub, J_mul, J_neg, J_lt, J_le, J_eq, I_l, J_i, I_div, J_div, b2_0, b2_1, b2_nar, nar_0, nar_1, zr_0, zr_1, zr_b2, cmp_eq, cmp_le, cmp_lt, cmp_gt, cmp_ge, mx_I, mn_I, mx_L, mn_L, az_I, if_true, if_false, not_true_eq_false, not_false_eq_true, i_0, i_1, i_2, i_3, i_4, i_5, i_6, i_7, i_8, i_9, i_10, i_11, i_12, i_16, i_18, i_20, i_24, i_28, i_29, i_30, i_31, i_32, i_33, i_34, i_35, i_37, i_40, i_41, i_42, i_43, i_45, i_46, i_47, i_48, i_57, i_59, i_63, i_64, i_96, i_97, i_98, i_99, i_100, i_101, i_102, i_103, i_104, i_105, i_106, i_107, i_108, i_109, i_110, i_111, i_112, i_113, i_122, i_200, i_255, i_256, i_257, i_258, i_355, i_400, i_999, i_1000, i_1200, i_5680, i_9999, i_10000, i_99999, j_0, j_1, j_2, j_3, j_4, j_5, j_6, j_9, j_10, j_11, j_98, j_99, j_100, j_999, j_1000, j_9999, j_10000, j_99999, j_1000000, this, fX11_averageIn_106, h0]
  · rw [if_neg h0]
    simp (disch := omega) only [fX11_averageIn, Int.reduceEq, Int.reduceNe, Int.reduceLT, Int.reduceLE, Int.reduceAdd, Int.reduceSub, Int.reduceMul, Int.reduceNeg, Int.zero_add, Int.add_zero, nm_eq, bd_some, bv_some, aI_ok, aL_ok, aS_ok, dv_ok, dw_ok, I_add, I_sub, I_mul, I_neg, I_lt, I_le, I_eq, I_nat, J_add, J_sub, J_mul, J_neg, J_lt, J_le, J_eq, I_l, J_i, I_div, J_div, b2_0, b2_1, b2_nar, nar_0, nar_1, zr_0, zr_1, zr_b2, cmp_eq, cmp_le, cmp_lt, cmp_gt, cmp_ge, mx_I, mn_I, mx_L, mn_L, az_I, if_true, if_false, not_true_eq_false, not_false_eq_true, i_0, i_1, i_2, i_3, i_4, i_5, i_6, i_7, i_8, i_9, i_10, i_11, i_12, i_16, i_18, i_20, i_24, i_28, i_29, i_30, i_31, i_32, i_33, i_34, i_35, i_37, i_40, i_41, i_42, i_43, i_45, i_46, i_47, i_48, i_57, i_59, i_63, i_64, i_96, i_97, i_98, i_99, i_100, i_101, i_102, i_103, i_104, i_105, i_106, i_107, i_108, i_109, i_110, i_111, i_112, i_113, i_122, i_200, i_255, i_256, i_257, i_258, i_355, i_400, i_999, i_1000, i_1200, i_5680, i_9999, i_10000, i_99999, j_0, j_1, j_2, j_3, j_4, j_5, j_6, j_9, j_10, j_11, j_98, j_99, j_100, j_999, j_1000, j_9999, j_10000, j_99999, j_1000000, this, fX11_averageIn_106, h0, e2]
theorem r_av_mo (hV : vB V) (hN : 100 ≤ N) (hL : RLd V ν) (f0 : -10 ≤ f) (f1 : f ≤ 10) (m0 : -10 ≤ m) (m1 : m ≤ 10) {l t : Int} (l0 : -10 ≤ l) (l1 : l ≤ 10) (t0 : 0 ≤ t) (t1 : t ≤ 11) : fX11_averageIn N (I_ f) (I_ m) (I_ l) (I_ t) ν = some (J_ (if x_mm V f m l t = 0 then -1 else x_mv V f m l t / x_mm V f m l t), ν) := by
  have hn := hV.1
  unfold vN at hn
  have := r_av_l (N := N) (t := t) hV hL f0 f1 m0 m1 l0 l1 (by omega) (by omega) (sN V).toNat N 0 0 0 (by omega) (by omega) (by omega)
  rw [Int.zero_add, Int.zero_add] at this
  have a := x_mv_in hV f m l t
  have a' := x_mm_in hV f m l t
  have e1 : sg (sN V).toNat 0 (g_am V f m l t) = x_mm V f m l t := am_mo V f m l (by omega)
  have e2 : 1000 * sg (sN V).toNat 0 (g_aq V f m l t) = x_mv V f m l t := aq_mo V f m l (by omega)
  rw [e1] at this
  by_cases h0 : x_mm V f m l t = 0
  · rw [if_pos h0]
    simp (disch := omega) only [fX11_averageIn, Int.reduceEq, Int.reduceNe, Int.reduceLT, Int.reduceLE, Int.reduceAdd, Int.reduceSub, Int.reduceMul, Int.reduceNeg, Int.zero_add, Int.add_zero, nm_eq, bd_some, bv_some, aI_ok, aL_ok, aS_ok, dv_ok, dw_ok, I_add, I_sub, I_mul, I_neg, I_lt, I_le, I_eq, I_nat, J_add, J_sub, J_mul, J_neg, J_lt, J_le, J_eq, I_l, J_i, I_div, J_div, b2_0, b2_1, b2_nar, nar_0, nar_1, zr_0, zr_1, zr_b2, cmp_eq, cmp_le, cmp_lt, cmp_gt, cmp_ge, mx_I, mn_I, mx_L, mn_L, az_I, if_true, if_false, not_true_eq_false, not_false_eq_true, i_0, i_1, i_2, i_3, i_4, i_5, i_6, i_7, i_8, i_9, i_10, i_11, i_12, i_16, i_18, i_20, i_24, i_28, i_29, i_30, i_31, i_32, i_33, i_34, i_35, i_37, i_40, i_41, i_42, i_43, i_45, i_46, i_47, i_48, i_57, i_59, i_63, i_64, i_96, i_97, i_98, i_99, i_100, i_101, i_102, i_103, i_104, i_105, i_106, i_107, i_108, i_109, i_110, i_111, i_112, i_113, i_122, i_200, i_255, i_256, i_257, i_258, i_355, i_400, i_999, i_1000, i_1200, i_5680, i_9999, i_10000, i_99999, j_0, j_1, j_2, j_3, j_4, j_5, j_6, j_9, j_10, j_11, j_98, j_99, j_100, j_999, j_1000, j_9999, j_10000, j_99999, j_1000000, this, fX11_averageIn_106, h0]
  · rw [if_neg h0]
    simp (disch := omega) only [fX11_averageIn, Int.reduceEq, Int.reduceNe, Int.reduceLT, Int.reduceLE, Int.reduceAdd, Int.reduceSub, Int.reduceMul, Int.reduceNeg, Int.zero_add, Int.add_zero, nm_eq, bd_some, bv_some, aI_ok, aL_ok, aS_ok, dv_ok, dw_ok, I_add, I_sub, I_mul, I_neg, I_lt, I_le, I_eq, I_nat, J_add, J_sub, J_mul, J_neg, J_lt, J_le, J_eq, I_l, J_i, I_div, J_div, b2_0, b2_1, b2_nar, nar_0, nar_1, zr_0, zr_1, zr_b2, cmp_eq, cmp_le, cmp_lt, cmp_gt, cmp_ge, mx_I, mn_I, mx_L, mn_L, az_I, if_true, if_false, not_true_eq_false, not_false_eq_true, i_0, i_1, i_2, i_3, i_4, i_5, i_6, i_7, i_8, i_9, i_10, i_11, i_12, i_16, i_18, i_20, i_24, i_28, i_29, i_30, i_31, i_32, i_33, i_34, i_35, i_37, i_40, i_41, i_42, i_43, i_45, i_46, i_47, i_48, i_57, i_59, i_63, i_64, i_96, i_97, i_98, i_99, i_100, i_101, i_102, i_103, i_104, i_105, i_106, i_107, i_108, i_109, i_110, i_111, i_112, i_113, i_122, i_200, i_255, i_256, i_257, i_258, i_355, i_400, i_999, i_1000, i_1200, i_5680, i_9999, i_10000, i_99999, j_0, j_1, j_2, j_3, j_4, j_5, j_6, j_9, j_10, j_11, j_98, j_99, j_100, j_999, j_1000, j_9999, j_10000, j_99999, j_1000000, this, fX11_averageIn_106, h0, e2]
theorem nl1_has {a : Int → Int} {l o best : Int} (h : 0 ≤ best → 0 < a best) : 0 ≤ nl1 a l o best → 0 < a (nl1 a l o best) := by
  unfold nl1
  split
  · rename_i q; intro _; exact q.1
  · exact h
/-- at the nearest level there are IN ones -/
theorem x_im_nl {V : Vw} (hV : vB V) {f m : Int} (l : Int) (h : 0 < x_hi V f m) : 0 < x_im V f m (x_nl V f m l) := by
  have hp := x_nl_pos hV l h
  unfold x_nl at hp ⊢
  exact nl1_has (nl1_has (nl1_has (nl1_has (fun q => by omega)))) hp
/-- how a worth is found -/
def x_hw (V : Vw) (f m : Int) : Int := if 0 < x_hi V f m then 1 else if x_lm V f m = -1 then 3 else 2
theorem r_finds (hV : vB V) (hN : 100 ≤ N) (hL : RLd V ν) (f0 : 0 ≤ f) (f1 : f < 4) (m0 : 0 ≤ m) (m1 : m < mN V) {l : Int} (l0 : 0 ≤ l) (l1 : l ≤ 3) : ∃ ν', fX11_finds N (I_ f) (I_ m) (I_ l) ν = some ((), ν') ∧ Fr P_rf ν ν' ∧ ν'.1 0 37 = I_ (x_hw V f m) ∧ ν'.1 0 38 = I_ (x_md V f m) ∧ (x_md V f m ≠ -1 → ν'.1 0 39 = I_ (x_nl V f (x_md V f m) l)) := by
  have hn := hV.1
  unfold vN at hn
  have hnl := x_nl_in V f m l
  have hF1 : Fr P_rf ν (stI (stI ν 0 37 (I_ 1)) 0 38 (I_ m)) := (Fr.rf.stI ⟨rfl, by omega, by omega⟩).stI ⟨rfl, by omega, by omega⟩
  have hL1 := hL.f hF1
  unfold x_hw
  by_cases hh : 0 < x_hi V f m
  · have hp := x_nl_pos hV l hh
    have hq : ¬ x_nl V f m l = -1 := by omega
    have ed : x_md V f m = m := by unfold x_md; rw [if_pos hh]
    rw [if_pos hh, ed]
    refine ⟨stI (stI (stI ν 0 37 (I_ 1)) 0 38 (I_ m)) 0 39 (I_ (x_nl V f m l)), ?_, hF1.stI ⟨rfl, by omega, by omega⟩, ?_, ?_, fun _ => at_S⟩
    · simp (disch := omega) only [fX11_finds, Int.reduceEq, Int.reduceNe, Int.reduceLT, Int.reduceLE, Int.reduceAdd, Int.reduceSub, Int.reduceMul, Int.reduceNeg, Int.zero_add, Int.add_zero, nm_eq, bd_some, bv_some, aI_ok, aL_ok, aS_ok, dv_ok, dw_ok, I_add, I_sub, I_mul, I_neg, I_lt, I_le, I_eq, I_nat, J_add, J_sub, J_mul, J_neg, J_lt, J_le, J_eq, I_l, J_i, I_div, J_div, b2_0, b2_1, b2_nar, nar_0, nar_1, zr_0, zr_1, zr_b2, cmp_eq, cmp_le, cmp_lt, cmp_gt, cmp_ge, mx_I, mn_I, mx_L, mn_L, az_I, if_true, if_false, not_true_eq_false, not_false_eq_true, i_0, i_1, i_2, i_3, i_4, i_5, i_6, i_7, i_8, i_9, i_10, i_11, i_12, i_16, i_18, i_20, i_24, i_28, i_29, i_30, i_31, i_32, i_33, i_34, i_35, i_37, i_40, i_41, i_42, i_43, i_45, i_46, i_47, i_48, i_57, i_59, i_63, i_64, i_96, i_97, i_98, i_99, i_100, i_101, i_102, i_103, i_104, i_105, i_106, i_107, i_108, i_109, i_110, i_111, i_112, i_113, i_122, i_200, i_255, i_256, i_257, i_258, i_355, i_400, i_999, i_1000, i_1200, i_5680, i_9999, i_10000, i_99999, j_0, j_1, j_2, j_3, j_4, j_5, j_6, j_9, j_10, j_11, j_98, j_99, j_100, j_999, j_1000, j_9999, j_10000, j_99999, j_1000000, r_laid hL.2.2, r_nl hV hN hL1, at_S, hq]
    · simp (disch := omega) only [at_N, at_S]
    · simp (disch := omega) only [at_N, at_S]
  · have hq := x_nl_none hV (f := f) (m := m) l hh
    have ed : x_md V f m = x_lm V f m := by unfold x_md; rw [if_neg hh]
    have hF2 : Fr P_rf ν (stI (stI (stI (stI ν 0 37 (I_ 1)) 0 38 (I_ m)) 0 39 (I_ (-1))) 0 37 (I_ 2)) := (hF1.stI ⟨rfl, by omega, by omega⟩).stI ⟨rfl, by omega, by omega⟩
    have hL2 := hL.f hF2
    have hlm := x_md_in hV (f := f) m0 m1
    rw [ed] at hlm
    have hF3 := hF2.stI (j := 38) (v := I_ (x_lm V f m)) (k := 0) ⟨rfl, by omega, by omega⟩
    have hL3 := hL.f hF3
    rw [if_neg hh, ed]
    by_cases hl : x_lm V f m = -1
    · rw [if_pos hl, hl]
      rw [hl] at hF3
      refine ⟨_, ?_, hF3.stI (j := 37) (v := I_ 3) (k := 0) ⟨rfl, by omega, by omega⟩, at_S, ?_, fun h => absurd rfl h⟩
      · have elm := r_lm (N := N) hV hN hL2 f0 f1 m0 m1 hh l0 l1
        rw [hl] at elm
        simp (disch := omega) only [fX11_finds, Int.reduceEq, Int.reduceNe, Int.reduceLT, Int.reduceLE, Int.reduceAdd, Int.reduceSub, Int.reduceMul, Int.reduceNeg, Int.zero_add, Int.add_zero, nm_eq, bd_some, bv_some, aI_ok, aL_ok, aS_ok, dv_ok, dw_ok, I_add, I_sub, I_mul, I_neg, I_lt, I_le, I_eq, I_nat, J_add, J_sub, J_mul, J_neg, J_lt, J_le, J_eq, I_l, J_i, I_div, J_div, b2_0, b2_1, b2_nar, nar_0, nar_1, zr_0, zr_1, zr_b2, cmp_eq, cmp_le, cmp_lt, cmp_gt, cmp_ge, mx_I, mn_I, mx_L, mn_L, az_I, if_true, if_false, not_true_eq_false, not_false_eq_true, i_0, i_1, i_2, i_3, i_4, i_5, i_6, i_7, i_8, i_9, i_10, i_11, i_12, i_16, i_18, i_20, i_24, i_28, i_29, i_30, i_31, i_32, i_33, i_34, i_35, i_37, i_40, i_41, i_42, i_43, i_45, i_46, i_47, i_48, i_57, i_59, i_63, i_64, i_96, i_97, i_98, i_99, i_100, i_101, i_102, i_103, i_104, i_105, i_106, i_107, i_108, i_109, i_110, i_111, i_112, i_113, i_122, i_200, i_255, i_256, i_257, i_258, i_355, i_400, i_999, i_1000, i_1200, i_5680, i_9999, i_10000, i_99999, j_0, j_1, j_2, j_3, j_4, j_5, j_6, j_9, j_10, j_11, j_98, j_99, j_100, j_999, j_1000, j_9999, j_10000, j_99999, j_1000000, r_laid hL.2.2, r_nl hV hN hL1, hq, at_S, elm]
      · simp (disch := omega) only [at_N, at_S]
    · rw [if_neg hl]
      have hln := x_nl_in V f (x_lm V f m) l
      refine ⟨_, ?_, hF3.stI (j := 39) (v := I_ (x_nl V f (x_lm V f m) l)) (k := 0) ⟨rfl, by omega, by omega⟩, ?_, ?_, fun _ => at_S⟩
      · have elm := r_lm (N := N) hV hN hL2 f0 f1 m0 m1 hh l0 l1
        simp (disch := omega) only [fX11_finds, Int.reduceEq, Int.reduceNe, Int.reduceLT, Int.reduceLE, Int.reduceAdd, Int.reduceSub, Int.reduceMul, Int.reduceNeg, Int.zero_add, Int.add_zero, nm_eq, bd_some, bv_some, aI_ok, aL_ok, aS_ok, dv_ok, dw_ok, I_add, I_sub, I_mul, I_neg, I_lt, I_le, I_eq, I_nat, J_add, J_sub, J_mul, J_neg, J_lt, J_le, J_eq, I_l, J_i, I_div, J_div, b2_0, b2_1, b2_nar, nar_0, nar_1, zr_0, zr_1, zr_b2, cmp_eq, cmp_le, cmp_lt, cmp_gt, cmp_ge, mx_I, mn_I, mx_L, mn_L, az_I, if_true, if_false, not_true_eq_false, not_false_eq_true, i_0, i_1, i_2, i_3, i_4, i_5, i_6, i_7, i_8, i_9, i_10, i_11, i_12, i_16, i_18, i_20, i_24, i_28, i_29, i_30, i_31, i_32, i_33, i_34, i_35, i_37, i_40, i_41, i_42, i_43, i_45, i_46, i_47, i_48, i_57, i_59, i_63, i_64, i_96, i_97, i_98, i_99, i_100, i_101, i_102, i_103, i_104, i_105, i_106, i_107, i_108, i_109, i_110, i_111, i_112, i_113, i_122, i_200, i_255, i_256, i_257, i_258, i_355, i_400, i_999, i_1000, i_1200, i_5680, i_9999, i_10000, i_99999, j_0, j_1, j_2, j_3, j_4, j_5, j_6, j_9, j_10, j_11, j_98, j_99, j_100, j_999, j_1000, j_9999, j_10000, j_99999, j_1000000, r_laid hL.2.2, r_nl hV hN hL1, hq, at_S, elm, hl, r_nl hV hN hL3]
      · simp (disch := omega) only [at_N, at_S]
      · simp (disch := omega) only [at_N, at_S]
theorem r_wo (hV : vB V) (hN : 100 ≤ N) (hL : RLd V ν) (f0 : 0 ≤ f) (f1 : f < 4) (m0 : 0 ≤ m) (m1 : m < mN V) {l t : Int} (l0 : 0 ≤ l) (l1 : l ≤ 3) (t0 : -1 ≤ t) (t1 : t ≤ 11) : ∃ ν', fX11_worthOf N (I_ f) (I_ m) (I_ l) (I_ t) ν = some (J_ (x_wo V f m l t), ν') ∧ Fr P_rf ν ν' := by
  have hn := hV.1
  unfold vN at hn
  obtain ⟨ν', e1, e2, e3, e4, e5⟩ := r_finds (N := N) hV hN hL f0 f1 m0 m1 l0 l1
  have hL' := hL.f e2
  have hR := hL'.1
  refine ⟨ν', ?_, e2⟩
  have hc := c_of_in hV (f := f) f0 f1 m0 m1
  have se4 : ν'.1 1 (32 : Int).toNat = I_ (s_se V 4) := RB_se hR (k := 4) (by omega) (by omega)
  have se5 : ν'.1 1 (33 : Int).toNat = I_ (s_se V 5) := RB_se hR (k := 5) (by omega) (by omega)
  unfold x_wo
  by_cases hm : x_md V f m = -1
  · have h1 := mul_in (a := c_of V f m) (A := 9999) (b := s_se V 4) (B := 99) (by omega) (by omega) (by omega) (by omega)
    have hw : x_hw V f m = 3 := by
      unfold x_hw
      by_cases hh : 0 < x_hi V f m
      · unfold x_md at hm; rw [if_pos hh] at hm; omega
      · unfold x_md at hm; rw [if_neg hh] at hm; rw [if_neg hh, if_pos hm]
    rw [hw] at e3
    rw [if_pos hm]
    simp (disch := omega) only [fX11_worthOf, Int.reduceEq, Int.reduceNe, Int.reduceLT, Int.reduceLE, Int.reduceAdd, Int.reduceSub, Int.reduceMul, Int.reduceNeg, Int.zero_add, Int.add_zero, nm_eq, bd_some, bv_some, aI_ok, aL_ok, aS_ok, dv_ok, dw_ok, I_add, I_sub, I_mul, I_neg, I_lt, I_le, I_eq, I_nat, J_add, J_sub, J_mul, J_neg, J_lt, J_le, J_eq, I_l, J_i, I_div, J_div, b2_0, b2_1, b2_nar, nar_0, nar_1, zr_0, zr_1, zr_b2, cmp_eq, cmp_le, cmp_lt, cmp_gt, cmp_ge, mx_I, mn_I, mx_L, mn_L, az_I, if_true, if_false, not_true_eq_false, not_false_eq_true, i_0, i_1, i_2, i_3, i_4, i_5, i_6, i_7, i_8, i_9, i_10, i_11, i_12, i_16, i_18, i_20, i_24, i_28, i_29, i_30, i_31, i_32, i_33, i_34, i_35, i_37, i_40, i_41, i_42, i_43, i_45, i_46, i_47, i_48, i_57, i_59, i_63, i_64, i_96, i_97, i_98, i_99, i_100, i_101, i_102, i_103, i_104, i_105, i_106, i_107, i_108, i_109, i_110, i_111, i_112, i_113, i_122, i_200, i_255, i_256, i_257, i_258, i_355, i_400, i_999, i_1000, i_1200, i_5680, i_9999, i_10000, i_99999, j_0, j_1, j_2, j_3, j_4, j_5, j_6, j_9, j_10, j_11, j_98, j_99, j_100, j_999, j_1000, j_9999, j_10000, j_99999, j_1000000, e1, r_costOf hV hR, e3, se4]
  · rw [if_neg hm]
    have e5 := e5 hm
    rcases x_md_in hV (f := f) m0 m1 with h | ⟨h0, h1, h2⟩
    · exact absurd h hm
    · have hc2 := c_of_in hV (f := f) f0 f1 h0 h1
      have hl := x_nl_in V f (x_md V f m) l
      have hl2 := x_nl_pos hV l h2
      have ell : x_ll V f m l = x_nl V f (x_md V f m) l := by unfold x_ll; rw [if_neg hm]
      have hp := mul_ab (a := s_se V 5) (A := 99) (b := l - x_nl V f (x_md V f m) l) (B := 3) (by omega) (by omega) (by omega) (by omega)
      have ha := x_av_in hV f (x_md V f m) (x_nl V f (x_md V f m) l) t
      rw [ell]
      -- from the average on
      have e100 : fX11_worthOf_100 N (I_ f) (I_ l) (I_ (c_of V f m)) (J_ (x_av V f (x_md V f m) (x_nl V f (x_md V f m) l) t)) ν' = some (J_ (max 0 (x_av V f (x_md V f m) (x_nl V f (x_md V f m) l) t + 1000 * (s_se V 5 * (l - x_nl V f (x_md V f m) l) + c_of V f m - c_of V f (x_md V f m)))), ν') := by
        have ew : 1000 * s_se V 5 * (l - x_nl V f (x_md V f m) l) = 1000 * (s_se V 5 * (l - x_nl V f (x_md V f m) l)) := Int.mul_assoc _ _ _
        by_cases hh : 0 < x_hi V f m
        · have hw : x_hw V f m = 1 := by unfold x_hw; rw [if_pos hh]
          have ed : x_md V f m = m := by unfold x_md; rw [if_pos hh]
          rw [hw] at e3
          rw [ed] at hp ha ew e5 hl ⊢
          by_cases hs : 0 ≤ x_av V f m (x_nl V f m l) t + 1000 * (s_se V 5 * (l - x_nl V f m l))
          · have em : max 0 (x_av V f m (x_nl V f m l) t + 1000 * (s_se V 5 * (l - x_nl V f m l) + c_of V f m - c_of V f m)) = x_av V f m (x_nl V f m l) t + 1000 * (s_se V 5 * (l - x_nl V f m l)) := by omega
            simp (disch := omega) only [fX11_worthOf_100, fX11_worthOf_156, Int.reduceEq, Int.reduceNe, Int.reduceLT, Int.reduceLE, Int.reduceAdd, Int.reduceSub, Int.reduceMul, Int.reduceNeg, Int.zero_add, Int.add_zero, nm_eq, bd_some, bv_some, aI_ok, aL_ok, aS_ok, dv_ok, dw_ok, I_add, I_sub, I_mul, I_neg, I_lt, I_le, I_eq, I_nat, J_add, J_sub, J_mul, J_neg, J_lt, J_le, J_eq, I_l, J_i, I_div, J_div, b2_0, b2_1, b2_nar, nar_0, nar_1, zr_0, zr_1, zr_b2, cmp_eq, cmp_le, cmp_lt, cmp_gt, cmp_ge, mx_I, mn_I, mx_L, mn_L, az_I, if_true, if_false, not_true_eq_false, not_false_eq_true, i_0, i_1, i_2, i_3, i_4, i_5, i_6, i_7, i_8, i_9, i_10, i_11, i_12, i_16, i_18, i_20, i_24, i_28, i_29, i_30, i_31, i_32, i_33, i_34, i_35, i_37, i_40, i_41, i_42, i_43, i_45, i_46, i_47, i_48, i_57, i_59, i_63, i_64, i_96, i_97, i_98, i_99, i_100, i_101, i_102, i_103, i_104, i_105, i_106, i_107, i_108, i_109, i_110, i_111, i_112, i_113, i_122, i_200, i_255, i_256, i_257, i_258, i_355, i_400, i_999, i_1000, i_1200, i_5680, i_9999, i_10000, i_99999, j_0, j_1, j_2, j_3, j_4, j_5, j_6, j_9, j_10, j_11, j_98, j_99, j_100, j_999, j_1000, j_9999, j_10000, j_99999, j_1000000, se5, e5, e3, ew, hs, em]
          · have em : max 0 (x_av V f m (x_nl V f m l) t + 1000 * (s_se V 5 * (l - x_nl V f m l) + c_of V f m - c_of V f m)) = 0 := by omega
            simp (disch := omega) only [fX11_worthOf_100, fX11_worthOf_156, Int.reduceEq, Int.reduceNe, Int.reduceLT, Int.reduceLE, Int.reduceAdd, Int.reduceSub, Int.reduceMul, Int.reduceNeg, Int.zero_add, Int.add_zero, nm_eq, bd_some, bv_some, aI_ok, aL_ok, aS_ok, dv_ok, dw_ok, I_add, I_sub, I_mul, I_neg, I_lt, I_le, I_eq, I_nat, J_add, J_sub, J_mul, J_neg, J_lt, J_le, J_eq, I_l, J_i, I_div, J_div, b2_0, b2_1, b2_nar, nar_0, nar_1, zr_0, zr_1, zr_b2, cmp_eq, cmp_le, cmp_lt, cmp_gt, cmp_ge, mx_I, mn_I, mx_L, mn_L, az_I, if_true, if_false, not_true_eq_false, not_false_eq_true, i_0, i_1, i_2, i_3, i_4, i_5, i_6, i_7, i_8, i_9, i_10, i_11, i_12, i_16, i_18, i_20, i_24, i_28, i_29, i_30, i_31, i_32, i_33, i_34, i_35, i_37, i_40, i_41, i_42, i_43, i_45, i_46, i_47, i_48, i_57, i_59, i_63, i_64, i_96, i_97, i_98, i_99, i_100, i_101, i_102, i_103, i_104, i_105, i_106, i_107, i_108, i_109, i_110, i_111, i_112, i_113, i_122, i_200, i_255, i_256, i_257, i_258, i_355, i_400, i_999, i_1000, i_1200, i_5680, i_9999, i_10000, i_99999, j_0, j_1, j_2, j_3, j_4, j_5, j_6, j_9, j_10, j_11, j_98, j_99, j_100, j_999, j_1000, j_9999, j_10000, j_99999, j_1000000, se5, e5, e3, ew, hs, em]
        · have hw : x_hw V f m = 2 := by
            unfold x_hw
            have : ¬ x_lm V f m = -1 := by
              unfold x_md at hm; rw [if_neg hh] at hm; exact hm
            rw [if_neg hh, if_neg this]
          rw [hw] at e3
          by_cases hs : 0 ≤ x_av V f (x_md V f m) (x_nl V f (x_md V f m) l) t + 1000 * (s_se V 5 * (l - x_nl V f (x_md V f m) l)) + 1000 * (c_of V f m - c_of V f (x_md V f m))
          · have em : max 0 (x_av V f (x_md V f m) (x_nl V f (x_md V f m) l) t + 1000 * (s_se V 5 * (l - x_nl V f (x_md V f m) l) + c_of V f m - c_of V f (x_md V f m))) = x_av V f (x_md V f m) (x_nl V f (x_md V f m) l) t + 1000 * (s_se V 5 * (l - x_nl V f (x_md V f m) l)) + 1000 * (c_of V f m - c_of V f (x_md V f m)) := by omega
            simp (disch := omega) only [fX11_worthOf_100, fX11_worthOf_156, Int.reduceEq, Int.reduceNe, Int.reduceLT, Int.reduceLE, Int.reduceAdd, Int.reduceSub, Int.reduceMul, Int.reduceNeg, Int.zero_add, Int.add_zero, nm_eq, bd_some, bv_some, aI_ok, aL_ok, aS_ok, dv_ok, dw_ok, I_add, I_sub, I_mul, I_neg, I_lt, I_le, I_eq, I_nat, J_add, J_sub, J_mul, J_neg, J_lt, J_le, J_eq, I_l, J_i, I_div, J_div, b2_0, b2_1, b2_nar, nar_0, nar_1, zr_0, zr_1, zr_b2, cmp_eq, cmp_le, cmp_lt, cmp_gt, cmp_ge, mx_I, mn_I, mx_L, mn_L, az_I, if_true, if_false, not_true_eq_false, not_false_eq_true, i_0, i_1, i_2, i_3, i_4, i_5, i_6, i_7, i_8, i_9, i_10, i_11, i_12, i_16, i_18, i_20, i_24, i_28, i_29, i_30, i_31, i_32, i_33, i_34, i_35, i_37, i_40, i_41, i_42, i_43, i_45, i_46, i_47, i_48, i_57, i_59, i_63, i_64, i_96, i_97, i_98, i_99, i_100, i_101, i_102, i_103, i_104, i_105, i_106, i_107, i_108, i_109, i_110, i_111, i_112, i_113, i_122, i_200, i_255, i_256, i_257, i_258, i_355, i_400, i_999, i_1000, i_1200, i_5680, i_9999, i_10000, i_99999, j_0, j_1, j_2, j_3, j_4, j_5, j_6, j_9, j_10, j_11, j_98, j_99, j_100, j_999, j_1000, j_9999, j_10000, j_99999, j_1000000, se5, e5, e3, e4, r_costOf hV hR, ew, hs, em]
          · have em : max 0 (x_av V f (x_md V f m) (x_nl V f (x_md V f m) l) t + 1000 * (s_se V 5 * (l - x_nl V f (x_md V f m) l) + c_of V f m - c_of V f (x_md V f m))) = 0 := by omega
            simp (disch := omega) only [fX11_worthOf_100, fX11_worthOf_156, Int.reduceEq, Int.reduceNe, Int.reduceLT, Int.reduceLE, Int.reduceAdd, Int.reduceSub, Int.reduceMul, Int.reduceNeg, Int.zero_add, Int.add_zero, nm_eq, bd_some, bv_some, aI_ok, aL_ok, aS_ok, dv_ok, dw_ok, I_add, I_sub, I_mul, I_neg, I_lt, I_le, I_eq, I_nat, J_add, J_sub, J_mul, J_neg, J_lt, J_le, J_eq, I_l, J_i, I_div, J_div, b2_0, b2_1, b2_nar, nar_0, nar_1, zr_0, zr_1, zr_b2, cmp_eq, cmp_le, cmp_lt, cmp_gt, cmp_ge, mx_I, mn_I, mx_L, mn_L, az_I, if_true, if_false, not_true_eq_false, not_false_eq_true, i_0, i_1, i_2, i_3, i_4, i_5, i_6, i_7, i_8, i_9, i_10, i_11, i_12, i_16, i_18, i_20, i_24, i_28, i_29, i_30, i_31, i_32, i_33, i_34, i_35, i_37, i_40, i_41, i_42, i_43, i_45, i_46, i_47, i_48, i_57, i_59, i_63, i_64, i_96, i_97, i_98, i_99, i_100, i_101, i_102, i_103, i_104, i_105, i_106, i_107, i_108, i_109, i_110, i_111, i_112, i_113, i_122, i_200, i_255, i_256, i_257, i_258, i_355, i_400, i_999, i_1000, i_1200, i_5680, i_9999, i_10000, i_99999, j_0, j_1, j_2, j_3, j_4, j_5, j_6, j_9, j_10, j_11, j_98, j_99, j_100, j_999, j_1000, j_9999, j_10000, j_99999, j_1000000, se5, e5, e3, e4, r_costOf hV hR, ew, hs, em]
      have hw3 : ¬ x_hw V f m = 3 := by
        unfold x_hw
        by_cases hh : 0 < x_hi V f m
        · rw [if_pos hh]; omega
        · have : ¬ x_lm V f m = -1 := by
            unfold x_md at hm; rw [if_neg hh] at hm; exact hm
          rw [if_neg hh, if_neg this]; omega
      have hwi : 1 ≤ x_hw V f m ∧ x_hw V f m ≤ 3 := by unfold x_hw; (repeat' split) <;> omega
      have him : 0 < x_im V f (x_md V f m) (x_nl V f (x_md V f m) l) := by
        rcases Int.lt_or_le 0 (x_im V f (x_md V f m) (x_nl V f (x_md V f m) l)) with q | q
        · exact q
        · exact absurd q (Int.not_le.mpr (x_im_nl hV l h2))
      have hmm := x_mm_in hV f (x_md V f m) (x_nl V f (x_md V f m) l) t
      have hmv := x_mv_in hV f (x_md V f m) (x_nl V f (x_md V f m) l) t
      have e72 : fX11_worthOf_72 N (I_ f) (I_ l) (I_ (c_of V f m)) (J_ (-1)) ν' = fX11_worthOf_100 N (I_ f) (I_ l) (I_ (c_of V f m)) (J_ (x_iv V f (x_md V f m) (x_nl V f (x_md V f m) l) / x_im V f (x_md V f m) (x_nl V f (x_md V f m) l))) ν' := by
        have h0 : ¬ x_im V f (x_md V f m) (x_nl V f (x_md V f m) l) = 0 := by omega
        simp (disch := omega) only [fX11_worthOf_72, Int.reduceEq, Int.reduceNe, Int.reduceLT, Int.reduceLE, Int.reduceAdd, Int.reduceSub, Int.reduceMul, Int.reduceNeg, Int.zero_add, Int.add_zero, nm_eq, bd_some, bv_some, aI_ok, aL_ok, aS_ok, dv_ok, dw_ok, I_add, I_sub, I_mul, I_neg, I_lt, I_le, I_eq, I_nat, J_add, J_sub, J_mul, J_neg, J_lt, J_le, J_eq, I_l, J_i, I_div, J_div, b2_0, b2_1, b2_nar, nar_0, nar_1, zr_0, zr_1, zr_b2, cmp_eq, cmp_le, cmp_lt, cmp_gt, cmp_ge, mx_I, mn_I, mx_L, mn_L, az_I, if_true, if_false, not_true_eq_false, not_false_eq_true, i_0, i_1, i_2, i_3, i_4, i_5, i_6, i_7, i_8, i_9, i_10, i_11, i_12, i_16, i_18, i_20, i_24, i_28, i_29, i_30, i_31, i_32, i_33, i_34, i_35, i_37, i_40, i_41, i_42, i_43, i_45, i_46, i_47, i_48, i_57, i_59, i_63, i_64, i_96, i_97, i_98, i_99, i_100, i_101, i_102, i_103, i_104, i_105, i_106, i_107, i_108, i_109, i_110, i_111, i_112, i_113, i_122, i_200, i_255, i_256, i_257, i_258, i_355, i_400, i_999, i_1000, i_1200, i_5680, i_9999, i_10000, i_99999, j_0, j_1, j_2, j_3, j_4, j_5, j_6, j_9, j_10, j_11, j_98, j_99, j_100, j_999, j_1000, j_9999, j_10000, j_99999, j_1000000, e4, e5, r_av_any hV hN hL', h0]
      by_cases ht : t = -1
      · subst ht
        have ea : x_av V f (x_md V f m) (x_nl V f (x_md V f m) l) (-1) = x_iv V f (x_md V f m) (x_nl V f (x_md V f m) l) / x_im V f (x_md V f m) (x_nl V f (x_md V f m) l) := by
          unfold x_av; rw [if_neg (fun q => q.1 rfl), if_pos him]
        rw [ea] at e100 ⊢
        simp (disch := omega) only [fX11_worthOf, Int.reduceEq, Int.reduceNe, Int.reduceLT, Int.reduceLE, Int.reduceAdd, Int.reduceSub, Int.reduceMul, Int.reduceNeg, Int.zero_add, Int.add_zero, nm_eq, bd_some, bv_some, aI_ok, aL_ok, aS_ok, dv_ok, dw_ok, I_add, I_sub, I_mul, I_neg, I_lt, I_le, I_eq, I_nat, J_add, J_sub, J_mul, J_neg, J_lt, J_le, J_eq, I_l, J_i, I_div, J_div, b2_0, b2_1, b2_nar, nar_0, nar_1, zr_0, zr_1, zr_b2, cmp_eq, cmp_le, cmp_lt, cmp_gt, cmp_ge, mx_I, mn_I, mx_L, mn_L, az_I, if_true, if_false, not_true_eq_false, not_false_eq_true, i_0, i_1, i_2, i_3, i_4, i_5, i_6, i_7, i_8, i_9, i_10, i_11, i_12, i_16, i_18, i_20, i_24, i_28, i_29, i_30, i_31, i_32, i_33, i_34, i_35, i_37, i_40, i_41, i_42, i_43, i_45, i_46, i_47, i_48, i_57, i_59, i_63, i_64, i_96, i_97, i_98, i_99, i_100, i_101, i_102, i_103, i_104, i_105, i_106, i_107, i_108, i_109, i_110, i_111, i_112, i_113, i_122, i_200, i_255, i_256, i_257, i_258, i_355, i_400, i_999, i_1000, i_1200, i_5680, i_9999, i_10000, i_99999, j_0, j_1, j_2, j_3, j_4, j_5, j_6, j_9, j_10, j_11, j_98, j_99, j_100, j_999, j_1000, j_9999, j_10000, j_99999, j_1000000, e1, r_costOf hV hR, e3, hw3, e72, e100]
      · by_cases hq : 0 < x_mm V f (x_md V f m) (x_nl V f (x_md V f m) l) t
        · have ea : x_av V f (x_md V f m) (x_nl V f (x_md V f m) l) t = x_mv V f (x_md V f m) (x_nl V f (x_md V f m) l) t / x_mm V f (x_md V f m) (x_nl V f (x_md V f m) l) t := by
            unfold x_av; rw [if_pos ⟨ht, hq⟩]
          have h0 : ¬ x_mm V f (x_md V f m) (x_nl V f (x_md V f m) l) t = 0 := by omega
          have hd := dv_in hmv.1 hq hmv.2
          have hd' : ¬ x_mv V f (x_md V f m) (x_nl V f (x_md V f m) l) t / x_mm V f (x_md V f m) (x_nl V f (x_md V f m) l) t = -1 := by omega
          rw [ea] at e100 ⊢
          simp (disch := omega) only [fX11_worthOf, Int.reduceEq, Int.reduceNe, Int.reduceLT, Int.reduceLE, Int.reduceAdd, Int.reduceSub, Int.reduceMul, Int.reduceNeg, Int.zero_add, Int.add_zero, nm_eq, bd_some, bv_some, aI_ok, aL_ok, aS_ok, dv_ok, dw_ok, I_add, I_sub, I_mul, I_neg, I_lt, I_le, I_eq, I_nat, J_add, J_sub, J_mul, J_neg, J_lt, J_le, J_eq, I_l, J_i, I_div, J_div, b2_0, b2_1, b2_nar, nar_0, nar_1, zr_0, zr_1, zr_b2, cmp_eq, cmp_le, cmp_lt, cmp_gt, cmp_ge, mx_I, mn_I, mx_L, mn_L, az_I, if_true, if_false, not_true_eq_false, not_false_eq_true, i_0, i_1, i_2, i_3, i_4, i_5, i_6, i_7, i_8, i_9, i_10, i_11, i_12, i_16, i_18, i_20, i_24, i_28, i_29, i_30, i_31, i_32, i_33, i_34, i_35, i_37, i_40, i_41, i_42, i_43, i_45, i_46, i_47, i_48, i_57, i_59, i_63, i_64, i_96, i_97, i_98, i_99, i_100, i_101, i_102, i_103, i_104, i_105, i_106, i_107, i_108, i_109, i_110, i_111, i_112, i_113, i_122, i_200, i_255, i_256, i_257, i_258, i_355, i_400, i_999, i_1000, i_1200, i_5680, i_9999, i_10000, i_99999, j_0, j_1, j_2, j_3, j_4, j_5, j_6, j_9, j_10, j_11, j_98, j_99, j_100, j_999, j_1000, j_9999, j_10000, j_99999, j_1000000, e1, r_costOf hV hR, e3, hw3, ht, e4, e5, r_av_mo hV hN hL', h0, fX11_worthOf_72, hd', e100]
        · have ea : x_av V f (x_md V f m) (x_nl V f (x_md V f m) l) t = x_iv V f (x_md V f m) (x_nl V f (x_md V f m) l) / x_im V f (x_md V f m) (x_nl V f (x_md V f m) l) := by
            unfold x_av; rw [if_neg (fun q => hq q.2), if_pos him]
          have h0 : x_mm V f (x_md V f m) (x_nl V f (x_md V f m) l) t = 0 := by omega
          rw [ea] at e100 ⊢
          simp (disch := omega) only [fX11_worthOf, Int.reduceEq, Int.reduceNe, Int.reduceLT, Int.reduceLE, Int.reduceAdd, Int.reduceSub, Int.reduceMul, Int.reduceNeg, Int.zero_add, Int.add_zero, nm_eq, bd_some, bv_some, aI_ok, aL_ok, aS_ok, dv_ok, dw_ok, I_add, I_sub, I_mul, I_neg, I_lt, I_le, I_eq, I_nat, J_add, J_sub, J_mul, J_neg, J_lt, J_le, J_eq, I_l, J_i, I_div, J_div, b2_0, b2_1, b2_nar, nar_0, nar_1, zr_0, zr_1, zr_b2, cmp_eq, cmp_le, cmp_lt, cmp_gt, cmp_ge, mx_I, mn_I, mx_L, mn_L, az_I, if_true, if_false, not_true_eq_false, not_false_eq_true, i_0, i_1, i_2, i_3, i_4, i_5, i_6, i_7, i_8, i_9, i_10, i_11, i_12, i_16, i_18, i_20, i_24, i_28, i_29, i_30, i_31, i_32, i_33, i_34, i_35, i_37, i_40, i_41, i_42, i_43, i_45, i_46, i_47, i_48, i_57, i_59, i_63, i_64, i_96, i_97, i_98, i_99, i_100, i_101, i_102, i_103, i_104, i_105, i_106, i_107, i_108, i_109, i_110, i_111, i_112, i_113, i_122, i_200, i_255, i_256, i_257, i_258, i_355, i_400, i_999, i_1000, i_1200, i_5680, i_9999, i_10000, i_99999, j_0, j_1, j_2, j_3, j_4, j_5, j_6, j_9, j_10, j_11, j_98, j_99, j_100, j_999, j_1000, j_9999, j_10000, j_99999, j_1000000, e1, r_costOf hV hR, e3, hw3, ht, e4, e5, r_av_mo hV hN hL', h0, e72, e100]
end
