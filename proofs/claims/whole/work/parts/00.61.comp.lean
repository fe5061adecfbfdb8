/-! Comparison: the second loop, sums, margins. -/
section
variable {N : Nat} {b : Nat} {V : Vw} {f t : Int}
/-- a gathering stands -/
def CP (V : Vw) (f t : Int) (μ : Mem) : Prop := μ.1 4 5 = I_ (uN V f t) ∧ μ.2.1 4 6 = J_ (x_val V f) ∧ μ.2.1 4 7 = J_ (x_mn V f 1) ∧ ∀ k, 0 ≤ k → k < uN V f t → μ.1 19 k.toNat = I_ (uZ V f t k) ∧ μ.1 20 k.toNat = I_ (uM V f t k) ∧ μ.2.1 21 k.toNat = J_ (uA V f t k) ∧ μ.2.1 22 k.toNat = J_ (uW V f t k)
/-- the second loop: before k all is done, from k on the averages are still sums -/
def GB (V : Vw) (f t i : Int) (μ : Mem) : Prop := μ.1 4 5 = I_ (uN V f t) ∧ μ.2.1 4 6 = J_ (x_val V f) ∧ μ.2.1 4 7 = J_ (x_mn V f 1) ∧ (∀ k, 0 ≤ k → k < uN V f t → μ.1 19 k.toNat = I_ (uZ V f t k) ∧ μ.1 20 k.toNat = I_ (uM V f t k)) ∧ (∀ k, 0 ≤ k → k < i → μ.2.1 21 k.toNat = J_ (uA V f t k) ∧ μ.2.1 22 k.toNat = J_ (uW V f t k)) ∧ ∀ k, i ≤ k → k < uN V f t → μ.2.1 21 k.toNat = J_ (uV V f t k)
theorem c_g78 (hV : vB V) (hN : 100 ≤ N) (t0 : 0 ≤ t) (t1 : t ≤ 2) : ∀ (d n : Nat) (i : Int) (μ : Mem), d < n → 0 ≤ i → i + d = uN V f t → CB b V μ → ST b V f μ → GB V f t i μ → ∃ μ', fX2_gather_78 N n b (I_ t) (I_ i) μ = some ((), μ') ∧ Fr P_ga μ μ' ∧ CP V f t μ' := by
  have hn := hV.1
  unfold vN at hn
  have hu := uN_in hV f t
  intro d
  induction d with
  | zero =>
    intro n i μ h1 h2 h3 hB hT hG
    obtain ⟨n, rfl⟩ : ∃ m, n = m + 1 := ⟨n - 1, by omega⟩
    have hle : uN V f t ≤ i := by omega
    have hi : i = uN V f t := by omega
    obtain ⟨g1, g2, g3, g4, g5, g6⟩ := hG
    refine ⟨μ, ?_, Fr.rf, g1, g2, g3, fun k k0 k1 => ⟨(g4 k k0 k1).1, (g4 k k0 k1).2, (g5 k k0 (by omega)).1, (g5 k k0 (by omega)).2⟩⟩
    simp (disch := omega) only [fX2_gather_78, Int.reduceEq, Int.reduceNe, Int.reduceLT, Int.reduceLE, Int.reduceAdd, Int.reduceSub, Int.reduceMul, Int.reduceNeg, Int.zero_add, Int.add_zero, nm_eq, bd_some, bv_some, aI_ok, aL_ok, aS_ok, dv_ok, dw_ok, I_add, I_sub, I_mul, I_neg, I_lt, I_le, I_eq, I_nat, J_add, J_sub, J_mul, J_neg, J_lt, J_le, J_eq, I_l, J_i, I_div, J_div, b2_0, b2_1, b2_nar, nar_0, nar_1, zr_0, zr_1, zr_b2, cmp_eq, cmp_le, cmp_lt, cmp_gt, cmp_ge, mx_I, mn_I, mx_L, mn_L, az_I, if_true, if_false, not_true_eq_false, not_false_eq_true, i_0, i_1, i_2, i_3, i_4, i_5, i_6, i_7, i_8, i_9, i_10, i_11, i_12, i_16, i_18, i_20, i_24, i_28, i_29, i_30, i_31, i_32, i_33, i_34, i_35, i_37, i_40, i_41, i_42, i_43, i_45, i_46, i_47, i_48, i_57, i_59, i_63, i_64, i_96, i_97, i_98, i_99, i_100, i_101, i_102, i_103, i_104, i_105, i_106, i_107, i_108, i_109, i_110, i_111, i_112, i_113, i_122, i_200, i_255, i_256, i_257, i_258, i_355, i_400, i_999, i_1000, i_1200, i_5680, i_9999, i_10000, i_99999, j_0, j_1, j_2, j_3, j_4, j_5, j_6, j_9, j_10, j_11, j_98, j_99, j_100, j_999, j_1000, j_9999, j_10000, j_99999, j_1000000, g1, hle]
  | succ d ih =>
    intro n i μ h1 h2 h3 hB hT hG
    obtain ⟨n, rfl⟩ : ∃ m, n = m + 1 := ⟨n - 1, by omega⟩
    have hle : ¬ uN V f t ≤ i := by omega
    have hlt : i < uN V f t := by omega
    obtain ⟨g1, g2, g3, g4, g5, g6⟩ := hG
    obtain ⟨q1, q2⟩ := g4 i h2 hlt
    have q3 := g6 i (by omega) hlt
    have um := uM_in hV f t i
    have up := uM_pos hV h2 hlt
    have uv := uV_in hV f t i
    have uz := uZ_in hV h2 hlt
    have hm : ¬ uM V f t i ≤ 0 := by omega
    have ea : uV V f t i / uM V f t i = uA V f t i := by unfold uA; rw [if_pos (by omega)]
    have hF1 : Fr P_ga μ (stL μ 21 i.toNat (J_ (uA V f t i))) := Fr.rf.stL (by unfold P_ga; omega)
    have hB1 : CB b V (stL μ 21 i.toNat (J_ (uA V f t i))) := hB.F hF1 P_ga_ge
    have hT1 := hT.ga hF1
    have hF2 : Fr P_ga μ (stL (stL μ 21 i.toNat (J_ (uA V f t i))) 22 i.toNat (J_ (uW V f t i))) := hF1.stL (by unfold P_ga; omega)
    have cw := c_wf (N := N) hV hN hB1 hT1 uz.1 uz.2.1 uz.2.2.2.1 t0 t1
    have ew : x_wf V (uZ V f t i) t = uW V f t i := rfl
    rw [ew] at cw
    obtain ⟨μ', e1, e2, e3⟩ := ih n (i + 1) _ (by omega) (by omega) (by omega) (hB.F hF2 P_ga_ge) (hT.ga hF2) ⟨by simp (disch := omega) only [st_L1, g1], by simp (disch := omega) only [stL_nc, g2], by simp (disch := omega) only [stL_nc, g3], fun k k0 k1 => by simp (disch := omega) only [st_L1]; exact g4 k k0 k1, fun k k0 k1 => by
      by_cases hk : k = i
      · subst hk
        simp (disch := omega) only [stL_nc, at_L, if_true, and_self]
      · simp (disch := omega) only [stL_nc, at_L, hk, if_false]
        exact g5 k k0 (by omega), fun k k0 k1 => by
      have hk : ¬ k = i := by omega
      simp (disch := omega) only [stL_nc, at_L, hk, if_false]
      exact g6 k (by omega) k1⟩
    refine ⟨μ', ?_, hF2.tr e2, e3⟩
    simp (disch := omega) only [fX2_gather_78, fX2_gather_123, Int.reduceEq, Int.reduceNe, Int.reduceLT, Int.reduceLE, Int.reduceAdd, Int.reduceSub, Int.reduceMul, Int.reduceNeg, Int.zero_add, Int.add_zero, nm_eq, bd_some, bv_some, aI_ok, aL_ok, aS_ok, dv_ok, dw_ok, I_add, I_sub, I_mul, I_neg, I_lt, I_le, I_eq, I_nat, J_add, J_sub, J_mul, J_neg, J_lt, J_le, J_eq, I_l, J_i, I_div, J_div, b2_0, b2_1, b2_nar, nar_0, nar_1, zr_0, zr_1, zr_b2, cmp_eq, cmp_le, cmp_lt, cmp_gt, cmp_ge, mx_I, mn_I, mx_L, mn_L, az_I, if_true, if_false, not_true_eq_false, not_false_eq_true, i_0, i_1, i_2, i_3, i_4, i_5, i_6, i_7, i_8, i_9, i_10, i_11, i_12, i_16, i_18, i_20, i_24, i_28, i_29, i_30, i_31, i_32, i_33, i_34, i_35, i_37, i_40, i_41, i_42, i_43, i_45, i_46, i_47, i_48, i_57, i_59, i_63, i_64, i_96, i_97, i_98, i_99, i_100, i_101, i_102, i_103, i_104, i_105, i_106, i_107, i_108, i_109, i_110, i_111, i_112, i_113, i_122, i_200, i_255, i_256, i_257, i_258, i_355, i_400, i_999, i_1000, i_1200, i_5680, i_9999, i_10000, i_99999, j_0, j_1, j_2, j_3, j_4, j_5, j_6, j_9, j_10, j_11, j_98, j_99, j_100, j_999, j_1000, j_9999, j_10000, j_99999, j_1000000, g1, hle, q2, hm, q3, ea, st_L1, q1, cw, e1]
theorem c_g27 (hV : vB V) (hN : 100 ≤ N) (f0 : 0 ≤ f) (f1 : f < 4) (t0 : 0 ≤ t) (t1 : t ≤ 2) : ∀ (d n : Nat) (i : Int) (μ : Mem), d < n → 0 ≤ i → i + d = sN V → CB b V μ → ST b V f μ → GA V f t i μ → ∃ μ', fX2_gather_27 N n b (I_ f) (I_ t) (I_ i) μ = some ((), μ') ∧ Fr P_ga μ μ' ∧ CP V f t μ' := by
  have hn := hV.1
  unfold vN at hn
  have hu := uN_in hV f t
  intro d
  induction d with
  | zero =>
    intro n i μ h1 h2 h3 hB hT hG
    obtain ⟨n, rfl⟩ : ∃ m, n = m + 1 := ⟨n - 1, by omega⟩
    have hle : sN V ≤ i := by omega
    have hi : i = sN V := by omega
    subst hi
    obtain ⟨μ', e1, e2, e3⟩ := c_g78 (N := N) hV hN t0 t1 (uN V f t).toNat N 0 μ (by omega) (by omega) (by omega) hB hT ⟨hG.1, hG.2.1, hG.2.2.1, fun k k0 k1 => ⟨(hG.2.2.2 k k0 k1).1, (hG.2.2.2 k k0 k1).2.1⟩, fun k k0 k1 => by omega, fun k k0 k1 => (hG.2.2.2 k k0 k1).2.2⟩
    refine ⟨μ', ?_, e2, e3⟩
    simp (disch := omega) only [fX2_gather_27, Int.reduceEq, Int.reduceNe, Int.reduceLT, Int.reduceLE, Int.reduceAdd, Int.reduceSub, Int.reduceMul, Int.reduceNeg, Int.zero_add, Int.add_zero, nm_eq, bd_some, bv_some, aI_ok, aL_ok, aS_ok, dv_ok, dw_ok, I_add, I_sub, I_mul, I_neg, I_lt, I_le, I_eq, I_nat, J_add, J_sub, J_mul, J_neg, J_lt, J_le, J_eq, I_l, J_i, I_div, J_div, b2_0, b2_1, b2_nar, nar_0, nar_1, zr_0, zr_1, zr_b2, cmp_eq, cmp_le, cmp_lt, cmp_gt, cmp_ge, mx_I, mn_I, mx_L, mn_L, az_I, if_true, if_false, not_true_eq_false, not_false_eq_true, i_0, i_1, i_2, i_3, i_4, i_5, i_6, i_7, i_8, i_9, i_10, i_11, i_12, i_16, i_18, i_20, i_24, i_28, i_29, i_30, i_31, i_32, i_33, i_34, i_35, i_37, i_40, i_41, i_42, i_43, i_45, i_46, i_47, i_48, i_57, i_59, i_63, i_64, i_96, i_97, i_98, i_99, i_100, i_101, i_102, i_103, i_104, i_105, i_106, i_107, i_108, i_109, i_110, i_111, i_112, i_113, i_122, i_200, i_255, i_256, i_257, i_258, i_355, i_400, i_999, i_1000, i_1200, i_5680, i_9999, i_10000, i_99999, j_0, j_1, j_2, j_3, j_4, j_5, j_6, j_9, j_10, j_11, j_98, j_99, j_100, j_999, j_1000, j_9999, j_10000, j_99999, j_1000000, SB_n hB.2.1, hle, e1]
  | succ d ih =>
    intro n i μ h1 h2 h3 hB hT hG
    obtain ⟨n, rfl⟩ : ∃ m, n = m + 1 := ⟨n - 1, by omega⟩
    have hle : ¬ sN V ≤ i := by omega
    have hlt : i < sN V := by omega
    have hS := hB.2.1
    by_cases he : p_ex V f i
    · obtain ⟨μ1, a1, a2, a3⟩ := c_add (N := N) hV hN hB h2 hlt he hG
      obtain ⟨μ', e1, e2, e3⟩ := ih n (i + 1) μ1 (by omega) (by omega) (by omega) (hB.F a2 P_ga_ge) (hT.ga a2) a3
      refine ⟨μ', ?_, a2.tr e2, e3⟩
      by_cases ht : t = 0
      · subst ht
        rw [b2_t rfl] at a1
        simp (disch := omega) only [fX2_gather_27, Int.reduceEq, Int.reduceNe, Int.reduceLT, Int.reduceLE, Int.reduceAdd, Int.reduceSub, Int.reduceMul, Int.reduceNeg, Int.zero_add, Int.add_zero, nm_eq, bd_some, bv_some, aI_ok, aL_ok, aS_ok, dv_ok, dw_ok, I_add, I_sub, I_mul, I_neg, I_lt, I_le, I_eq, I_nat, J_add, J_sub, J_mul, J_neg, J_lt, J_le, J_eq, I_l, J_i, I_div, J_div, b2_0, b2_1, b2_nar, nar_0, nar_1, zr_0, zr_1, zr_b2, cmp_eq, cmp_le, cmp_lt, cmp_gt, cmp_ge, mx_I, mn_I, mx_L, mn_L, az_I, if_true, if_false, not_true_eq_false, not_false_eq_true, i_0, i_1, i_2, i_3, i_4, i_5, i_6, i_7, i_8, i_9, i_10, i_11, i_12, i_16, i_18, i_20, i_24, i_28, i_29, i_30, i_31, i_32, i_33, i_34, i_35, i_37, i_40, i_41, i_42, i_43, i_45, i_46, i_47, i_48, i_57, i_59, i_63, i_64, i_96, i_97, i_98, i_99, i_100, i_101, i_102, i_103, i_104, i_105, i_106, i_107, i_108, i_109, i_110, i_111, i_112, i_113, i_122, i_200, i_255, i_256, i_257, i_258, i_355, i_400, i_999, i_1000, i_1200, i_5680, i_9999, i_10000, i_99999, j_0, j_1, j_2, j_3, j_4, j_5, j_6, j_9, j_10, j_11, j_98, j_99, j_100, j_999, j_1000, j_9999, j_10000, j_99999, j_1000000, SB_n hS, hle, c_isOf hV hS, he, and_self, a1, e1]
      · rw [b2_f ht] at a1
        simp (disch := omega) only [fX2_gather_27, Int.reduceEq, Int.reduceNe, Int.reduceLT, Int.reduceLE, Int.reduceAdd, Int.reduceSub, Int.reduceMul, Int.reduceNeg, Int.zero_add, Int.add_zero, nm_eq, bd_some, bv_some, aI_ok, aL_ok, aS_ok, dv_ok, dw_ok, I_add, I_sub, I_mul, I_neg, I_lt, I_le, I_eq, I_nat, J_add, J_sub, J_mul, J_neg, J_lt, J_le, J_eq, I_l, J_i, I_div, J_div, b2_0, b2_1, b2_nar, nar_0, nar_1, zr_0, zr_1, zr_b2, cmp_eq, cmp_le, cmp_lt, cmp_gt, cmp_ge, mx_I, mn_I, mx_L, mn_L, az_I, if_true, if_false, not_true_eq_false, not_false_eq_true, i_0, i_1, i_2, i_3, i_4, i_5, i_6, i_7, i_8, i_9, i_10, i_11, i_12, i_16, i_18, i_20, i_24, i_28, i_29, i_30, i_31, i_32, i_33, i_34, i_35, i_37, i_40, i_41, i_42, i_43, i_45, i_46, i_47, i_48, i_57, i_59, i_63, i_64, i_96, i_97, i_98, i_99, i_100, i_101, i_102, i_103, i_104, i_105, i_106, i_107, i_108, i_109, i_110, i_111, i_112, i_113, i_122, i_200, i_255, i_256, i_257, i_258, i_355, i_400, i_999, i_1000, i_1200, i_5680, i_9999, i_10000, i_99999, j_0, j_1, j_2, j_3, j_4, j_5, j_6, j_9, j_10, j_11, j_98, j_99, j_100, j_999, j_1000, j_9999, j_10000, j_99999, j_1000000, SB_n hS, hle, c_isOf hV hS, he, and_self, ht, a1, e1]
    · have hs : gSt V f t i (gS V f t i.toNat) = gS V f t i.toNat := by unfold gSt; rw [if_neg he]
      have z1 : g_val V f i = 0 := by unfold g_val; rw [if_neg he]
      have z2 : g_mn V f 1 i = 0 := by unfold g_mn; rw [if_neg he]
      obtain ⟨μ', e1, e2, e3⟩ := ih n (i + 1) μ (by omega) (by omega) (by omega) hB hT ⟨by rw [gS_step h2, hs]; exact hG.1, by rw [sg_step h2, z1, Int.add_zero]; exact hG.2.1, by rw [sg_step h2, z2, Int.add_zero]; exact hG.2.2.1, fun k k0 k1 => by
        rw [gS_step h2, hs] at k1 ⊢
        have z3 : g_um V f t (ky V t ((gS V f t i.toNat).2 k)) i = 0 := by unfold g_um; rw [if_neg (fun q => he q.1)]
        have z4 : g_uv V f t (ky V t ((gS V f t i.toNat).2 k)) i = 0 := by unfold g_uv; rw [if_neg (fun q => he q.1)]
        rw [sg_step h2, sg_step h2, z3, z4, Int.add_zero, Int.add_zero]
        exact hG.2.2.2 k k0 k1⟩
      refine ⟨μ', ?_, e2, e3⟩
      simp (disch := omega) only [fX2_gather_27, Int.reduceEq, Int.reduceNe, Int.reduceLT, Int.reduceLE, Int.reduceAdd, Int.reduceSub, Int.reduceMul, Int.reduceNeg, Int.zero_add, Int.add_zero, nm_eq, bd_some, bv_some, aI_ok, aL_ok, aS_ok, dv_ok, dw_ok, I_add, I_sub, I_mul, I_neg, I_lt, I_le, I_eq, I_nat, J_add, J_sub, J_mul, J_neg, J_lt, J_le, J_eq, I_l, J_i, I_div, J_div, b2_0, b2_1, b2_nar, nar_0, nar_1, zr_0, zr_1, zr_b2, cmp_eq, cmp_le, cmp_lt, cmp_gt, cmp_ge, mx_I, mn_I, mx_L, mn_L, az_I, if_true, if_false, not_true_eq_false, not_false_eq_true, i_0, i_1, i_2, i_3, i_4, i_5, i_6, i_7, i_8, i_9, i_10, i_11, i_12, i_16, i_18, i_20, i_24, i_28, i_29, i_30, i_31, i_32, i_33, i_34, i_35, i_37, i_40, i_41, i_42, i_43, i_45, i_46, i_47, i_48, i_57, i_59, i_63, i_64, i_96, i_97, i_98, i_99, i_100, i_101, i_102, i_103, i_104, i_105, i_106, i_107, i_108, i_109, i_110, i_111, i_112, i_113, i_122, i_200, i_255, i_256, i_257, i_258, i_355, i_400, i_999, i_1000, i_1200, i_5680, i_9999, i_10000, i_99999, j_0, j_1, j_2, j_3, j_4, j_5, j_6, j_9, j_10, j_11, j_98, j_99, j_100, j_999, j_1000, j_9999, j_10000, j_99999, j_1000000, SB_n hS, hle, c_isOf hV hS, he, e1]
theorem c_gather (hV : vB V) (hN : 100 ≤ N) (f0 : 0 ≤ f) (f1 : f < 4) (t0 : 0 ≤ t) (t1 : t ≤ 2) {μ : Mem} (hB : CB b V μ) : ∃ μ', fX2_gather N b (I_ f) (I_ t) μ = some ((), μ') ∧ Fr P_cp μ μ' ∧ CP V f t μ' ∧ ST b V f μ' := by
  have hn := hV.1
  unfold vN at hn
  obtain ⟨μ1, a1, a2, a3⟩ := c_look (N := N) hV hN f0 f1 hB
  have hF2 : Fr P_ga μ1 (stL (stL (stI μ1 4 5 (I_ 0)) 4 6 (J_ 0)) 4 7 (J_ 0)) := ((Fr.rf.stI (Or.inl rfl)).stL (Or.inl rfl)).stL (Or.inl rfl)
  have hB1 := hB.st a2
  obtain ⟨μ', e1, e2, e3⟩ := c_g27 (N := N) hV hN f0 f1 t0 t1 (sN V).toNat N 0 _ (by omega) (by omega) (by omega) (hB1.F hF2 P_ga_ge) (a3.ga hF2) ⟨rfl, rfl, rfl, fun k k0 k1 => by
    have : k < 0 := k1
    omega⟩
  refine ⟨μ', ?_, (a2.mono ?_).tr ((hF2.tr e2).mono ?_), e3, (a3.ga hF2).ga e2⟩
  · unfold fX2_gather
    rw [if_pos hB.1]
    simp (disch := omega) only [Int.reduceEq, Int.reduceNe, Int.reduceLT, Int.reduceLE, Int.reduceAdd, Int.reduceSub, Int.reduceMul, Int.reduceNeg, Int.zero_add, Int.add_zero, nm_eq, bd_some, bv_some, aI_ok, aL_ok, aS_ok, dv_ok, dw_ok, I_add, I_sub, I_mul, I_neg, I_lt, I_le, I_eq, I_nat, J_add, J_sub, J_mul, J_neg, J_lt, J_le, J_eq, I_l, J_i, I_div, J_div, b2_0, b2_1, b2_nar, nar_0, nar_1, zr_0, zr_1, zr_b2, cmp_eq, cmp_le, cmp_lt, cmp_gt, cmp_ge, mx_I, mn_I, mx_L, mn_L, az_I, if_true, if_false, not_true_eq_false, not_false_eq_true, i_0, i_1, i_2, i_3, i_4, i_5, i_6, i_7, i_8, i_9, i_10, i_11, i_12, i_16, i_18, i_20, i_24, i_28, i_29, i_30, i_31, i_32, i_33, i_34, i_35, i_37, i_40, i_41, i_42, i_43, i_45, i_46, i_47, i_48, i_57, i_59, i_63, i_64, i_96, i_97, i_98, i_99, i_100, i_101, i_102, i_103, i_104, i_105, i_106, i_107, i_108, i_109, i_110, i_111, i_112, i_113, i_122, i_200, i_255, i_256, i_257, i_258, i_355, i_400, i_999, i_1000, i_1200, i_5680, i_9999, i_10000, i_99999, j_0, j_1, j_2, j_3, j_4, j_5, j_6, j_9, j_10, j_11, j_98, j_99, j_100, j_999, j_1000, j_9999, j_10000, j_99999, j_1000000, a1, e1]
  · intro k j h; unfold P_st at h; unfold P_cp; omega
  · intro k j h; unfold P_ga at h; unfold P_cp; omega
end
