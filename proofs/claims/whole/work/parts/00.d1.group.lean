/-! The cases group, back. -/
section
variable {N : Nat} {b : Nat} {V : Vw} {ν μ : Mem} {f t : Int}
theorem sg_u (ht : t ≠ 0) (h : Int → Int) : ∀ i : Nat, sg (gS V f t i).1.toNat 0 (fun k => h ((gS V f t i).2 k)) = sg i 0 (fun z => if p_ex V f z then h z else 0) := by
  intro i
  induction i with
  | zero => rfl
  | succ i ih =>
    have e1 : gS V f t (i + 1) = gSt V f t (i : Int) (gS V f t i) := rfl
    rw [e1, sg_snoc, ← ih, Int.zero_add]
    by_cases he : p_ex V f i
    · have e2 := gSt_ex (V := V) (f := f) (t := t) ht (i := (i : Int)) (by omega) he
      rw [Int.toNat_natCast] at e2
      rw [e2, if_pos he]
      have hI := gI_at (V := V) (f := f) (t := t) (i := (i : Int)) (by omega)
      rw [Int.toNat_natCast] at hI
      have hc := hI.1
      have e3 : ((gS V f t i).1 + 1).toNat = (gS V f t i).1.toNat + 1 := by omega
      show sg ((gS V f t i).1 + 1).toNat 0 (fun k => h (if k = (gS V f t i).1 then (i : Int) else (gS V f t i).2 k)) = _
      rw [e3, sg_snoc, Int.zero_add]
      have e4 : (((gS V f t i).1.toNat : Nat) : Int) = (gS V f t i).1 := by omega
      rw [e4, if_pos rfl]
      congr 1
      refine sg_congr _ _ (fun z z0 z1 => ?_)
      show h (if z = (gS V f t i).1 then (i : Int) else (gS V f t i).2 z) = h ((gS V f t i).2 z)
      rw [if_neg (by omega)]
    · have e2 : gSt V f t (i : Int) (gS V f t i) = gS V f t i := by unfold gSt; rw [if_neg he]
      rw [e2, if_neg he, Int.add_zero]
theorem x_bk_eq (hV : vB V) : x_bk V f = x_ds V f - x_us V f (t_ow V) 0 True := by
  have ht : t_ow V ≠ 0 := by unfold t_ow; split <;> decide
  have hu : x_us V f (t_ow V) 0 True = sg (zN V) 0 (fun z => if p_ex V f z then max 0 (x_df V z (t_ow V)) else 0) := by
    rw [← sg_u (V := V) (f := f) ht (fun z => max 0 (x_df V z (t_ow V))) (zN V)]
    unfold x_us
    refine sg_congr _ _ (fun k k0 k1 => ?_)
    have hn := uN_in hV f (t_ow V)
    unfold g_us
    rw [if_pos trivial, u_D1 hV ht (by omega) (by omega)]
    rfl
  have hs : sg (zN V) 0 (g_dp V f) = sg (zN V) 0 (g_bk V f) + sg (zN V) 0 (fun z => if p_ex V f z then max 0 (x_df V z (t_ow V)) else 0) := by
    rw [← sg_add]
    refine sg_congr _ _ (fun z _ _ => ?_)
    show g_dp V f z = g_bk V f z + (if p_ex V f z then max 0 (x_df V z (t_ow V)) else 0)
    unfold g_dp g_bk x_ow
    by_cases h : p_ex V f z
    · rw [if_pos h, if_pos h, if_pos h]; omega
    · rw [if_neg h, if_neg h, if_neg h]; omega
  rw [hu]
  unfold x_bk x_ds
  omega
theorem Q33 (hN : 20000 ≤ N) (v : Nat → Int32) (hQ : RQ N b V μ ν) : ∃ z, lawC33 N v μ ν = some z ∧ QO N b V μ ν z := by
  obtain ⟨hV, hW, hK, hR⟩ := hQ
  have hQ : RQ N b V μ ν := ⟨hV, hW, hK, hR⟩
  have hn := hV.1
  unfold vN at hn
  obtain ⟨p, e, p0, p1⟩ := I_ex (v 1)
  have hgB : ∀ {β : Type} {μ : Mem}, μ.2.2 0 6 = b → ∀ (k : Nat → Option β), gB (μ.2.2 0 6) k = k b := fun h k => by rw [h]; exact if_pos hK.1.1
  by_cases hp : 0 ≤ p ∧ p < fN V
  · obtain ⟨μ1, c1, c2, c3⟩ := c_as (N := N) hV (by omega) hK.1
    have hK1 := hK.du c2
    have c4 := c_ds (N := N) (f := p) hV (by omega) hK1.1.2.1 c3 hp.1 (by omega)
    have c5 : fX1_methodOwed N b μ1 = some (I_ (t_ow V), μ1) := c_mOwed hV hK1.1
    have htb : 0 ≤ t_ow V ∧ t_ow V ≤ 2 := by unfold t_ow; split <;> omega
    obtain ⟨μ2, d1, d2, d3, _⟩ := c_gather (N := N) (f := p) (t := t_ow V) hV (by omega) hp.1 (by omega) htb.1 htb.2 hK1.1
    have d4 := c_sum (N := N) (Z := True) (r := 0) hV (by omega) d3 (by omega) (by omega)
    rw [b2_t trivial] at d4
    have hdu : Fr P_du μ μ2 := c2.tr (d2.mono (fun k j h => P_cp_du h))
    obtain ⟨ν1, r1, r2, r3⟩ := r_bk (N := N) (f := p) hV hW (by omega) hp.1 hp.2 (sN V).toNat N 0 0 (stI ν 0 0 (I_ 0)) (by omega) (by omega) (by omega) (hR.K.thr (I_ 0))
    have ex : (0 : Int) + sg (sN V).toNat 0 (g_bk V p) = x_ds V p - x_us V p (t_ow V) 0 True := by
      rw [← x_bk_eq hV]
      show 0 + x_bk V p = x_bk V p
      omega
    rw [ex] at r1
    have hc : fX10_back N (I_ p) μ = some (.inl (J_ (x_ds V p - x_us V p (t_ow V) 0 True)), μ2) := by
      unfold fX10_back
      rw [c_needF_y hV hK hp.1 hp.2, bx_l, hgB hK.2, c1, bv_some, hgB hK1.2, c4, bd_some, hgB hK1.2, hgB hK1.2, c5, bd_some, d1, bv_some, i_1, i_0, d4, bd_some, J_sub]
    have hr : fX11_back N (I_ p) ν = some (J_ (x_ds V p - x_us V p (t_ow V) 0 True), ν1) := by
      simp (disch := omega) only [fX11_back, fX11_back_14, Int.reduceEq, Int.reduceNe, Int.reduceLT, Int.reduceLE, Int.reduceAdd, Int.reduceSub, Int.reduceMul, Int.reduceNeg, Int.zero_add, Int.add_zero, nm_eq, bd_some, bv_some, aI_ok, aL_ok, aS_ok, dv_ok, dw_ok, I_add, I_sub, I_mul, I_neg, I_lt, I_le, I_eq, I_nat, J_add, J_sub, J_mul, J_neg, J_lt, J_le, J_eq, I_l, J_i, I_div, J_div, b2_0, b2_1, b2_nar, nar_0, nar_1, zr_0, zr_1, zr_b2, cmp_eq, cmp_le, cmp_lt, cmp_gt, cmp_ge, mx_I, mn_I, mx_L, mn_L, az_I, if_true, if_false, not_true_eq_false, not_false_eq_true, Bool.false_eq_true, i_0, i_1, i_2, i_3, i_4, i_5, i_6, i_7, i_8, i_9, i_10, i_11, i_12, i_16, i_18, i_20, i_24, i_28, i_29, i_30, i_31, i_32, i_33, i_34, i_35, i_37, i_40, i_41, i_42, i_43, i_45, i_46, i_47, i_48, i_57, i_59, i_63, i_64, i_96, i_97, i_98, i_99, i_100, i_101, i_102, i_103, i_104, i_105, i_106, i_107, i_108, i_109, i_110, i_111, i_112, i_113, i_122, i_200, i_255, i_256, i_257, i_258, i_355, i_400, i_999, i_1000, i_1200, i_5680, i_9999, i_10000, i_99999, j_0, j_1, j_2, j_3, j_4, j_5, j_6, j_9, j_10, j_11, j_98, j_99, j_100, j_999, j_1000, j_9999, j_10000, j_99999, j_1000000, r_isFirm hV hR.1, b2_t hp, at_S, r1]
    refine ⟨_, ?_, q_a hQ (J_ (x_ds V p - x_us V p (t_ow V) 0 True)) hdu r2 r3⟩
    simp (disch := omega) only [lawC33, fL_back, fX11_thrown, Int.reduceEq, Int.reduceNe, Int.reduceLT, Int.reduceLE, Int.reduceAdd, Int.reduceSub, Int.reduceMul, Int.reduceNeg, Int.zero_add, Int.add_zero, nm_eq, bd_some, bv_some, aI_ok, aL_ok, aS_ok, dv_ok, dw_ok, I_add, I_sub, I_mul, I_neg, I_lt, I_le, I_eq, I_nat, J_add, J_sub, J_mul, J_neg, J_lt, J_le, J_eq, I_l, J_i, I_div, J_div, b2_0, b2_1, b2_nar, nar_0, nar_1, zr_0, zr_1, zr_b2, cmp_eq, cmp_le, cmp_lt, cmp_gt, cmp_ge, mx_I, mn_I, mx_L, mn_L, az_I, if_true, if_false, not_true_eq_false, not_false_eq_true, Bool.false_eq_true, i_0, i_1, i_2, i_3, i_4, i_5, i_6, i_7, i_8, i_9, i_10, i_11, i_12, i_16, i_18, i_20, i_24, i_28, i_29, i_30, i_31, i_32, i_33, i_34, i_35, i_37, i_40, i_41, i_42, i_43, i_45, i_46, i_47, i_48, i_57, i_59, i_63, i_64, i_96, i_97, i_98, i_99, i_100, i_101, i_102, i_103, i_104, i_105, i_106, i_107, i_108, i_109, i_110, i_111, i_112, i_113, i_122, i_200, i_255, i_256, i_257, i_258, i_355, i_400, i_999, i_1000, i_1200, i_5680, i_9999, i_10000, i_99999, j_0, j_1, j_2, j_3, j_4, j_5, j_6, j_9, j_10, j_11, j_98, j_99, j_100, j_999, j_1000, j_9999, j_10000, j_99999, j_1000000, e, hc, hr, bh_l, q_0 r2, n_0, at_SL, cmp_self]
  · refine ⟨_, ?_, q_x hQ (I_ 1)⟩
    have hc : fX10_back N (I_ p) μ = some (.inr 0, μ) := by
      unfold fX10_back
      rw [c_needF_n hV hK p0 p1 hp, bx_r]
    have hr : fX11_back N (I_ p) ν = some (J_ 0, stI ν 0 0 (I_ 1)) := by
      simp (disch := omega) only [fX11_back, fX11_back_14, Int.reduceEq, Int.reduceNe, Int.reduceLT, Int.reduceLE, Int.reduceAdd, Int.reduceSub, Int.reduceMul, Int.reduceNeg, Int.zero_add, Int.add_zero, nm_eq, bd_some, bv_some, aI_ok, aL_ok, aS_ok, dv_ok, dw_ok, I_add, I_sub, I_mul, I_neg, I_lt, I_le, I_eq, I_nat, J_add, J_sub, J_mul, J_neg, J_lt, J_le, J_eq, I_l, J_i, I_div, J_div, b2_0, b2_1, b2_nar, nar_0, nar_1, zr_0, zr_1, zr_b2, cmp_eq, cmp_le, cmp_lt, cmp_gt, cmp_ge, mx_I, mn_I, mx_L, mn_L, az_I, if_true, if_false, not_true_eq_false, not_false_eq_true, Bool.false_eq_true, i_0, i_1, i_2, i_3, i_4, i_5, i_6, i_7, i_8, i_9, i_10, i_11, i_12, i_16, i_18, i_20, i_24, i_28, i_29, i_30, i_31, i_32, i_33, i_34, i_35, i_37, i_40, i_41, i_42, i_43, i_45, i_46, i_47, i_48, i_57, i_59, i_63, i_64, i_96, i_97, i_98, i_99, i_100, i_101, i_102, i_103, i_104, i_105, i_106, i_107, i_108, i_109, i_110, i_111, i_112, i_113, i_122, i_200, i_255, i_256, i_257, i_258, i_355, i_400, i_999, i_1000, i_1200, i_5680, i_9999, i_10000, i_99999, j_0, j_1, j_2, j_3, j_4, j_5, j_6, j_9, j_10, j_11, j_98, j_99, j_100, j_999, j_1000, j_9999, j_10000, j_99999, j_1000000, r_isFirm hV hR.1, b2_f hp, at_S]
    simp (disch := omega) only [lawC33, fL_back, fX11_thrown, Int.reduceEq, Int.reduceNe, Int.reduceLT, Int.reduceLE, Int.reduceAdd, Int.reduceSub, Int.reduceMul, Int.reduceNeg, Int.zero_add, Int.add_zero, nm_eq, bd_some, bv_some, aI_ok, aL_ok, aS_ok, dv_ok, dw_ok, I_add, I_sub, I_mul, I_neg, I_lt, I_le, I_eq, I_nat, J_add, J_sub, J_mul, J_neg, J_lt, J_le, J_eq, I_l, J_i, I_div, J_div, b2_0, b2_1, b2_nar, nar_0, nar_1, zr_0, zr_1, zr_b2, cmp_eq, cmp_le, cmp_lt, cmp_gt, cmp_ge, mx_I, mn_I, mx_L, mn_L, az_I, if_true, if_false, not_true_eq_false, not_false_eq_true, Bool.false_eq_true, i_0, i_1, i_2, i_3, i_4, i_5, i_6, i_7, i_8, i_9, i_10, i_11, i_12, i_16, i_18, i_20, i_24, i_28, i_29, i_30, i_31, i_32, i_33, i_34, i_35, i_37, i_40, i_41, i_42, i_43, i_45, i_46, i_47, i_48, i_57, i_59, i_63, i_64, i_96, i_97, i_98, i_99, i_100, i_101, i_102, i_103, i_104, i_105, i_106, i_107, i_108, i_109, i_110, i_111, i_112, i_113, i_122, i_200, i_255, i_256, i_257, i_258, i_355, i_400, i_999, i_1000, i_1200, i_5680, i_9999, i_10000, i_99999, j_0, j_1, j_2, j_3, j_4, j_5, j_6, j_9, j_10, j_11, j_98, j_99, j_100, j_999, j_1000, j_9999, j_10000, j_99999, j_1000000, e, hc, hr, bh_r, at_S]
theorem q_xg {μ1 ν1 : Mem} (hQ : RQ N b V μ ν) (h1 : Fr P_du μ μ1) (h2 : Fr P_rq (stI ν 0 0 (I_ 0)) ν1) (hK : RKd N V ν1) (k : Int32) : QO N b V μ ν (μ1, stI ν1 0 0 k) := ⟨h1.mono (fun k j h => Or.inl h), ((q_thr (I_ 0)).tr (h2.mono (fun k j h => Or.inl h))).tr (q_thr k), hQ.1, hQ.2.1, hQ.2.2.1.du h1, ((hQ.2.2.2.thr (I_ 0)).F h2 hK).thr k⟩
theorem Q22 (hN : 20000 ≤ N) (v : Nat → Int32) (hQ : RQ N b V μ ν) : ∃ z, lawC22 N v μ ν = some z ∧ QO N b V μ ν z := by
  obtain ⟨hV, hW, hK, hR⟩ := hQ
  have hQ : RQ N b V μ ν := ⟨hV, hW, hK, hR⟩
  have hn := hV.1
  unfold vN at hn
  obtain ⟨p, e, p0, p1⟩ := I_ex (v 1)
  obtain ⟨g, eg, g0, g1⟩ := I_ex (v 2)
  obtain ⟨k, ek, k0, k1⟩ := I_ex (v 3)
  by_cases hp : 0 ≤ p ∧ p < fN V
  · obtain ⟨ν0, a1, a2, a3, a4⟩ := r_lay (N := N) hV hW (by omega) (hR.K.thr (I_ 0))
    obtain ⟨ν1, d1, d2, d3, d5, d6⟩ := r_groups (N := N) (f := p) hV (by omega) hp.1 (by omega) a3
    have hF := a2.tr (d2.mono (fun k j h => P_rp_rq h))
    have hKd := (hR.K.thr (I_ 0)).laid hF (a3.p d2)
    have d4 : fX11_laysGroups N (I_ p) (stI ν 0 0 (I_ 0)) = some ((), ν1) := by
      rw [← d1]
      unfold fX11_laysGroups
      rw [a1, a4]
    obtain ⟨μ1, c1, c2, c3, c4⟩ := c_gather (N := N) (f := p) (t := 0) hV (by omega) hp.1 (by omega) (by omega) (by omega) hK.1
    have hdu := c2.mono (T := P_du) (fun k j h => P_cp_du h)
    have hK1 := hK.du hdu
    have hun := uN_in hV p 0
    have t0 : ν1.1 0 0 = I_ 0 := q_0 hF
    have eb : b2 (0 ≤ g ∧ g ≤ uN V p 0 - 1) = b2 (0 ≤ g ∧ g < uN V p 0) := by unfold b2; (repeat' split) <;> first | rfl | (exfalso; omega)
    have hgB : ∀ {β : Type} (k : Nat → Option β), gB (μ.2.2 0 6) k = k b := fun k => by rw [hK.2]; exact if_pos hK.1.1
    have hgB1 : ∀ {β : Type} (k : Nat → Option β), gB (μ1.2.2 0 6) k = k b := fun k => by rw [hK1.2]; exact if_pos hK.1.1
    have bad : fX10_group N (I_ p) (I_ g) (I_ k) μ = some (.inr 3, μ1) → fX11_group N (I_ p) (I_ g) (I_ k) ν = some (J_ 0, stI ν1 0 0 (I_ 2)) → ∃ z, lawC22 N v μ ν = some z ∧ QO N b V μ ν z := fun hc hr => by
      refine ⟨_, ?_, q_xg hQ hdu hF hKd (I_ 2)⟩
      have n30 : ¬ (3 : Nat) = 0 := by decide
      simp (disch := omega) only [lawC22, fL_group, fX11_thrown, Int.reduceEq, Int.reduceNe, Int.reduceLT, Int.reduceLE, Int.reduceAdd, Int.reduceSub, Int.reduceMul, Int.reduceNeg, Int.zero_add, Int.add_zero, nm_eq, bd_some, bv_some, aI_ok, aL_ok, aS_ok, dv_ok, dw_ok, I_add, I_sub, I_mul, I_neg, I_lt, I_le, I_eq, I_nat, J_add, J_sub, J_mul, J_neg, J_lt, J_le, J_eq, I_l, J_i, I_div, J_div, b2_0, b2_1, b2_nar, nar_0, nar_1, zr_0, zr_1, zr_b2, cmp_eq, cmp_le, cmp_lt, cmp_gt, cmp_ge, mx_I, mn_I, mx_L, mn_L, az_I, if_true, if_false, not_true_eq_false, not_false_eq_true, Bool.false_eq_true, i_0, i_1, i_2, i_3, i_4, i_5, i_6, i_7, i_8, i_9, i_10, i_11, i_12, i_16, i_18, i_20, i_24, i_28, i_29, i_30, i_31, i_32, i_33, i_34, i_35, i_37, i_40, i_41, i_42, i_43, i_45, i_46, i_47, i_48, i_57, i_59, i_63, i_64, i_96, i_97, i_98, i_99, i_100, i_101, i_102, i_103, i_104, i_105, i_106, i_107, i_108, i_109, i_110, i_111, i_112, i_113, i_122, i_200, i_255, i_256, i_257, i_258, i_355, i_400, i_999, i_1000, i_1200, i_5680, i_9999, i_10000, i_99999, j_0, j_1, j_2, j_3, j_4, j_5, j_6, j_9, j_10, j_11, j_98, j_99, j_100, j_999, j_1000, j_9999, j_10000, j_99999, j_1000000, e, eg, ek, hc, hr, bh_r, at_S, n30]
    by_cases hg : 0 ≤ g ∧ g < uN V p 0
    · have gn : ¬ g < 0 := by omega
      obtain ⟨x1, x2, x3, x4⟩ := c3.2.2.2 g hg.1 hg.2
      have y0 := d5 g hg.1 hg.2
      obtain ⟨y1, y2, y3, y4⟩ := d6 g hg.1 hg.2
      have zb := uZ_in hV hg.1 hg.2
      have hc5 : μ1.1 4 5 = I_ (uN V p 0) := c3.1
      have ec : fX10_group N (I_ p) (I_ g) (I_ k) μ = (if I_ k = (0 : Int32) then aI μ1 (b + 15) 40 (I_ (uZ V p 0 g)) fun x5 => some (.inl x5.toInt64, μ1) else if I_ k = (1 : Int32) then aI μ1 (b + 16) 40 (I_ (uZ V p 0 g)) fun x7 => some (.inl x7.toInt64, μ1) else if I_ k = (2 : Int32) then bd (fX1_monthToCompare N b (I_ (uZ V p 0 g)) μ1) fun r9 μ => some (.inl r9.toInt64, μ) else if I_ k = (3 : Int32) then aI μ1 20 40 (I_ g) fun x10 => some (.inl x10.toInt64, μ1) else if I_ k = (4 : Int32) then aL μ1 21 40 (I_ g) fun x11 => some (.inl x11, μ1) else if I_ k = (5 : Int32) then aL μ1 22 40 (I_ g) fun x12 => some (.inl x12, μ1) else if I_ k = (6 : Int32) then bd (fX2_differenceAt N (I_ g) (0 : Int32) μ1) fun r13 μ => some (.inl r13, μ) else some (.inr 3, μ1)) := by
        have l1 : ¬ I_ g < (0 : Int32) := by rw [i_0, I_lt (by omega) (by omega) (by omega) (by omega)]; exact gn
        have l2 : I_ g < I_ (uN V p 0) := by rw [I_lt (by omega) (by omega) (by omega) (by omega)]; exact hg.2
        unfold fX10_group
        rw [c_needF_y hV hK hp.1 hp.2, bx_l, hgB, i_0, c1, bv_some, ← i_0, if_neg l1, nm_eq, hc5, if_pos l2, aI_ok hg.1 (by omega) (by omega), x1, hgB1, hgB1, hgB1]
      by_cases hk : 0 ≤ k ∧ k ≤ 6
      · have er : fX11_group N (I_ p) (I_ g) (I_ k) ν = (if I_ k = (0 : Int32) then aI (stI ν1 0 0 (I_ 0)) 26 40 (I_ g) fun x7 => bd (fX11_of N x7 (2 : Int32) (stI ν1 0 0 (I_ 0))) fun r8 μ => some (r8.toInt64, μ) else if I_ k = (1 : Int32) then aI (stI ν1 0 0 (I_ 0)) 26 40 (I_ g) fun x9 => bd (fX11_of N x9 (3 : Int32) (stI ν1 0 0 (I_ 0))) fun r10 μ => some (r10.toInt64, μ) else if I_ k = (2 : Int32) then aI (stI ν1 0 0 (I_ 0)) 26 40 (I_ g) fun x11 => bd (fX11_monthFor N x11 (stI ν1 0 0 (I_ 0))) fun r12 μ => some (r12.toInt64, μ) else if I_ k = (3 : Int32) then aI (stI ν1 0 0 (I_ 0)) 25 40 (I_ g) fun x13 => some (x13.toInt64, stI ν1 0 0 (I_ 0)) else if I_ k = (4 : Int32) then aL (stI ν1 0 0 (I_ 0)) 27 40 (I_ g) fun x14 => some (x14, stI ν1 0 0 (I_ 0)) else if I_ k = (5 : Int32) then aL (stI ν1 0 0 (I_ 0)) 28 40 (I_ g) fun x15 => some (x15, stI ν1 0 0 (I_ 0)) else aL (stI ν1 0 0 (I_ 0)) 24 40 (I_ g) fun x16 => some (x16, stI ν1 0 0 (I_ 0))) := by
          have e65 : fX11_group N (I_ p) (I_ g) (I_ k) ν = fX11_group_65 N (I_ g) (I_ k) (I_ 0) ν1 := by
            simp (disch := omega) only [fX11_group, fX11_group_14, Int.reduceEq, Int.reduceNe, Int.reduceLT, Int.reduceLE, Int.reduceAdd, Int.reduceSub, Int.reduceMul, Int.reduceNeg, Int.zero_add, Int.add_zero, nm_eq, bd_some, bv_some, aI_ok, aL_ok, aS_ok, dv_ok, dw_ok, I_add, I_sub, I_mul, I_neg, I_lt, I_le, I_eq, I_nat, J_add, J_sub, J_mul, J_neg, J_lt, J_le, J_eq, I_l, J_i, I_div, J_div, b2_0, b2_1, b2_nar, nar_0, nar_1, zr_0, zr_1, zr_b2, cmp_eq, cmp_le, cmp_lt, cmp_gt, cmp_ge, mx_I, mn_I, mx_L, mn_L, az_I, if_true, if_false, not_true_eq_false, not_false_eq_true, Bool.false_eq_true, i_0, i_1, i_2, i_3, i_4, i_5, i_6, i_7, i_8, i_9, i_10, i_11, i_12, i_16, i_18, i_20, i_24, i_28, i_29, i_30, i_31, i_32, i_33, i_34, i_35, i_37, i_40, i_41, i_42, i_43, i_45, i_46, i_47, i_48, i_57, i_59, i_63, i_64, i_96, i_97, i_98, i_99, i_100, i_101, i_102, i_103, i_104, i_105, i_106, i_107, i_108, i_109, i_110, i_111, i_112, i_113, i_122, i_200, i_255, i_256, i_257, i_258, i_355, i_400, i_999, i_1000, i_1200, i_5680, i_9999, i_10000, i_99999, j_0, j_1, j_2, j_3, j_4, j_5, j_6, j_9, j_10, j_11, j_98, j_99, j_100, j_999, j_1000, j_9999, j_10000, j_99999, j_1000000, r_isFirm hV hR.1, b2_t hp, at_S, d4, d3, r_isIn, eb, b2_t hg, b2_t hk]
          rw [e65]
          unfold fX11_group_65
          rw [nm_eq, nm_eq, at_S, if_pos (show I_ 0 ≤ (0 : Int32) by decide)]
        rw [st_id t0] at er
        have fin : ∀ (w : Int64), fX10_group N (I_ p) (I_ g) (I_ k) μ = some (.inl w, μ1) → fX11_group N (I_ p) (I_ g) (I_ k) ν = some (w, ν1) → ∃ z, lawC22 N v μ ν = some z ∧ QO N b V μ ν z := fun w hc hr => by
          refine ⟨_, ?_, q_a hQ w hdu hF hKd⟩
          simp (disch := omega) only [lawC22, fL_group, fX11_thrown, Int.reduceEq, Int.reduceNe, Int.reduceLT, Int.reduceLE, Int.reduceAdd, Int.reduceSub, Int.reduceMul, Int.reduceNeg, Int.zero_add, Int.add_zero, nm_eq, bd_some, bv_some, aI_ok, aL_ok, aS_ok, dv_ok, dw_ok, I_add, I_sub, I_mul, I_neg, I_lt, I_le, I_eq, I_nat, J_add, J_sub, J_mul, J_neg, J_lt, J_le, J_eq, I_l, J_i, I_div, J_div, b2_0, b2_1, b2_nar, nar_0, nar_1, zr_0, zr_1, zr_b2, cmp_eq, cmp_le, cmp_lt, cmp_gt, cmp_ge, mx_I, mn_I, mx_L, mn_L, az_I, if_true, if_false, not_true_eq_false, not_false_eq_true, Bool.false_eq_true, i_0, i_1, i_2, i_3, i_4, i_5, i_6, i_7, i_8, i_9, i_10, i_11, i_12, i_16, i_18, i_20, i_24, i_28, i_29, i_30, i_31, i_32, i_33, i_34, i_35, i_37, i_40, i_41, i_42, i_43, i_45, i_46, i_47, i_48, i_57, i_59, i_63, i_64, i_96, i_97, i_98, i_99, i_100, i_101, i_102, i_103, i_104, i_105, i_106, i_107, i_108, i_109, i_110, i_111, i_112, i_113, i_122, i_200, i_255, i_256, i_257, i_258, i_355, i_400, i_999, i_1000, i_1200, i_5680, i_9999, i_10000, i_99999, j_0, j_1, j_2, j_3, j_4, j_5, j_6, j_9, j_10, j_11, j_98, j_99, j_100, j_999, j_1000, j_9999, j_10000, j_99999, j_1000000, e, eg, ek, hc, hr, bh_l, t0, n_0, at_SL, cmp_self]
        have aIg : ∀ {β : Type} {μ : Mem} {c : Nat} {h : Int32 → Option β}, aI μ c 40 (I_ g) h = h (μ.1 c g.toNat) := fun {β μ c h} => aI_ok hg.1 (by omega) (by omega)
        have aLg : ∀ {β : Type} {μ : Mem} {c : Nat} {h : Int64 → Option β}, aL μ c 40 (I_ g) h = h (μ.2.1 c g.toNat) := fun {β μ c h} => aL_ok hg.1 (by omega) (by omega)
        have aIz : ∀ {β : Type} {μ : Mem} {c : Nat} {h : Int32 → Option β}, aI μ c 40 (I_ (uZ V p 0 g)) h = h (μ.1 c (uZ V p 0 g).toNat) := fun {β μ c h} => aI_ok zb.1 (by omega) (by omega)
        have hRB1 : RB V ν1 := hKd.1
        rcases (show k = 0 ∨ k = 1 ∨ k = 2 ∨ k = 3 ∨ k = 4 ∨ k = 5 ∨ k = 6 by omega) with r | r | r | r | r | r | r
        · subst r
          refine fin ((I_ (s_md V (uZ V p 0 g))).toInt64) (ec.trans ?_) (er.trans ?_)
          · rw [if_pos (by decide), aIz, SB_md hK1.1.2.1 zb.1 zb.2.1]
          · rw [if_pos (by decide), aIg, y0, i_2, r_of2 hV hRB1 zb.1 zb.2.1, bd_some]
        · subst r
          refine fin ((I_ (s_lv V (uZ V p 0 g))).toInt64) (ec.trans ?_) (er.trans ?_)
          · rw [if_neg (by decide), if_pos (by decide), aIz, SB_lv hK1.1.2.1 zb.1 zb.2.1]
          · rw [if_neg (by decide), if_pos (by decide), aIg, y0, i_3, r_of3 hV hRB1 zb.1 zb.2.1, bd_some]
        · subst r
          refine fin ((I_ (mtc V (uZ V p 0 g))).toInt64) (ec.trans ?_) (er.trans ?_)
          · rw [if_neg (by decide), if_neg (by decide), if_pos (by decide), c_mtc hV hK1.1 zb.1 zb.2.1, bd_some]
          · rw [if_neg (by decide), if_neg (by decide), if_pos (by decide), aIg, y0, r_mtc hV hRB1 zb.1 zb.2.1, bd_some]
        · subst r
          refine fin ((I_ (uM V p 0 g)).toInt64) (ec.trans ?_) (er.trans ?_)
          · rw [if_neg (by decide), if_neg (by decide), if_neg (by decide), if_pos (by decide), aIg, x2]
          · rw [if_neg (by decide), if_neg (by decide), if_neg (by decide), if_pos (by decide), aIg, y1]
        · subst r
          refine fin (J_ (uA V p 0 g)) (ec.trans ?_) (er.trans ?_)
          · rw [if_neg (by decide), if_neg (by decide), if_neg (by decide), if_neg (by decide), if_pos (by decide), aLg, x3]
          · rw [if_neg (by decide), if_neg (by decide), if_neg (by decide), if_neg (by decide), if_pos (by decide), aLg, y2]
        · subst r
          refine fin (J_ (uW V p 0 g)) (ec.trans ?_) (er.trans ?_)
          · rw [if_neg (by decide), if_neg (by decide), if_neg (by decide), if_neg (by decide), if_neg (by decide), if_pos (by decide), aLg, x4]
          · rw [if_neg (by decide), if_neg (by decide), if_neg (by decide), if_neg (by decide), if_neg (by decide), if_pos (by decide), aLg, y3]
        · subst r
          refine fin (J_ (uD V p 0 0 g)) (ec.trans ?_) (er.trans ?_)
          · rw [if_neg (by decide), if_neg (by decide), if_neg (by decide), if_neg (by decide), if_neg (by decide), if_neg (by decide), if_pos (by decide), i_0, c_dAt hV c3 (by omega) (by omega) hg.1 hg.2, bd_some]
          · rw [if_neg (by decide), if_neg (by decide), if_neg (by decide), if_neg (by decide), if_neg (by decide), if_neg (by decide), aLg, y4]
      · have nn : ∀ j : Int, 0 ≤ j → j ≤ 6 → ¬ I_ k = I_ j := fun j a c => by rw [I_eq (by omega) (by omega) (by omega) (by omega)]; omega
        refine bad ?_ ?_
        · rw [ec, i_0, i_1, i_2, i_3, i_4, i_5, i_6, if_neg (nn 0 (by omega) (by omega)), if_neg (nn 1 (by omega) (by omega)), if_neg (nn 2 (by omega) (by omega)), if_neg (nn 3 (by omega) (by omega)), if_neg (nn 4 (by omega) (by omega)), if_neg (nn 5 (by omega) (by omega)), if_neg (nn 6 (by omega) (by omega))]
        · have e65 : fX11_group N (I_ p) (I_ g) (I_ k) ν = fX11_group_65 N (I_ g) (I_ k) (I_ 2) ν1 := by
            simp (disch := omega) only [fX11_group, fX11_group_14, Int.reduceEq, Int.reduceNe, Int.reduceLT, Int.reduceLE, Int.reduceAdd, Int.reduceSub, Int.reduceMul, Int.reduceNeg, Int.zero_add, Int.add_zero, nm_eq, bd_some, bv_some, aI_ok, aL_ok, aS_ok, dv_ok, dw_ok, I_add, I_sub, I_mul, I_neg, I_lt, I_le, I_eq, I_nat, J_add, J_sub, J_mul, J_neg, J_lt, J_le, J_eq, I_l, J_i, I_div, J_div, b2_0, b2_1, b2_nar, nar_0, nar_1, zr_0, zr_1, zr_b2, cmp_eq, cmp_le, cmp_lt, cmp_gt, cmp_ge, mx_I, mn_I, mx_L, mn_L, az_I, if_true, if_false, not_true_eq_false, not_false_eq_true, Bool.false_eq_true, i_0, i_1, i_2, i_3, i_4, i_5, i_6, i_7, i_8, i_9, i_10, i_11, i_12, i_16, i_18, i_20, i_24, i_28, i_29, i_30, i_31, i_32, i_33, i_34, i_35, i_37, i_40, i_41, i_42, i_43, i_45, i_46, i_47, i_48, i_57, i_59, i_63, i_64, i_96, i_97, i_98, i_99, i_100, i_101, i_102, i_103, i_104, i_105, i_106, i_107, i_108, i_109, i_110, i_111, i_112, i_113, i_122, i_200, i_255, i_256, i_257, i_258, i_355, i_400, i_999, i_1000, i_1200, i_5680, i_9999, i_10000, i_99999, j_0, j_1, j_2, j_3, j_4, j_5, j_6, j_9, j_10, j_11, j_98, j_99, j_100, j_999, j_1000, j_9999, j_10000, j_99999, j_1000000, r_isFirm hV hR.1, b2_t hp, at_S, d4, d3, r_isIn, eb, b2_t hg, b2_f hk]
          rw [e65]
          unfold fX11_group_65
          rw [nm_eq, nm_eq, at_S, if_neg (show ¬ I_ 2 ≤ (0 : Int32) by decide)]
          rfl
    · refine bad ?_ ?_
      · have hc5 : μ1.1 4 5 = I_ (uN V p 0) := c3.1
        unfold fX10_group
        rw [c_needF_y hV hK hp.1 hp.2, bx_l, hgB, i_0, c1, bv_some]
        by_cases gn : g < 0
        · rw [if_pos (by rw [I_lt (by omega) (by omega) (by omega) (by omega)]; exact gn)]
        · rw [if_neg (by rw [I_lt (by omega) (by omega) (by omega) (by omega)]; exact gn), nm_eq, hc5, if_neg (by rw [I_lt (by omega) (by omega) (by omega) (by omega)]; omega)]
      · have e65 : fX11_group N (I_ p) (I_ g) (I_ k) ν = fX11_group_65 N (I_ g) (I_ k) (I_ 2) ν1 := by
          simp (disch := omega) only [fX11_group, fX11_group_14, Int.reduceEq, Int.reduceNe, Int.reduceLT, Int.reduceLE, Int.reduceAdd, Int.reduceSub, Int.reduceMul, Int.reduceNeg, Int.zero_add, Int.add_zero, nm_eq, bd_some, bv_some, aI_ok, aL_ok, aS_ok, dv_ok, dw_ok, I_add, I_sub, I_mul, I_neg, I_lt, I_le, I_eq, I_nat, J_add, J_sub, J_mul, J_neg, J_lt, J_le, J_eq, I_l, J_i, I_div, J_div, b2_0, b2_1, b2_nar, nar_0, nar_1, zr_0, zr_1, zr_b2, cmp_eq, cmp_le, cmp_lt, cmp_gt, cmp_ge, mx_I, mn_I, mx_L, mn_L, az_I, if_true, if_false, not_true_eq_false, not_false_eq_true, Bool.false_eq_true, i_0, i_1, i_2, i_3, i_4, i_5, i_6, i_7, i_8, i_9, i_10, i_11, i_12, i_16, i_18, i_20, i_24, i_28, i_29, i_30, i_31, i_32, i_33, i_34, i_35, i_37, i_40, i_41, i_42, i_43, i_45, i_46, i_47, i_48, i_57, i_59, i_63, i_64, i_96, i_97, i_98, i_99, i_100, i_101, i_102, i_103, i_104, i_105, i_106, i_107, i_108, i_109, i_110, i_111, i_112, i_113, i_122, i_200, i_255, i_256, i_257, i_258, i_355, i_400, i_999, i_1000, i_1200, i_5680, i_9999, i_10000, i_99999, j_0, j_1, j_2, j_3, j_4, j_5, j_6, j_9, j_10, j_11, j_98, j_99, j_100, j_999, j_1000, j_9999, j_10000, j_99999, j_1000000, r_isFirm hV hR.1, b2_t hp, at_S, d4, d3, r_isIn, eb, b2_f hg]
        rw [e65]
        unfold fX11_group_65
        rw [nm_eq, nm_eq, at_S, if_neg (show ¬ I_ 2 ≤ (0 : Int32) by decide)]
        rfl
  · refine ⟨_, ?_, q_x hQ (I_ 1)⟩
    have hc : fX10_group N (I_ p) (I_ g) (I_ k) μ = some (.inr 0, μ) := by
      unfold fX10_group
      rw [c_needF_n hV hK p0 p1 hp, bx_r]
    have hr : fX11_group N (I_ p) (I_ g) (I_ k) ν = some (J_ 0, stI ν 0 0 (I_ 1)) := by
      have e14 : fX11_group N (I_ p) (I_ g) (I_ k) ν = fX11_group_14 N (I_ p) (I_ g) (I_ k) (I_ 1) ν := by
        unfold fX11_group
        rw [r_isFirm hV hR.1 p0 p1, bd_some, b2_f hp, i_0, if_pos rfl]
        rfl
      rw [e14]
      unfold fX11_group_14
      rw [nm_eq, nm_eq, at_S, if_neg (show ¬ I_ 1 ≤ (0 : Int32) by decide)]
      rfl
    simp (disch := omega) only [lawC22, fL_group, fX11_thrown, Int.reduceEq, Int.reduceNe, Int.reduceLT, Int.reduceLE, Int.reduceAdd, Int.reduceSub, Int.reduceMul, Int.reduceNeg, Int.zero_add, Int.add_zero, nm_eq, bd_some, bv_some, aI_ok, aL_ok, aS_ok, dv_ok, dw_ok, I_add, I_sub, I_mul, I_neg, I_lt, I_le, I_eq, I_nat, J_add, J_sub, J_mul, J_neg, J_lt, J_le, J_eq, I_l, J_i, I_div, J_div, b2_0, b2_1, b2_nar, nar_0, nar_1, zr_0, zr_1, zr_b2, cmp_eq, cmp_le, cmp_lt, cmp_gt, cmp_ge, mx_I, mn_I, mx_L, mn_L, az_I, if_true, if_false, not_true_eq_false, not_false_eq_true, Bool.false_eq_true, i_0, i_1, i_2, i_3, i_4, i_5, i_6, i_7, i_8, i_9, i_10, i_11, i_12, i_16, i_18, i_20, i_24, i_28, i_29, i_30, i_31, i_32, i_33, i_34, i_35, i_37, i_40, i_41, i_42, i_43, i_45, i_46, i_47, i_48, i_57, i_59, i_63, i_64, i_96, i_97, i_98, i_99, i_100, i_101, i_102, i_103, i_104, i_105, i_106, i_107, i_108, i_109, i_110, i_111, i_112, i_113, i_122, i_200, i_255, i_256, i_257, i_258, i_355, i_400, i_999, i_1000, i_1200, i_5680, i_9999, i_10000, i_99999, j_0, j_1, j_2, j_3, j_4, j_5, j_6, j_9, j_10, j_11, j_98, j_99, j_100, j_999, j_1000, j_9999, j_10000, j_99999, j_1000000, e, eg, ek, hc, hr, bh_r, at_S]
end
