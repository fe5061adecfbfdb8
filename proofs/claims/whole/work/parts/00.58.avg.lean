/-! AVERAGE, WORTH, match, DIFFERENCE. -/
section
variable {N : Nat} {b : Nat} {V : Vw} {f : Int}
theorem val_in (hV : vB V) {z : Int} (z0 : 0 ≤ z) (z1 : z < sN V) : 0 ≤ 1000 * s_nt V z * s_mn V z ∧ 1000 * s_nt V z * s_mn V z ≤ 99999000 * s_mn V z ∧ 1000 * s_nt V z * s_mn V z ≤ 99899001000 := by
  have hv := hV.2.1 z z0 z1
  unfold vS at hv
  have h1 := mul_in (a := 1000 * s_nt V z) (A := 99999000) (b := s_mn V z) (B := 999) (by omega) (by omega) (by omega) (by omega)
  have h2 := Int.mul_le_mul_of_nonneg_right (show 1000 * s_nt V z ≤ 99999000 by omega) (show 0 ≤ s_mn V z by omega)
  omega
/-- a value over part of the sales is at most 99999000 times their MANY -/
theorem sg_val (hV : vB V) {g h : Int → Int} {d : Nat} (hd : (d : Int) ≤ sN V) (hg : ∀ z, 0 ≤ z → z < sN V → (g z = 0 ∧ h z = 0) ∨ (g z = 1000 * s_nt V z * s_mn V z ∧ h z = s_mn V z)) : 0 ≤ sg d 0 g ∧ sg d 0 g ≤ 99999000 * sg d 0 h := by
  rw [← sg_mul]
  refine ⟨?_, sg_le d 0 (fun z z0 z1 => ?_)⟩
  · have := sg_le (g := fun _ => 0) (h := g) d 0 (fun z z0 z1 => by
      have hv := val_in hV (z := z) (by omega) (by omega)
      rcases hg z (by omega) (by omega) with q | q <;> omega)
    have e : ∀ (d : Nat) (i : Int), sg d i (fun _ => 0) = 0 := by
      intro d
      induction d with
      | zero => intro i; rfl
      | succ d ih => intro i; show 0 + sg d (i + 1) _ = 0; rw [ih]; rfl
    rw [e] at this
    exact this
  · have hv := val_in hV (z := z) (by omega) (by omega)
    rcases hg z (by omega) (by omega) with q | q <;> omega
theorem x_iv_in (hV : vB V) (f m l : Int) : 0 ≤ x_iv V f m l ∧ x_iv V f m l ≤ 99999000 * x_im V f m l := sg_val hV (zN_le hV) (fun z _ _ => by
  unfold g_iv g_im; split
  · exact Or.inr ⟨rfl, rfl⟩
  · exact Or.inl ⟨rfl, rfl⟩)
theorem x_mv_in (hV : vB V) (f m l t : Int) : 0 ≤ x_mv V f m l t ∧ x_mv V f m l t ≤ 99999000 * x_mm V f m l t := sg_val hV (zN_le hV) (fun z _ _ => by
  unfold g_mv g_mm; split
  · exact Or.inr ⟨rfl, rfl⟩
  · exact Or.inl ⟨rfl, rfl⟩)
theorem dv_in {x y : Int} (x0 : 0 ≤ x) (hy : 0 < y) (h : x ≤ 99999000 * y) : 0 ≤ x / y ∧ x / y ≤ 99999000 := ⟨Int.ediv_nonneg x0 (by omega), Int.ediv_le_of_le_mul hy h⟩
theorem x_av_in (hV : vB V) (f m l t : Int) : 0 ≤ x_av V f m l t ∧ x_av V f m l t ≤ 99999000 := by
  have a := x_iv_in hV f m l
  have c := x_mv_in hV f m l t
  unfold x_av
  split
  · rename_i h; exact dv_in c.1 h.2 c.2
  · split
    · rename_i h; exact dv_in a.1 h a.2
    · omega
theorem c_avg_l (hV : vB V) {μ : Mem} (hB : CB b V μ) (hT : ST b V f μ) {m l t : Int} (m0 : 0 ≤ m) (m1 : m < 6) (l0 : 0 ≤ l) (l1 : l ≤ 3) (t0 : 0 ≤ t) (t1 : t ≤ 11) (x : Int32) (y : Int64) : ∀ (d n : Nat) (i a v : Int), d < n → 0 ≤ i → i + d = sN V → fX8_averageAt_42 N n b (I_ m) (I_ l) (I_ t) x y (I_ a) (J_ v) (I_ i) μ = fX8_averageAt_134 N x y (I_ (a + sg d i (g_mm V f m l t))) (J_ (v + sg d i (g_mv V f m l t))) μ := by
  have hn := hV.1
  unfold vN at hn
  have ht : ¬ t = -1 := by omega
  have hS := hB.2.1
  intro d
  induction d with
  | zero =>
    intro n i a v h1 h2 h3
    obtain ⟨n, rfl⟩ : ∃ m, n = m + 1 := ⟨n - 1, by omega⟩
    have hle : sN V ≤ i := by omega
    simp (disch := omega) only [fX8_averageAt_42, Int.reduceEq, Int.reduceNe, Int.reduceLT, Int.reduceLE, Int.reduceAdd, Int.reduceSub, Int.reduceMul, Int.reduceNeg, Int.zero_add, Int.add_zero, nm_eq, bd_some, bv_some, aI_ok, aL_ok, aS_ok, dv_ok, dw_ok, I_add, I_sub, I_mul, I_neg, I_lt, I_le, I_eq, I_nat, J_add, J_sub, J_mul, J_neg, J_lt, J_le, J_eq, I_l, J_i, I_div, J_div, b2_0, b2_1, b2_nar, nar_0, nar_1, zr_0, zr_1, zr_b2, cmp_eq, cmp_le, cmp_lt, cmp_gt, cmp_ge, mx_I, mn_I, mx_L, mn_L, az_I, if_true, if_false, i_0, i_1, i_2, i_3, i_4, i_5, i_6, i_7, i_8, i_9, i_10, i_11, i_12, i_16, i_18, i_20, i_24, i_28, i_29, i_30, i_31, i_32, i_33, i_34, i_35, i_37, i_40, i_41, i_42, i_43, i_45, i_46, i_47, i_48, i_57, i_59, i_63, i_64, i_96, i_97, i_98, i_99, i_100, i_101, i_102, i_103, i_104, i_105, i_106, i_107, i_108, i_109, i_110, i_111, i_112, i_113, i_122, i_200, i_255, i_256, i_257, i_258, i_355, i_400, i_999, i_1000, i_1200, i_5680, i_9999, i_10000, i_99999, j_0, j_1, j_2, j_3, j_4, j_5, j_6, j_9, j_10, j_11, j_98, j_99, j_100, j_999, j_1000, j_9999, j_10000, j_99999, j_1000000, SB_n hB.2.1, ht, hle, sg]
  | succ d ih =>
    intro n i a v h1 h2 h3
    obtain ⟨n, rfl⟩ : ∃ m, n = m + 1 := ⟨n - 1, by omega⟩
    have hle : ¬ sN V ≤ i := by omega
    have hlt : i < sN V := by omega
    have hv := hV.2.1 i h2 hlt
    unfold vS at hv
    have r14 := hT.2.2.2.2.2 i h2 hlt
    have sk : ¬ (p_to V i ∧ s_fm V i = f ∧ s_md V i = m ∧ s_lv V i = l ∧ s_mo V i = t) → g_mm V f m l t i = 0 ∧ g_mv V f m l t i = 0 := fun h => by
      unfold g_mm g_mv; rw [if_neg h, if_neg h]; exact ⟨rfl, rfl⟩
    by_cases hp : p_to V i ∧ s_fm V i = f
    · by_cases hm : s_md V i = m
      · by_cases hl : s_lv V i = l
        · by_cases hmo : s_mo V i = t
          · have e1 : g_mm V f m l t i = s_mn V i := by unfold g_mm; rw [if_pos ⟨hp.1, hp.2, hm, hl, hmo⟩]
            have e2 : g_mv V f m l t i = 1000 * s_nt V i * s_mn V i := by unfold g_mv; rw [if_pos ⟨hp.1, hp.2, hm, hl, hmo⟩]
            simp (disch := omega) only [fX8_averageAt_42, Int.reduceEq, Int.reduceNe, Int.reduceLT, Int.reduceLE, Int.reduceAdd, Int.reduceSub, Int.reduceMul, Int.reduceNeg, Int.zero_add, Int.add_zero, nm_eq, bd_some, bv_some, aI_ok, aL_ok, aS_ok, dv_ok, dw_ok, I_add, I_sub, I_mul, I_neg, I_lt, I_le, I_eq, I_nat, J_add, J_sub, J_mul, J_neg, J_lt, J_le, J_eq, I_l, J_i, I_div, J_div, b2_0, b2_1, b2_nar, nar_0, nar_1, zr_0, zr_1, zr_b2, cmp_eq, cmp_le, cmp_lt, cmp_gt, cmp_ge, mx_I, mn_I, mx_L, mn_L, az_I, if_true, if_false, i_0, i_1, i_2, i_3, i_4, i_5, i_6, i_7, i_8, i_9, i_10, i_11, i_12, i_16, i_18, i_20, i_24, i_28, i_29, i_30, i_31, i_32, i_33, i_34, i_35, i_37, i_40, i_41, i_42, i_43, i_45, i_46, i_47, i_48, i_57, i_59, i_63, i_64, i_96, i_97, i_98, i_99, i_100, i_101, i_102, i_103, i_104, i_105, i_106, i_107, i_108, i_109, i_110, i_111, i_112, i_113, i_122, i_200, i_255, i_256, i_257, i_258, i_355, i_400, i_999, i_1000, i_1200, i_5680, i_9999, i_10000, i_99999, j_0, j_1, j_2, j_3, j_4, j_5, j_6, j_9, j_10, j_11, j_98, j_99, j_100, j_999, j_1000, j_9999, j_10000, j_99999, j_1000000, SB_n hS, SB_mk hS, SB_fm hS, SB_md hS, SB_lv hS, SB_mo hS, SB_mn hS, SB_pr hS, SB_of hS, SB_nt hS, SB_li hS, ht, hle, r14, b2_t hp, hm, hl, hmo, c_valueAt hV hS, ih, sg, e1, e2, Int.add_assoc]
          · obtain ⟨e1, e2⟩ := sk (fun q => hmo q.2.2.2.2)
            simp (disch := omega) only [fX8_averageAt_42, Int.reduceEq, Int.reduceNe, Int.reduceLT, Int.reduceLE, Int.reduceAdd, Int.reduceSub, Int.reduceMul, Int.reduceNeg, Int.zero_add, Int.add_zero, nm_eq, bd_some, bv_some, aI_ok, aL_ok, aS_ok, dv_ok, dw_ok, I_add, I_sub, I_mul, I_neg, I_lt, I_le, I_eq, I_nat, J_add, J_sub, J_mul, J_neg, J_lt, J_le, J_eq, I_l, J_i, I_div, J_div, b2_0, b2_1, b2_nar, nar_0, nar_1, zr_0, zr_1, zr_b2, cmp_eq, cmp_le, cmp_lt, cmp_gt, cmp_ge, mx_I, mn_I, mx_L, mn_L, az_I, if_true, if_false, i_0, i_1, i_2, i_3, i_4, i_5, i_6, i_7, i_8, i_9, i_10, i_11, i_12, i_16, i_18, i_20, i_24, i_28, i_29, i_30, i_31, i_32, i_33, i_34, i_35, i_37, i_40, i_41, i_42, i_43, i_45, i_46, i_47, i_48, i_57, i_59, i_63, i_64, i_96, i_97, i_98, i_99, i_100, i_101, i_102, i_103, i_104, i_105, i_106, i_107, i_108, i_109, i_110, i_111, i_112, i_113, i_122, i_200, i_255, i_256, i_257, i_258, i_355, i_400, i_999, i_1000, i_1200, i_5680, i_9999, i_10000, i_99999, j_0, j_1, j_2, j_3, j_4, j_5, j_6, j_9, j_10, j_11, j_98, j_99, j_100, j_999, j_1000, j_9999, j_10000, j_99999, j_1000000, SB_n hS, SB_mk hS, SB_fm hS, SB_md hS, SB_lv hS, SB_mo hS, SB_mn hS, SB_pr hS, SB_of hS, SB_nt hS, SB_li hS, ht, hle, r14, b2_t hp, hm, hl, hmo, ih, sg, e1, e2]
        · obtain ⟨e1, e2⟩ := sk (fun q => hl q.2.2.2.1)
          simp (disch := omega) only [fX8_averageAt_42, Int.reduceEq, Int.reduceNe, Int.reduceLT, Int.reduceLE, Int.reduceAdd, Int.reduceSub, Int.reduceMul, Int.reduceNeg, Int.zero_add, Int.add_zero, nm_eq, bd_some, bv_some, aI_ok, aL_ok, aS_ok, dv_ok, dw_ok, I_add, I_sub, I_mul, I_neg, I_lt, I_le, I_eq, I_nat, J_add, J_sub, J_mul, J_neg, J_lt, J_le, J_eq, I_l, J_i, I_div, J_div, b2_0, b2_1, b2_nar, nar_0, nar_1, zr_0, zr_1, zr_b2, cmp_eq, cmp_le, cmp_lt, cmp_gt, cmp_ge, mx_I, mn_I, mx_L, mn_L, az_I, if_true, if_false, i_0, i_1, i_2, i_3, i_4, i_5, i_6, i_7, i_8, i_9, i_10, i_11, i_12, i_16, i_18, i_20, i_24, i_28, i_29, i_30, i_31, i_32, i_33, i_34, i_35, i_37, i_40, i_41, i_42, i_43, i_45, i_46, i_47, i_48, i_57, i_59, i_63, i_64, i_96, i_97, i_98, i_99, i_100, i_101, i_102, i_103, i_104, i_105, i_106, i_107, i_108, i_109, i_110, i_111, i_112, i_113, i_122, i_200, i_255, i_256, i_257, i_258, i_355, i_400, i_999, i_1000, i_1200, i_5680, i_9999, i_10000, i_99999, j_0, j_1, j_2, j_3, j_4, j_5, j_6, j_9, j_10, j_11, j_98, j_99, j_100, j_999, j_1000, j_9999, j_10000, j_99999, j_1000000, SB_n hS, SB_mk hS, SB_fm hS, SB_md hS, SB_lv hS, SB_mo hS, SB_mn hS, SB_pr hS, SB_of hS, SB_nt hS, SB_li hS, ht, hle, r14, b2_t hp, hm, hl, ih, sg, e1, e2]
      · obtain ⟨e1, e2⟩ := sk (fun q => hm q.2.2.1)
        simp (disch := omega) only [fX8_averageAt_42, Int.reduceEq, Int.reduceNe, Int.reduceLT, Int.reduceLE, Int.reduceAdd, Int.reduceSub, Int.reduceMul, Int.reduceNeg, Int.zero_add, Int.add_zero, nm_eq, bd_some, bv_some, aI_ok, aL_ok, aS_ok, dv_ok, dw_ok, I_add, I_sub, I_mul, I_neg, I_lt, I_le, I_eq, I_nat, J_add, J_sub, J_mul, J_neg, J_lt, J_le, J_eq, I_l, J_i, I_div, J_div, b2_0, b2_1, b2_nar, nar_0, nar_1, zr_0, zr_1, zr_b2, cmp_eq, cmp_le, cmp_lt, cmp_gt, cmp_ge, mx_I, mn_I, mx_L, mn_L, az_I, if_true, if_false, i_0, i_1, i_2, i_3, i_4, i_5, i_6, i_7, i_8, i_9, i_10, i_11, i_12, i_16, i_18, i_20, i_24, i_28, i_29, i_30, i_31, i_32, i_33, i_34, i_35, i_37, i_40, i_41, i_42, i_43, i_45, i_46, i_47, i_48, i_57, i_59, i_63, i_64, i_96, i_97, i_98, i_99, i_100, i_101, i_102, i_103, i_104, i_105, i_106, i_107, i_108, i_109, i_110, i_111, i_112, i_113, i_122, i_200, i_255, i_256, i_257, i_258, i_355, i_400, i_999, i_1000, i_1200, i_5680, i_9999, i_10000, i_99999, j_0, j_1, j_2, j_3, j_4, j_5, j_6, j_9, j_10, j_11, j_98, j_99, j_100, j_999, j_1000, j_9999, j_10000, j_99999, j_1000000, SB_n hS, SB_mk hS, SB_fm hS, SB_md hS, SB_lv hS, SB_mo hS, SB_mn hS, SB_pr hS, SB_of hS, SB_nt hS, SB_li hS, ht, hle, r14, b2_t hp, hm, ih, sg, e1, e2]
    · obtain ⟨e1, e2⟩ := sk (fun q => hp ⟨q.1, q.2.1⟩)
      simp (disch := omega) only [fX8_averageAt_42, Int.reduceEq, Int.reduceNe, Int.reduceLT, Int.reduceLE, Int.reduceAdd, Int.reduceSub, Int.reduceMul, Int.reduceNeg, Int.zero_add, Int.add_zero, nm_eq, bd_some, bv_some, aI_ok, aL_ok, aS_ok, dv_ok, dw_ok, I_add, I_sub, I_mul, I_neg, I_lt, I_le, I_eq, I_nat, J_add, J_sub, J_mul, J_neg, J_lt, J_le, J_eq, I_l, J_i, I_div, J_div, b2_0, b2_1, b2_nar, nar_0, nar_1, zr_0, zr_1, zr_b2, cmp_eq, cmp_le, cmp_lt, cmp_gt, cmp_ge, mx_I, mn_I, mx_L, mn_L, az_I, if_true, if_false, i_0, i_1, i_2, i_3, i_4, i_5, i_6, i_7, i_8, i_9, i_10, i_11, i_12, i_16, i_18, i_20, i_24, i_28, i_29, i_30, i_31, i_32, i_33, i_34, i_35, i_37, i_40, i_41, i_42, i_43, i_45, i_46, i_47, i_48, i_57, i_59, i_63, i_64, i_96, i_97, i_98, i_99, i_100, i_101, i_102, i_103, i_104, i_105, i_106, i_107, i_108, i_109, i_110, i_111, i_112, i_113, i_122, i_200, i_255, i_256, i_257, i_258, i_355, i_400, i_999, i_1000, i_1200, i_5680, i_9999, i_10000, i_99999, j_0, j_1, j_2, j_3, j_4, j_5, j_6, j_9, j_10, j_11, j_98, j_99, j_100, j_999, j_1000, j_9999, j_10000, j_99999, j_1000000, SB_n hS, SB_mk hS, SB_fm hS, SB_md hS, SB_lv hS, SB_mo hS, SB_mn hS, SB_pr hS, SB_of hS, SB_nt hS, SB_li hS, ht, hle, r14, b2_f hp, ih, sg, e1, e2]
theorem c_avg (hV : vB V) (hN : 100 ≤ N) {μ : Mem} (hB : CB b V μ) (hT : ST b V f μ) {m l t : Int} (m0 : 0 ≤ m) (m1 : m < 6) (l0 : 0 ≤ l) (l1 : l ≤ 3) (t0 : -1 ≤ t) (t1 : t ≤ 11) : fX8_averageAt N (I_ m) (I_ l) (I_ t) μ = some (J_ (x_av V f m l t), μ) := by
  have hn := hV.1
  unfold vN at hn
  have a := x_iv_in hV f m l
  have a' := x_im_in hV f m l
  have c := x_mv_in hV f m l t
  have c' := x_mm_in hV f m l t
  have r16 := (hT.2.2.2.2.1 m l m0 m1 l0 (by omega)).1
  have r17 := (hT.2.2.2.2.1 m l m0 m1 l0 (by omega)).2
  by_cases ht : t = -1
  · subst ht
    obtain ⟨N, rfl⟩ : ∃ m, N = m + 1 := ⟨N - 1, by omega⟩
    unfold x_av
    by_cases h0 : 0 < x_im V f m l
    · have h0' : ¬ x_im V f m l ≤ 0 := by omega
      simp (disch := omega) only [fX8_averageAt, fX8_averageAt_42, fX8_averageAt_134, Int.reduceEq, Int.reduceNe, Int.reduceLT, Int.reduceLE, Int.reduceAdd, Int.reduceSub, Int.reduceMul, Int.reduceNeg, Int.zero_add, Int.add_zero, nm_eq, bd_some, bv_some, aI_ok, aL_ok, aS_ok, dv_ok, dw_ok, I_add, I_sub, I_mul, I_neg, I_lt, I_le, I_eq, I_nat, J_add, J_sub, J_mul, J_neg, J_lt, J_le, J_eq, I_l, J_i, I_div, J_div, b2_0, b2_1, b2_nar, nar_0, nar_1, zr_0, zr_1, zr_b2, cmp_eq, cmp_le, cmp_lt, cmp_gt, cmp_ge, mx_I, mn_I, mx_L, mn_L, az_I, if_true, if_false, i_0, i_1, i_2, i_3, i_4, i_5, i_6, i_7, i_8, i_9, i_10, i_11, i_12, i_16, i_18, i_20, i_24, i_28, i_29, i_30, i_31, i_32, i_33, i_34, i_35, i_37, i_40, i_41, i_42, i_43, i_45, i_46, i_47, i_48, i_57, i_59, i_63, i_64, i_96, i_97, i_98, i_99, i_100, i_101, i_102, i_103, i_104, i_105, i_106, i_107, i_108, i_109, i_110, i_111, i_112, i_113, i_122, i_200, i_255, i_256, i_257, i_258, i_355, i_400, i_999, i_1000, i_1200, i_5680, i_9999, i_10000, i_99999, j_0, j_1, j_2, j_3, j_4, j_5, j_6, j_9, j_10, j_11, j_98, j_99, j_100, j_999, j_1000, j_9999, j_10000, j_99999, j_1000000, r16, r17, hT.1.1, gB_ok hB.1, h0, h0', ne_eq, not_true_eq_false, false_and]
    · have h0' : x_im V f m l ≤ 0 := by omega
      simp (disch := omega) only [fX8_averageAt, fX8_averageAt_42, fX8_averageAt_134, Int.reduceEq, Int.reduceNe, Int.reduceLT, Int.reduceLE, Int.reduceAdd, Int.reduceSub, Int.reduceMul, Int.reduceNeg, Int.zero_add, Int.add_zero, nm_eq, bd_some, bv_some, aI_ok, aL_ok, aS_ok, dv_ok, dw_ok, I_add, I_sub, I_mul, I_neg, I_lt, I_le, I_eq, I_nat, J_add, J_sub, J_mul, J_neg, J_lt, J_le, J_eq, I_l, J_i, I_div, J_div, b2_0, b2_1, b2_nar, nar_0, nar_1, zr_0, zr_1, zr_b2, cmp_eq, cmp_le, cmp_lt, cmp_gt, cmp_ge, mx_I, mn_I, mx_L, mn_L, az_I, if_true, if_false, i_0, i_1, i_2, i_3, i_4, i_5, i_6, i_7, i_8, i_9, i_10, i_11, i_12, i_16, i_18, i_20, i_24, i_28, i_29, i_30, i_31, i_32, i_33, i_34, i_35, i_37, i_40, i_41, i_42, i_43, i_45, i_46, i_47, i_48, i_57, i_59, i_63, i_64, i_96, i_97, i_98, i_99, i_100, i_101, i_102, i_103, i_104, i_105, i_106, i_107, i_108, i_109, i_110, i_111, i_112, i_113, i_122, i_200, i_255, i_256, i_257, i_258, i_355, i_400, i_999, i_1000, i_1200, i_5680, i_9999, i_10000, i_99999, j_0, j_1, j_2, j_3, j_4, j_5, j_6, j_9, j_10, j_11, j_98, j_99, j_100, j_999, j_1000, j_9999, j_10000, j_99999, j_1000000, r16, r17, hT.1.1, gB_ok hB.1, h0, h0', ne_eq, not_true_eq_false, false_and]
  · have := c_avg_l (N := N) hV hB hT m0 m1 l0 l1 (t := t) (by omega) t1 (I_ (x_im V f m l)) (J_ (x_iv V f m l)) (sN V).toNat N 0 0 0 (by omega) (by omega) (by omega)
    rw [Int.zero_add, Int.zero_add] at this
    have e1 : sg (sN V).toNat 0 (g_mm V f m l t) = x_mm V f m l t := rfl
    have e2 : sg (sN V).toNat 0 (g_mv V f m l t) = x_mv V f m l t := rfl
    rw [e1, e2] at this
    unfold x_av
    have hq : t ≠ -1 := ht
    by_cases h1 : 0 < x_mm V f m l t
    · have h1' : ¬ x_mm V f m l t ≤ 0 := by omega
      rw [if_pos ⟨hq, h1⟩]
      simp (disch := omega) only [fX8_averageAt, Int.reduceEq, Int.reduceNe, Int.reduceLT, Int.reduceLE, Int.reduceAdd, Int.reduceSub, Int.reduceMul, Int.reduceNeg, Int.zero_add, Int.add_zero, nm_eq, bd_some, bv_some, aI_ok, aL_ok, aS_ok, dv_ok, dw_ok, I_add, I_sub, I_mul, I_neg, I_lt, I_le, I_eq, I_nat, J_add, J_sub, J_mul, J_neg, J_lt, J_le, J_eq, I_l, J_i, I_div, J_div, b2_0, b2_1, b2_nar, nar_0, nar_1, zr_0, zr_1, zr_b2, cmp_eq, cmp_le, cmp_lt, cmp_gt, cmp_ge, mx_I, mn_I, mx_L, mn_L, az_I, if_true, if_false, i_0, i_1, i_2, i_3, i_4, i_5, i_6, i_7, i_8, i_9, i_10, i_11, i_12, i_16, i_18, i_20, i_24, i_28, i_29, i_30, i_31, i_32, i_33, i_34, i_35, i_37, i_40, i_41, i_42, i_43, i_45, i_46, i_47, i_48, i_57, i_59, i_63, i_64, i_96, i_97, i_98, i_99, i_100, i_101, i_102, i_103, i_104, i_105, i_106, i_107, i_108, i_109, i_110, i_111, i_112, i_113, i_122, i_200, i_255, i_256, i_257, i_258, i_355, i_400, i_999, i_1000, i_1200, i_5680, i_9999, i_10000, i_99999, j_0, j_1, j_2, j_3, j_4, j_5, j_6, j_9, j_10, j_11, j_98, j_99, j_100, j_999, j_1000, j_9999, j_10000, j_99999, j_1000000, r16, r17, hT.1.1, gB_ok hB.1, this, fX8_averageAt_134, h1']
    · have h1' : x_mm V f m l t ≤ 0 := by omega
      rw [if_neg (fun q => h1 q.2)]
      by_cases h0 : 0 < x_im V f m l
      · have h0' : ¬ x_im V f m l ≤ 0 := by omega
        rw [if_pos h0]
        simp (disch := omega) only [fX8_averageAt, Int.reduceEq, Int.reduceNe, Int.reduceLT, Int.reduceLE, Int.reduceAdd, Int.reduceSub, Int.reduceMul, Int.reduceNeg, Int.zero_add, Int.add_zero, nm_eq, bd_some, bv_some, aI_ok, aL_ok, aS_ok, dv_ok, dw_ok, I_add, I_sub, I_mul, I_neg, I_lt, I_le, I_eq, I_nat, J_add, J_sub, J_mul, J_neg, J_lt, J_le, J_eq, I_l, J_i, I_div, J_div, b2_0, b2_1, b2_nar, nar_0, nar_1, zr_0, zr_1, zr_b2, cmp_eq, cmp_le, cmp_lt, cmp_gt, cmp_ge, mx_I, mn_I, mx_L, mn_L, az_I, if_true, if_false, i_0, i_1, i_2, i_3, i_4, i_5, i_6, i_7, i_8, i_9, i_10, i_11, i_12, i_16, i_18, i_20, i_24, i_28, i_29, i_30, i_31, i_32, i_33, i_34, i_35, i_37, i_40, i_41, i_42, i_43, i_45, i_46, i_47, i_48, i_57, i_59, i_63, i_64, i_96, i_97, i_98, i_99, i_100, i_101, i_102, i_103, i_104, i_105, i_106, i_107, i_108, i_109, i_110, i_111, i_112, i_113, i_122, i_200, i_255, i_256, i_257, i_258, i_355, i_400, i_999, i_1000, i_1200, i_5680, i_9999, i_10000, i_99999, j_0, j_1, j_2, j_3, j_4, j_5, j_6, j_9, j_10, j_11, j_98, j_99, j_100, j_999, j_1000, j_9999, j_10000, j_99999, j_1000000, r16, r17, hT.1.1, gB_ok hB.1, this, fX8_averageAt_134, h1', h0']
      · have h0' : x_im V f m l ≤ 0 := by omega
        rw [if_neg h0]
        simp (disch := omega) only [fX8_averageAt, Int.reduceEq, Int.reduceNe, Int.reduceLT, Int.reduceLE, Int.reduceAdd, Int.reduceSub, Int.reduceMul, Int.reduceNeg, Int.zero_add, Int.add_zero, nm_eq, bd_some, bv_some, aI_ok, aL_ok, aS_ok, dv_ok, dw_ok, I_add, I_sub, I_mul, I_neg, I_lt, I_le, I_eq, I_nat, J_add, J_sub, J_mul, J_neg, J_lt, J_le, J_eq, I_l, J_i, I_div, J_div, b2_0, b2_1, b2_nar, nar_0, nar_1, zr_0, zr_1, zr_b2, cmp_eq, cmp_le, cmp_lt, cmp_gt, cmp_ge, mx_I, mn_I, mx_L, mn_L, az_I, if_true, if_false, i_0, i_1, i_2, i_3, i_4, i_5, i_6, i_7, i_8, i_9, i_10, i_11, i_12, i_16, i_18, i_20, i_24, i_28, i_29, i_30, i_31, i_32, i_33, i_34, i_35, i_37, i_40, i_41, i_42, i_43, i_45, i_46, i_47, i_48, i_57, i_59, i_63, i_64, i_96, i_97, i_98, i_99, i_100, i_101, i_102, i_103, i_104, i_105, i_106, i_107, i_108, i_109, i_110, i_111, i_112, i_113, i_122, i_200, i_255, i_256, i_257, i_258, i_355, i_400, i_999, i_1000, i_1200, i_5680, i_9999, i_10000, i_99999, j_0, j_1, j_2, j_3, j_4, j_5, j_6, j_9, j_10, j_11, j_98, j_99, j_100, j_999, j_1000, j_9999, j_10000, j_99999, j_1000000, r16, r17, hT.1.1, gB_ok hB.1, this, fX8_averageAt_134, h1', h0']
theorem x_wo_in (hV : vB V) {f m l t : Int} (f0 : 0 ≤ f) (f1 : f < 4) (m0 : 0 ≤ m) (m1 : m < mN V) (l0 : 0 ≤ l) (l1 : l ≤ 3) : 0 ≤ x_wo V f m l t ∧ x_wo V f m l t ≤ 200000000 := by
  have hn := hV.1
  unfold vN at hn
  have hc := c_of_in hV (f := f) f0 f1 m0 m1
  unfold x_wo
  split
  · have h1 := mul_in (a := c_of V f m) (A := 9999) (b := s_se V 4) (B := 99) (by omega) (by omega) (by omega) (by omega)
    omega
  · rename_i hm
    rcases x_md_in hV (f := f) m0 m1 with h | ⟨h0, h1, h2⟩
    · exact absurd h hm
    · have hc2 := c_of_in hV (f := f) f0 f1 h0 h1
      have hl := x_nl_in V f (x_md V f m) l
      have hl2 := x_nl_pos hV l h2
      have ha := x_av_in hV f (x_md V f m) (x_ll V f m l) t
      have e : x_ll V f m l = x_nl V f (x_md V f m) l := by unfold x_ll; rw [if_neg hm]
      have hp := mul_ab (a := s_se V 5) (A := 99) (b := l - x_ll V f m l) (B := 3) (by omega) (by omega) (by omega) (by omega)
      omega
theorem c_wo (hV : vB V) (hN : 100 ≤ N) (f0 : 0 ≤ f) (f1 : f < 4) {μ : Mem} (hB : CB b V μ) (hT : ST b V f μ) {m l t : Int} (m0 : 0 ≤ m) (m1 : m < mN V) (l0 : 0 ≤ l) (l1 : l ≤ 3) (t0 : -1 ≤ t) (t1 : t ≤ 11) : fX8_worthAt N (I_ m) (I_ l) (I_ t) μ = some (J_ (x_wo V f m l t), μ) := by
  have hn := hV.1
  unfold vN at hn
  have hc := c_of_in hV (f := f) f0 f1 m0 m1
  unfold x_wo
  by_cases hm : x_md V f m = -1
  · have h1 := mul_in (a := c_of V f m) (A := 9999) (b := s_se V 4) (B := 99) (by omega) (by omega) (by omega) (by omega)
    have cm := c_mf (N := N) hV hN f0 f1 hB hT m0 m1
    rw [hm] at cm
    rw [if_pos hm]
    simp (disch := omega) only [fX8_worthAt, fX8_worthAt_42, Int.reduceEq, Int.reduceNe, Int.reduceLT, Int.reduceLE, Int.reduceAdd, Int.reduceSub, Int.reduceMul, Int.reduceNeg, Int.zero_add, Int.add_zero, nm_eq, bd_some, bv_some, aI_ok, aL_ok, aS_ok, dv_ok, dw_ok, I_add, I_sub, I_mul, I_neg, I_lt, I_le, I_eq, I_nat, J_add, J_sub, J_mul, J_neg, J_lt, J_le, J_eq, I_l, J_i, I_div, J_div, b2_0, b2_1, b2_nar, nar_0, nar_1, zr_0, zr_1, zr_b2, cmp_eq, cmp_le, cmp_lt, cmp_gt, cmp_ge, mx_I, mn_I, mx_L, mn_L, az_I, if_true, if_false, i_0, i_1, i_2, i_3, i_4, i_5, i_6, i_7, i_8, i_9, i_10, i_11, i_12, i_16, i_18, i_20, i_24, i_28, i_29, i_30, i_31, i_32, i_33, i_34, i_35, i_37, i_40, i_41, i_42, i_43, i_45, i_46, i_47, i_48, i_57, i_59, i_63, i_64, i_96, i_97, i_98, i_99, i_100, i_101, i_102, i_103, i_104, i_105, i_106, i_107, i_108, i_109, i_110, i_111, i_112, i_113, i_122, i_200, i_255, i_256, i_257, i_258, i_355, i_400, i_999, i_1000, i_1200, i_5680, i_9999, i_10000, i_99999, j_0, j_1, j_2, j_3, j_4, j_5, j_6, j_9, j_10, j_11, j_98, j_99, j_100, j_999, j_1000, j_9999, j_10000, j_99999, j_1000000, hT.1.1, hT.1.2, gB_ok hB.1, c_costOf hV hB, cm, c_lf_n hN, CB_m hB, CB_f hB, CB_co hB, CB_lk hB, CB_tg hB, CB_tc hB, CB_si hB, CB_se hB]
  · rw [if_neg hm]
    rcases x_md_in hV (f := f) m0 m1 with h | ⟨h0, h1, h2⟩
    · exact absurd h hm
    · have hc2 := c_of_in hV (f := f) f0 f1 h0 h1
      have hl := x_nl_in V f (x_md V f m) l
      have hl2 := x_nl_pos hV l h2
      have ha := x_av_in hV f (x_md V f m) (x_nl V f (x_md V f m) l) t
      have e : x_ll V f m l = x_nl V f (x_md V f m) l := by unfold x_ll; rw [if_neg hm]
      have hp := mul_ab (a := s_se V 5) (A := 99) (b := l - x_nl V f (x_md V f m) l) (B := 3) (by omega) (by omega) (by omega) (by omega)
      have hx : ¬ x_nl V f (x_md V f m) l = -1 := by omega
      rw [e]
      simp (disch := omega) only [fX8_worthAt, Int.reduceEq, Int.reduceNe, Int.reduceLT, Int.reduceLE, Int.reduceAdd, Int.reduceSub, Int.reduceMul, Int.reduceNeg, Int.zero_add, Int.add_zero, nm_eq, bd_some, bv_some, aI_ok, aL_ok, aS_ok, dv_ok, dw_ok, I_add, I_sub, I_mul, I_neg, I_lt, I_le, I_eq, I_nat, J_add, J_sub, J_mul, J_neg, J_lt, J_le, J_eq, I_l, J_i, I_div, J_div, b2_0, b2_1, b2_nar, nar_0, nar_1, zr_0, zr_1, zr_b2, cmp_eq, cmp_le, cmp_lt, cmp_gt, cmp_ge, mx_I, mn_I, mx_L, mn_L, az_I, if_true, if_false, i_0, i_1, i_2, i_3, i_4, i_5, i_6, i_7, i_8, i_9, i_10, i_11, i_12, i_16, i_18, i_20, i_24, i_28, i_29, i_30, i_31, i_32, i_33, i_34, i_35, i_37, i_40, i_41, i_42, i_43, i_45, i_46, i_47, i_48, i_57, i_59, i_63, i_64, i_96, i_97, i_98, i_99, i_100, i_101, i_102, i_103, i_104, i_105, i_106, i_107, i_108, i_109, i_110, i_111, i_112, i_113, i_122, i_200, i_255, i_256, i_257, i_258, i_355, i_400, i_999, i_1000, i_1200, i_5680, i_9999, i_10000, i_99999, j_0, j_1, j_2, j_3, j_4, j_5, j_6, j_9, j_10, j_11, j_98, j_99, j_100, j_999, j_1000, j_9999, j_10000, j_99999, j_1000000, hT.1.1, hT.1.2, gB_ok hB.1, c_costOf hV hB, c_mf hV hN f0 f1 hB hT, c_lf hV hN hT, hm, hx, c_avg hV hN hB hT, CB_m hB, CB_f hB, CB_co hB, CB_lk hB, CB_tg hB, CB_tc hB, CB_si hB, CB_se hB]
theorem d_ap_in (hV : vB V) {z e : Int} (z0 : 0 ≤ z) (z1 : z < sN V) (e0 : 0 ≤ e) (e1 : e < sN V) : 0 ≤ d_ap V z e ∧ d_ap V z e ≤ 100000 := by
  have hv := hV.2.1 z z0 z1
  have hw := hV.2.1 e e0 e1
  unfold vS at hv hw
  have a1 := az_in (s_lv V z - s_lv V e)
  have a2 := az_in (s_mo V z - s_mo V e)
  have a3 := az_in (s_mn V z - s_mn V e)
  unfold d_ap
  omega
theorem c_apart (hV : vB V) {μ : Mem} (hB : CB b V μ) (hH : HD b f μ) {z e : Int} (z0 : 0 ≤ z) (z1 : z < sN V) (e0 : 0 ≤ e) (e1 : e < sN V) : fX8_apart N (I_ z) (I_ e) μ = some (I_ (d_ap V z e), μ) := by
  have hn := hV.1
  unfold vN at hn
  have hv := hV.2.1 z z0 z1
  have hw := hV.2.1 e e0 e1
  unfold vS at hv hw
  have hS := hB.2.1
  unfold d_ap
  simp (disch := omega) only [fX8_apart, Int.reduceEq, Int.reduceNe, Int.reduceLT, Int.reduceLE, Int.reduceAdd, Int.reduceSub, Int.reduceMul, Int.reduceNeg, Int.zero_add, Int.add_zero, nm_eq, bd_some, bv_some, aI_ok, aL_ok, aS_ok, dv_ok, dw_ok, I_add, I_sub, I_mul, I_neg, I_lt, I_le, I_eq, I_nat, J_add, J_sub, J_mul, J_neg, J_lt, J_le, J_eq, I_l, J_i, I_div, J_div, b2_0, b2_1, b2_nar, nar_0, nar_1, zr_0, zr_1, zr_b2, cmp_eq, cmp_le, cmp_lt, cmp_gt, cmp_ge, mx_I, mn_I, mx_L, mn_L, az_I, if_true, if_false, i_0, i_1, i_2, i_3, i_4, i_5, i_6, i_7, i_8, i_9, i_10, i_11, i_12, i_16, i_18, i_20, i_24, i_28, i_29, i_30, i_31, i_32, i_33, i_34, i_35, i_37, i_40, i_41, i_42, i_43, i_45, i_46, i_47, i_48, i_57, i_59, i_63, i_64, i_96, i_97, i_98, i_99, i_100, i_101, i_102, i_103, i_104, i_105, i_106, i_107, i_108, i_109, i_110, i_111, i_112, i_113, i_122, i_200, i_255, i_256, i_257, i_258, i_355, i_400, i_999, i_1000, i_1200, i_5680, i_9999, i_10000, i_99999, j_0, j_1, j_2, j_3, j_4, j_5, j_6, j_9, j_10, j_11, j_98, j_99, j_100, j_999, j_1000, j_9999, j_10000, j_99999, j_1000000, hH.1, gB_ok hB.1, SB_n hS, SB_mk hS, SB_fm hS, SB_md hS, SB_lv hS, SB_mo hS, SB_mn hS, SB_pr hS, SB_of hS, SB_nt hS, SB_li hS]
def apm (V : Vw) (e best : Int) : Int := if best = -1 then 0 else d_ap V best e
theorem c_mt_l (hV : vB V) {μ : Mem} (hB : CB b V μ) (hT : ST b V f μ) {e : Int} (e0 : 0 ≤ e) (e1 : e < sN V) (he : s_fm V e = f) : ∀ (d n : Nat) (z best : Int), d < n → 0 ≤ z → z + d = sN V → (best = -1 ∨ (0 ≤ best ∧ best < sN V)) → fX8_matchFor_16 N n b (I_ e) (I_ best) (I_ (apm V e best)) (I_ z) μ = some (I_ (mtf V e d z best), μ) := by
  have hn := hV.1
  unfold vN at hn
  have hS := hB.2.1
  have hw := hV.2.1 e e0 e1
  unfold vS at hw
  intro d
  induction d with
  | zero =>
    intro n z best h1 h2 h3 h4
    obtain ⟨n, rfl⟩ : ∃ m, n = m + 1 := ⟨n - 1, by omega⟩
    have hle : sN V ≤ z := by omega
    simp (disch := omega) only [fX8_matchFor_16, Int.reduceEq, Int.reduceNe, Int.reduceLT, Int.reduceLE, Int.reduceAdd, Int.reduceSub, Int.reduceMul, Int.reduceNeg, Int.zero_add, Int.add_zero, nm_eq, bd_some, bv_some, aI_ok, aL_ok, aS_ok, dv_ok, dw_ok, I_add, I_sub, I_mul, I_neg, I_lt, I_le, I_eq, I_nat, J_add, J_sub, J_mul, J_neg, J_lt, J_le, J_eq, I_l, J_i, I_div, J_div, b2_0, b2_1, b2_nar, nar_0, nar_1, zr_0, zr_1, zr_b2, cmp_eq, cmp_le, cmp_lt, cmp_gt, cmp_ge, mx_I, mn_I, mx_L, mn_L, az_I, if_true, if_false, i_0, i_1, i_2, i_3, i_4, i_5, i_6, i_7, i_8, i_9, i_10, i_11, i_12, i_16, i_18, i_20, i_24, i_28, i_29, i_30, i_31, i_32, i_33, i_34, i_35, i_37, i_40, i_41, i_42, i_43, i_45, i_46, i_47, i_48, i_57, i_59, i_63, i_64, i_96, i_97, i_98, i_99, i_100, i_101, i_102, i_103, i_104, i_105, i_106, i_107, i_108, i_109, i_110, i_111, i_112, i_113, i_122, i_200, i_255, i_256, i_257, i_258, i_355, i_400, i_999, i_1000, i_1200, i_5680, i_9999, i_10000, i_99999, j_0, j_1, j_2, j_3, j_4, j_5, j_6, j_9, j_10, j_11, j_98, j_99, j_100, j_999, j_1000, j_9999, j_10000, j_99999, j_1000000, SB_n hS, hle, mtf]
  | succ d ih =>
    intro n z best h1 h2 h3 h4
    obtain ⟨n, rfl⟩ : ∃ m, n = m + 1 := ⟨n - 1, by omega⟩
    have hle : ¬ sN V ≤ z := by omega
    have hlt : z < sN V := by omega
    have hv := hV.2.1 z h2 hlt
    unfold vS at hv
    have r14 := hT.2.2.2.2.2 z h2 hlt
    have da := d_ap_in hV h2 hlt e0 e1
    have db : 0 ≤ apm V e best ∧ apm V e best ≤ 100000 := by
      unfold apm
      split
      · omega
      · exact d_ap_in hV (by omega) (by omega) e0 e1
    by_cases hp : p_to V z ∧ s_fm V z = f
    · by_cases hm : s_md V z = s_md V e
      · by_cases hb : best = -1
        · subst hb
          have q : mt1 V e z (-1) = z := by unfold mt1; rw [if_pos ⟨hp.1, by rw [hp.2, he], hm, Or.inl rfl⟩]
          have qa : d_ap V z e = apm V e z := by unfold apm; rw [if_neg (by omega)]
          simp (disch := omega) only [fX8_matchFor_16, Int.reduceEq, Int.reduceNe, Int.reduceLT, Int.reduceLE, Int.reduceAdd, Int.reduceSub, Int.reduceMul, Int.reduceNeg, Int.zero_add, Int.add_zero, nm_eq, bd_some, bv_some, aI_ok, aL_ok, aS_ok, dv_ok, dw_ok, I_add, I_sub, I_mul, I_neg, I_lt, I_le, I_eq, I_nat, J_add, J_sub, J_mul, J_neg, J_lt, J_le, J_eq, I_l, J_i, I_div, J_div, b2_0, b2_1, b2_nar, nar_0, nar_1, zr_0, zr_1, zr_b2, cmp_eq, cmp_le, cmp_lt, cmp_gt, cmp_ge, mx_I, mn_I, mx_L, mn_L, az_I, if_true, if_false, i_0, i_1, i_2, i_3, i_4, i_5, i_6, i_7, i_8, i_9, i_10, i_11, i_12, i_16, i_18, i_20, i_24, i_28, i_29, i_30, i_31, i_32, i_33, i_34, i_35, i_37, i_40, i_41, i_42, i_43, i_45, i_46, i_47, i_48, i_57, i_59, i_63, i_64, i_96, i_97, i_98, i_99, i_100, i_101, i_102, i_103, i_104, i_105, i_106, i_107, i_108, i_109, i_110, i_111, i_112, i_113, i_122, i_200, i_255, i_256, i_257, i_258, i_355, i_400, i_999, i_1000, i_1200, i_5680, i_9999, i_10000, i_99999, j_0, j_1, j_2, j_3, j_4, j_5, j_6, j_9, j_10, j_11, j_98, j_99, j_100, j_999, j_1000, j_9999, j_10000, j_99999, j_1000000, SB_n hS, SB_mk hS, SB_fm hS, SB_md hS, SB_lv hS, SB_mo hS, SB_mn hS, SB_pr hS, SB_of hS, SB_nt hS, SB_li hS, hle, r14, b2_t hp, hm, c_apart hV hB hT.1, mtf, q, qa, ih]
        · have ex : apm V e best = d_ap V best e := by unfold apm; rw [if_neg hb]
          by_cases hc : d_ap V z e < apm V e best
          · have q : mt1 V e z best = z := by unfold mt1; rw [if_pos ⟨hp.1, by rw [hp.2, he], hm, Or.inr (by omega)⟩]
            have qa : d_ap V z e = apm V e z := by unfold apm; rw [if_neg (by omega)]
            have hc' : ¬ apm V e best ≤ d_ap V z e := by omega
            rw [qa] at hc'
            simp (disch := omega) only [fX8_matchFor_16, Int.reduceEq, Int.reduceNe, Int.reduceLT, Int.reduceLE, Int.reduceAdd, Int.reduceSub, Int.reduceMul, Int.reduceNeg, Int.zero_add, Int.add_zero, nm_eq, bd_some, bv_some, aI_ok, aL_ok, aS_ok, dv_ok, dw_ok, I_add, I_sub, I_mul, I_neg, I_lt, I_le, I_eq, I_nat, J_add, J_sub, J_mul, J_neg, J_lt, J_le, J_eq, I_l, J_i, I_div, J_div, b2_0, b2_1, b2_nar, nar_0, nar_1, zr_0, zr_1, zr_b2, cmp_eq, cmp_le, cmp_lt, cmp_gt, cmp_ge, mx_I, mn_I, mx_L, mn_L, az_I, if_true, if_false, i_0, i_1, i_2, i_3, i_4, i_5, i_6, i_7, i_8, i_9, i_10, i_11, i_12, i_16, i_18, i_20, i_24, i_28, i_29, i_30, i_31, i_32, i_33, i_34, i_35, i_37, i_40, i_41, i_42, i_43, i_45, i_46, i_47, i_48, i_57, i_59, i_63, i_64, i_96, i_97, i_98, i_99, i_100, i_101, i_102, i_103, i_104, i_105, i_106, i_107, i_108, i_109, i_110, i_111, i_112, i_113, i_122, i_200, i_255, i_256, i_257, i_258, i_355, i_400, i_999, i_1000, i_1200, i_5680, i_9999, i_10000, i_99999, j_0, j_1, j_2, j_3, j_4, j_5, j_6, j_9, j_10, j_11, j_98, j_99, j_100, j_999, j_1000, j_9999, j_10000, j_99999, j_1000000, SB_n hS, SB_mk hS, SB_fm hS, SB_md hS, SB_lv hS, SB_mo hS, SB_mn hS, SB_pr hS, SB_of hS, SB_nt hS, SB_li hS, hle, r14, b2_t hp, hm, c_apart hV hB hT.1, hb, mtf, q, qa, hc', ih]
          · have q : mt1 V e z best = best := by
              unfold mt1; rw [if_neg]
              intro q
              rcases q.2.2.2 with q | q
              · exact hb q
              · exact hc (by omega)
            have hc' : apm V e best ≤ d_ap V z e := by omega
            simp (disch := omega) only [fX8_matchFor_16, Int.reduceEq, Int.reduceNe, Int.reduceLT, Int.reduceLE, Int.reduceAdd, Int.reduceSub, Int.reduceMul, Int.reduceNeg, Int.zero_add, Int.add_zero, nm_eq, bd_some, bv_some, aI_ok, aL_ok, aS_ok, dv_ok, dw_ok, I_add, I_sub, I_mul, I_neg, I_lt, I_le, I_eq, I_nat, J_add, J_sub, J_mul, J_neg, J_lt, J_le, J_eq, I_l, J_i, I_div, J_div, b2_0, b2_1, b2_nar, nar_0, nar_1, zr_0, zr_1, zr_b2, cmp_eq, cmp_le, cmp_lt, cmp_gt, cmp_ge, mx_I, mn_I, mx_L, mn_L, az_I, if_true, if_false, i_0, i_1, i_2, i_3, i_4, i_5, i_6, i_7, i_8, i_9, i_10, i_11, i_12, i_16, i_18, i_20, i_24, i_28, i_29, i_30, i_31, i_32, i_33, i_34, i_35, i_37, i_40, i_41, i_42, i_43, i_45, i_46, i_47, i_48, i_57, i_59, i_63, i_64, i_96, i_97, i_98, i_99, i_100, i_101, i_102, i_103, i_104, i_105, i_106, i_107, i_108, i_109, i_110, i_111, i_112, i_113, i_122, i_200, i_255, i_256, i_257, i_258, i_355, i_400, i_999, i_1000, i_1200, i_5680, i_9999, i_10000, i_99999, j_0, j_1, j_2, j_3, j_4, j_5, j_6, j_9, j_10, j_11, j_98, j_99, j_100, j_999, j_1000, j_9999, j_10000, j_99999, j_1000000, SB_n hS, SB_mk hS, SB_fm hS, SB_md hS, SB_lv hS, SB_mo hS, SB_mn hS, SB_pr hS, SB_of hS, SB_nt hS, SB_li hS, hle, r14, b2_t hp, hm, c_apart hV hB hT.1, hb, mtf, q, hc', ih]
      · have q : mt1 V e z best = best := by unfold mt1; rw [if_neg (fun q => hm q.2.2.1)]
        simp (disch := omega) only [fX8_matchFor_16, Int.reduceEq, Int.reduceNe, Int.reduceLT, Int.reduceLE, Int.reduceAdd, Int.reduceSub, Int.reduceMul, Int.reduceNeg, Int.zero_add, Int.add_zero, nm_eq, bd_some, bv_some, aI_ok, aL_ok, aS_ok, dv_ok, dw_ok, I_add, I_sub, I_mul, I_neg, I_lt, I_le, I_eq, I_nat, J_add, J_sub, J_mul, J_neg, J_lt, J_le, J_eq, I_l, J_i, I_div, J_div, b2_0, b2_1, b2_nar, nar_0, nar_1, zr_0, zr_1, zr_b2, cmp_eq, cmp_le, cmp_lt, cmp_gt, cmp_ge, mx_I, mn_I, mx_L, mn_L, az_I, if_true, if_false, i_0, i_1, i_2, i_3, i_4, i_5, i_6, i_7, i_8, i_9, i_10, i_11, i_12, i_16, i_18, i_20, i_24, i_28, i_29, i_30, i_31, i_32, i_33, i_34, i_35, i_37, i_40, i_41, i_42, i_43, i_45, i_46, i_47, i_48, i_57, i_59, i_63, i_64, i_96, i_97, i_98, i_99, i_100, i_101, i_102, i_103, i_104, i_105, i_106, i_107, i_108, i_109, i_110, i_111, i_112, i_113, i_122, i_200, i_255, i_256, i_257, i_258, i_355, i_400, i_999, i_1000, i_1200, i_5680, i_9999, i_10000, i_99999, j_0, j_1, j_2, j_3, j_4, j_5, j_6, j_9, j_10, j_11, j_98, j_99, j_100, j_999, j_1000, j_9999, j_10000, j_99999, j_1000000, SB_n hS, SB_mk hS, SB_fm hS, SB_md hS, SB_lv hS, SB_mo hS, SB_mn hS, SB_pr hS, SB_of hS, SB_nt hS, SB_li hS, hle, r14, b2_t hp, hm, mtf, q, ih]
    · have q : mt1 V e z best = best := by unfold mt1; rw [if_neg (fun q => hp ⟨q.1, by rw [q.2.1, he]⟩)]
      simp (disch := omega) only [fX8_matchFor_16, Int.reduceEq, Int.reduceNe, Int.reduceLT, Int.reduceLE, Int.reduceAdd, Int.reduceSub, Int.reduceMul, Int.reduceNeg, Int.zero_add, Int.add_zero, nm_eq, bd_some, bv_some, aI_ok, aL_ok, aS_ok, dv_ok, dw_ok, I_add, I_sub, I_mul, I_neg, I_lt, I_le, I_eq, I_nat, J_add, J_sub, J_mul, J_neg, J_lt, J_le, J_eq, I_l, J_i, I_div, J_div, b2_0, b2_1, b2_nar, nar_0, nar_1, zr_0, zr_1, zr_b2, cmp_eq, cmp_le, cmp_lt, cmp_gt, cmp_ge, mx_I, mn_I, mx_L, mn_L, az_I, if_true, if_false, i_0, i_1, i_2, i_3, i_4, i_5, i_6, i_7, i_8, i_9, i_10, i_11, i_12, i_16, i_18, i_20, i_24, i_28, i_29, i_30, i_31, i_32, i_33, i_34, i_35, i_37, i_40, i_41, i_42, i_43, i_45, i_46, i_47, i_48, i_57, i_59, i_63, i_64, i_96, i_97, i_98, i_99, i_100, i_101, i_102, i_103, i_104, i_105, i_106, i_107, i_108, i_109, i_110, i_111, i_112, i_113, i_122, i_200, i_255, i_256, i_257, i_258, i_355, i_400, i_999, i_1000, i_1200, i_5680, i_9999, i_10000, i_99999, j_0, j_1, j_2, j_3, j_4, j_5, j_6, j_9, j_10, j_11, j_98, j_99, j_100, j_999, j_1000, j_9999, j_10000, j_99999, j_1000000, SB_n hS, SB_mk hS, SB_fm hS, SB_md hS, SB_lv hS, SB_mo hS, SB_mn hS, SB_pr hS, SB_of hS, SB_nt hS, SB_li hS, hle, r14, b2_f hp, mtf, q, ih]
theorem c_mt (hV : vB V) (hN : 100 ≤ N) {μ : Mem} (hB : CB b V μ) (hT : ST b V f μ) {e : Int} (e0 : 0 ≤ e) (e1 : e < sN V) (he : s_fm V e = f) : fX8_matchFor N (I_ e) μ = some (I_ (x_mt V e), μ) := by
  have hn := hV.1
  unfold vN at hn
  have := c_mt_l (N := N) hV hB hT e0 e1 he (sN V).toNat N 0 (-1) (by omega) (by omega) (by omega) (Or.inl rfl)
  have q : apm V e (-1) = 0 := rfl
  rw [q] at this
  simp (disch := omega) only [fX8_matchFor, Int.reduceEq, Int.reduceNe, Int.reduceLT, Int.reduceLE, Int.reduceAdd, Int.reduceSub, Int.reduceMul, Int.reduceNeg, Int.zero_add, Int.add_zero, nm_eq, bd_some, bv_some, aI_ok, aL_ok, aS_ok, dv_ok, dw_ok, I_add, I_sub, I_mul, I_neg, I_lt, I_le, I_eq, I_nat, J_add, J_sub, J_mul, J_neg, J_lt, J_le, J_eq, I_l, J_i, I_div, J_div, b2_0, b2_1, b2_nar, nar_0, nar_1, zr_0, zr_1, zr_b2, cmp_eq, cmp_le, cmp_lt, cmp_gt, cmp_ge, mx_I, mn_I, mx_L, mn_L, az_I, if_true, if_false, i_0, i_1, i_2, i_3, i_4, i_5, i_6, i_7, i_8, i_9, i_10, i_11, i_12, i_16, i_18, i_20, i_24, i_28, i_29, i_30, i_31, i_32, i_33, i_34, i_35, i_37, i_40, i_41, i_42, i_43, i_45, i_46, i_47, i_48, i_57, i_59, i_63, i_64, i_96, i_97, i_98, i_99, i_100, i_101, i_102, i_103, i_104, i_105, i_106, i_107, i_108, i_109, i_110, i_111, i_112, i_113, i_122, i_200, i_255, i_256, i_257, i_258, i_355, i_400, i_999, i_1000, i_1200, i_5680, i_9999, i_10000, i_99999, j_0, j_1, j_2, j_3, j_4, j_5, j_6, j_9, j_10, j_11, j_98, j_99, j_100, j_999, j_1000, j_9999, j_10000, j_99999, j_1000000, hT.1.1, gB_ok hB.1, this]
  rfl
theorem mtf_in {e : Int} : ∀ (d : Nat) (z best : Int), 0 ≤ z → z + d ≤ sN V → (best = -1 ∨ (0 ≤ best ∧ best < sN V)) → mtf V e d z best = -1 ∨ (0 ≤ mtf V e d z best ∧ mtf V e d z best < sN V) := by
  intro d
  induction d with
  | zero => intro z best _ _ h; exact h
  | succ d ih =>
    intro z best h0 h1 h
    refine ih (z + 1) (mt1 V e z best) (by omega) (by omega) ?_
    unfold mt1
    split
    · exact Or.inr ⟨h0, by omega⟩
    · exact h
theorem x_mt_in (hV : vB V) (e : Int) : x_mt V e = -1 ∨ (0 ≤ x_mt V e ∧ x_mt V e < sN V) := by
  have := zN_le hV
  exact mtf_in _ _ _ (by omega) (by omega) (Or.inl rfl)
theorem mtc_in (hV : vB V) {e : Int} (e0 : 0 ≤ e) (e1 : e < sN V) : -1 ≤ mtc V e ∧ mtc V e ≤ 11 := by
  have hw := hV.2.1 e e0 e1
  unfold vS at hw
  unfold mtc
  split <;> omega
theorem x_wm_in (hV : vB V) {e k : Int} (e0 : 0 ≤ e) (e1 : e < sN V) (k0 : 0 ≤ k) (k1 : k < sN V) : 0 ≤ x_wm V e k ∧ x_wm V e k ≤ 200000000 := by
  have hn := hV.1
  unfold vN at hn
  have hv := hV.2.1 e e0 e1
  have hw := hV.2.1 k k0 k1
  unfold vS at hv hw
  have hp := mul_ab (a := s_se V 5) (A := 99) (b := s_lv V e - s_lv V k) (B := 3) (by omega) (by omega) (by omega) (by omega)
  unfold x_wm
  omega
theorem c_wm (hV : vB V) {μ : Mem} (hB : CB b V μ) (hH : HD b f μ) {e k : Int} (e0 : 0 ≤ e) (e1 : e < sN V) (k0 : 0 ≤ k) (k1 : k < sN V) : fX8_worthByMatch N (I_ e) (I_ k) μ = some (J_ (x_wm V e k), μ) := by
  have hn := hV.1
  unfold vN at hn
  have hv := hV.2.1 e e0 e1
  have hw := hV.2.1 k k0 k1
  unfold vS at hv hw
  have hp := mul_ab (a := s_se V 5) (A := 99) (b := s_lv V e - s_lv V k) (B := 3) (by omega) (by omega) (by omega) (by omega)
  have hS := hB.2.1
  unfold x_wm
  simp (disch := omega) only [fX8_worthByMatch, Int.reduceEq, Int.reduceNe, Int.reduceLT, Int.reduceLE, Int.reduceAdd, Int.reduceSub, Int.reduceMul, Int.reduceNeg, Int.zero_add, Int.add_zero, nm_eq, bd_some, bv_some, aI_ok, aL_ok, aS_ok, dv_ok, dw_ok, I_add, I_sub, I_mul, I_neg, I_lt, I_le, I_eq, I_nat, J_add, J_sub, J_mul, J_neg, J_lt, J_le, J_eq, I_l, J_i, I_div, J_div, b2_0, b2_1, b2_nar, nar_0, nar_1, zr_0, zr_1, zr_b2, cmp_eq, cmp_le, cmp_lt, cmp_gt, cmp_ge, mx_I, mn_I, mx_L, mn_L, az_I, if_true, if_false, i_0, i_1, i_2, i_3, i_4, i_5, i_6, i_7, i_8, i_9, i_10, i_11, i_12, i_16, i_18, i_20, i_24, i_28, i_29, i_30, i_31, i_32, i_33, i_34, i_35, i_37, i_40, i_41, i_42, i_43, i_45, i_46, i_47, i_48, i_57, i_59, i_63, i_64, i_96, i_97, i_98, i_99, i_100, i_101, i_102, i_103, i_104, i_105, i_106, i_107, i_108, i_109, i_110, i_111, i_112, i_113, i_122, i_200, i_255, i_256, i_257, i_258, i_355, i_400, i_999, i_1000, i_1200, i_5680, i_9999, i_10000, i_99999, j_0, j_1, j_2, j_3, j_4, j_5, j_6, j_9, j_10, j_11, j_98, j_99, j_100, j_999, j_1000, j_9999, j_10000, j_99999, j_1000000, hH.1, gB_ok hB.1, SB_n hS, SB_mk hS, SB_fm hS, SB_md hS, SB_lv hS, SB_mo hS, SB_mn hS, SB_pr hS, SB_of hS, SB_nt hS, SB_li hS, CB_m hB, CB_f hB, CB_co hB, CB_lk hB, CB_tg hB, CB_tc hB, CB_si hB, CB_se hB]
theorem x_wf_in (hV : vB V) {e t : Int} (e0 : 0 ≤ e) (e1 : e < sN V) : 0 ≤ x_wf V e t ∧ x_wf V e t ≤ 200000000 := by
  have hn := hV.1
  unfold vN at hn
  have hv := hV.2.1 e e0 e1
  unfold vS at hv
  unfold x_wf
  split
  · rename_i h
    rcases x_mt_in hV e with q | q
    · exact absurd q h.2
    · exact x_wm_in hV e0 e1 q.1 q.2
  · exact x_wo_in hV (by omega) (by omega) (by omega) (by omega) (by omega) (by omega)
theorem c_wf (hV : vB V) (hN : 100 ≤ N) {μ : Mem} (hB : CB b V μ) (hT : ST b V f μ) {e t : Int} (e0 : 0 ≤ e) (e1 : e < sN V) (he : s_fm V e = f) (t0 : 0 ≤ t) (t1 : t ≤ 2) : fX2_worthFor N b (I_ e) (I_ t) μ = some (J_ (x_wf V e t), μ) := by
  have hn := hV.1
  unfold vN at hn
  have hv := hV.2.1 e e0 e1
  unfold vS at hv
  have hS := hB.2.1
  have hmc := mtc_in hV e0 e1
  have w17 : fX2_worthFor_17 N b (I_ e) (I_ (-1)) μ = some (J_ (x_wo V (s_fm V e) (s_md V e) (s_lv V e) (mtc V e)), μ) := by
    rw [he]
    simp (disch := omega) only [fX2_worthFor_17, Int.reduceEq, Int.reduceNe, Int.reduceLT, Int.reduceLE, Int.reduceAdd, Int.reduceSub, Int.reduceMul, Int.reduceNeg, Int.zero_add, Int.add_zero, nm_eq, bd_some, bv_some, aI_ok, aL_ok, aS_ok, dv_ok, dw_ok, I_add, I_sub, I_mul, I_neg, I_lt, I_le, I_eq, I_nat, J_add, J_sub, J_mul, J_neg, J_lt, J_le, J_eq, I_l, J_i, I_div, J_div, b2_0, b2_1, b2_nar, nar_0, nar_1, zr_0, zr_1, zr_b2, cmp_eq, cmp_le, cmp_lt, cmp_gt, cmp_ge, mx_I, mn_I, mx_L, mn_L, az_I, if_true, if_false, i_0, i_1, i_2, i_3, i_4, i_5, i_6, i_7, i_8, i_9, i_10, i_11, i_12, i_16, i_18, i_20, i_24, i_28, i_29, i_30, i_31, i_32, i_33, i_34, i_35, i_37, i_40, i_41, i_42, i_43, i_45, i_46, i_47, i_48, i_57, i_59, i_63, i_64, i_96, i_97, i_98, i_99, i_100, i_101, i_102, i_103, i_104, i_105, i_106, i_107, i_108, i_109, i_110, i_111, i_112, i_113, i_122, i_200, i_255, i_256, i_257, i_258, i_355, i_400, i_999, i_1000, i_1200, i_5680, i_9999, i_10000, i_99999, j_0, j_1, j_2, j_3, j_4, j_5, j_6, j_9, j_10, j_11, j_98, j_99, j_100, j_999, j_1000, j_9999, j_10000, j_99999, j_1000000, SB_n hS, SB_mk hS, SB_fm hS, SB_md hS, SB_lv hS, SB_mo hS, SB_mn hS, SB_pr hS, SB_of hS, SB_nt hS, SB_li hS, c_mtc hV hB, c_wo hV hN (f := f) (by omega) (by omega) hB hT]
  unfold fX2_worthFor
  rw [if_pos hB.1]
  by_cases ht : t = 2
  · subst ht
    rcases x_mt_in hV e with q | q
    · have cm := c_mt (N := N) hV hN hB hT e0 e1 he
      rw [q] at cm
      have ex : x_wf V e 2 = x_wo V (s_fm V e) (s_md V e) (s_lv V e) (mtc V e) := by unfold x_wf; rw [if_neg (fun h => h.2 q)]
      rw [ex]
      simp (disch := omega) only [Int.reduceEq, Int.reduceNe, Int.reduceLT, Int.reduceLE, Int.reduceAdd, Int.reduceSub, Int.reduceMul, Int.reduceNeg, Int.zero_add, Int.add_zero, nm_eq, bd_some, bv_some, aI_ok, aL_ok, aS_ok, dv_ok, dw_ok, I_add, I_sub, I_mul, I_neg, I_lt, I_le, I_eq, I_nat, J_add, J_sub, J_mul, J_neg, J_lt, J_le, J_eq, I_l, J_i, I_div, J_div, b2_0, b2_1, b2_nar, nar_0, nar_1, zr_0, zr_1, zr_b2, cmp_eq, cmp_le, cmp_lt, cmp_gt, cmp_ge, mx_I, mn_I, mx_L, mn_L, az_I, if_true, if_false, i_0, i_1, i_2, i_3, i_4, i_5, i_6, i_7, i_8, i_9, i_10, i_11, i_12, i_16, i_18, i_20, i_24, i_28, i_29, i_30, i_31, i_32, i_33, i_34, i_35, i_37, i_40, i_41, i_42, i_43, i_45, i_46, i_47, i_48, i_57, i_59, i_63, i_64, i_96, i_97, i_98, i_99, i_100, i_101, i_102, i_103, i_104, i_105, i_106, i_107, i_108, i_109, i_110, i_111, i_112, i_113, i_122, i_200, i_255, i_256, i_257, i_258, i_355, i_400, i_999, i_1000, i_1200, i_5680, i_9999, i_10000, i_99999, j_0, j_1, j_2, j_3, j_4, j_5, j_6, j_9, j_10, j_11, j_98, j_99, j_100, j_999, j_1000, j_9999, j_10000, j_99999, j_1000000, cm, w17]
    · have hq : x_mt V e ≠ -1 := by omega
      have hq' : ¬ x_mt V e = -1 := by omega
      have ex : x_wf V e 2 = x_wm V e (x_mt V e) := by unfold x_wf; rw [if_pos ⟨rfl, hq⟩]
      rw [ex]
      simp (disch := omega) only [Int.reduceEq, Int.reduceNe, Int.reduceLT, Int.reduceLE, Int.reduceAdd, Int.reduceSub, Int.reduceMul, Int.reduceNeg, Int.zero_add, Int.add_zero, nm_eq, bd_some, bv_some, aI_ok, aL_ok, aS_ok, dv_ok, dw_ok, I_add, I_sub, I_mul, I_neg, I_lt, I_le, I_eq, I_nat, J_add, J_sub, J_mul, J_neg, J_lt, J_le, J_eq, I_l, J_i, I_div, J_div, b2_0, b2_1, b2_nar, nar_0, nar_1, zr_0, zr_1, zr_b2, cmp_eq, cmp_le, cmp_lt, cmp_gt, cmp_ge, mx_I, mn_I, mx_L, mn_L, az_I, if_true, if_false, i_0, i_1, i_2, i_3, i_4, i_5, i_6, i_7, i_8, i_9, i_10, i_11, i_12, i_16, i_18, i_20, i_24, i_28, i_29, i_30, i_31, i_32, i_33, i_34, i_35, i_37, i_40, i_41, i_42, i_43, i_45, i_46, i_47, i_48, i_57, i_59, i_63, i_64, i_96, i_97, i_98, i_99, i_100, i_101, i_102, i_103, i_104, i_105, i_106, i_107, i_108, i_109, i_110, i_111, i_112, i_113, i_122, i_200, i_255, i_256, i_257, i_258, i_355, i_400, i_999, i_1000, i_1200, i_5680, i_9999, i_10000, i_99999, j_0, j_1, j_2, j_3, j_4, j_5, j_6, j_9, j_10, j_11, j_98, j_99, j_100, j_999, j_1000, j_9999, j_10000, j_99999, j_1000000, c_mt hV hN hB hT, he, fX2_worthFor_17, hq', c_wm hV hB hT.1]
  · have ex : x_wf V e t = x_wo V (s_fm V e) (s_md V e) (s_lv V e) (mtc V e) := by unfold x_wf; rw [if_neg (fun h => ht h.1)]
    rw [ex]
    simp (disch := omega) only [Int.reduceEq, Int.reduceNe, Int.reduceLT, Int.reduceLE, Int.reduceAdd, Int.reduceSub, Int.reduceMul, Int.reduceNeg, Int.zero_add, Int.add_zero, nm_eq, bd_some, bv_some, aI_ok, aL_ok, aS_ok, dv_ok, dw_ok, I_add, I_sub, I_mul, I_neg, I_lt, I_le, I_eq, I_nat, J_add, J_sub, J_mul, J_neg, J_lt, J_le, J_eq, I_l, J_i, I_div, J_div, b2_0, b2_1, b2_nar, nar_0, nar_1, zr_0, zr_1, zr_b2, cmp_eq, cmp_le, cmp_lt, cmp_gt, cmp_ge, mx_I, mn_I, mx_L, mn_L, az_I, if_true, if_false, i_0, i_1, i_2, i_3, i_4, i_5, i_6, i_7, i_8, i_9, i_10, i_11, i_12, i_16, i_18, i_20, i_24, i_28, i_29, i_30, i_31, i_32, i_33, i_34, i_35, i_37, i_40, i_41, i_42, i_43, i_45, i_46, i_47, i_48, i_57, i_59, i_63, i_64, i_96, i_97, i_98, i_99, i_100, i_101, i_102, i_103, i_104, i_105, i_106, i_107, i_108, i_109, i_110, i_111, i_112, i_113, i_122, i_200, i_255, i_256, i_257, i_258, i_355, i_400, i_999, i_1000, i_1200, i_5680, i_9999, i_10000, i_99999, j_0, j_1, j_2, j_3, j_4, j_5, j_6, j_9, j_10, j_11, j_98, j_99, j_100, j_999, j_1000, j_9999, j_10000, j_99999, j_1000000, ht, w17]
theorem c_df (hV : vB V) (hN : 100 ≤ N) {μ : Mem} (hB : CB b V μ) {e t : Int} (e0 : 0 ≤ e) (e1 : e < sN V) (t0 : 0 ≤ t) (t1 : t ≤ 2) : ∃ μ', fX2_differenceFor N b (I_ e) (I_ t) μ = some (J_ (x_df V e t), μ') ∧ Fr P_st μ μ' := by
  have hn := hV.1
  unfold vN at hn
  have hv := hV.2.1 e e0 e1
  unfold vS at hv
  have hS := hB.2.1
  obtain ⟨μ', a1, a2, a3⟩ := c_look (N := N) hV hN (f := s_fm V e) (by omega) (by omega) hB
  have hB' := hB.st a2
  have hS' := hB'.2.1
  refine ⟨μ', ?_, a2⟩
  unfold fX2_differenceFor x_df
  rw [if_pos hB.1]
  simp (disch := omega) only [Int.reduceEq, Int.reduceNe, Int.reduceLT, Int.reduceLE, Int.reduceAdd, Int.reduceSub, Int.reduceMul, Int.reduceNeg, Int.zero_add, Int.add_zero, nm_eq, bd_some, bv_some, aI_ok, aL_ok, aS_ok, dv_ok, dw_ok, I_add, I_sub, I_mul, I_neg, I_lt, I_le, I_eq, I_nat, J_add, J_sub, J_mul, J_neg, J_lt, J_le, J_eq, I_l, J_i, I_div, J_div, b2_0, b2_1, b2_nar, nar_0, nar_1, zr_0, zr_1, zr_b2, cmp_eq, cmp_le, cmp_lt, cmp_gt, cmp_ge, mx_I, mn_I, mx_L, mn_L, az_I, if_true, if_false, i_0, i_1, i_2, i_3, i_4, i_5, i_6, i_7, i_8, i_9, i_10, i_11, i_12, i_16, i_18, i_20, i_24, i_28, i_29, i_30, i_31, i_32, i_33, i_34, i_35, i_37, i_40, i_41, i_42, i_43, i_45, i_46, i_47, i_48, i_57, i_59, i_63, i_64, i_96, i_97, i_98, i_99, i_100, i_101, i_102, i_103, i_104, i_105, i_106, i_107, i_108, i_109, i_110, i_111, i_112, i_113, i_122, i_200, i_255, i_256, i_257, i_258, i_355, i_400, i_999, i_1000, i_1200, i_5680, i_9999, i_10000, i_99999, j_0, j_1, j_2, j_3, j_4, j_5, j_6, j_9, j_10, j_11, j_98, j_99, j_100, j_999, j_1000, j_9999, j_10000, j_99999, j_1000000, SB_fm hS, a1, c_wf hV hN hB' a3, SB_n hS', SB_mk hS', SB_fm hS', SB_md hS', SB_lv hS', SB_mo hS', SB_mn hS', SB_pr hS', SB_of hS', SB_nt hS', SB_li hS']
end
