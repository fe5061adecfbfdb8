/-! picked of the reference. -/
def g_pw (V : Vw) (f m z : Int) : Int := if p_ex V f z ∧ s_mo V z = m then s_nt V z * s_mn V z else 0
def g_qw (V : Vw) (f m z : Int) : Int := if p_ex V f z ∧ s_mo V z ≠ m then s_nt V z * s_mn V z else 0
def g_qm (V : Vw) (f m z : Int) : Int := if p_ex V f z ∧ s_mo V z ≠ m then s_mn V z else 0
section
variable {N : Nat} {V : Vw} {ν : Mem} {f t m : Int}
theorem pw_pv : ∀ (d : Nat) (i : Int), 1000 * sg d i (g_pw V f m) = sg d i (g_pv V f m) := by
  intro d
  induction d with
  | zero => intro i; rfl
  | succ d ih =>
    intro i
    have := ih (i + 1)
    have e : 1000 * g_pw V f m i = g_pv V f m i := by
      unfold g_pw g_pv
      split
      · rw [Int.mul_assoc]
      · rfl
    rw [sg, sg]
    omega
theorem qw_pv : ∀ (d : Nat) (i : Int), 1000 * sg d i (g_qw V f m) = sg d i (g_val V f) - sg d i (g_pv V f m) := by
  intro d
  induction d with
  | zero => intro i; rfl
  | succ d ih =>
    intro i
    have := ih (i + 1)
    have e : 1000 * g_qw V f m i = g_val V f i - g_pv V f m i := by
      unfold g_qw g_pv g_val
      by_cases he : p_ex V f i
      · by_cases hm : s_mo V i = m
        · rw [if_neg (fun q => q.2 hm), if_pos he, if_pos ⟨he, hm⟩]; omega
        · rw [if_pos ⟨he, hm⟩, if_pos he, if_neg (fun q => hm q.2), Int.mul_assoc]; omega
      · rw [if_neg (fun q => he q.1), if_neg he, if_neg (fun q => he q.1)]; rfl
    rw [sg, sg, sg]
    omega
theorem qm_pm : ∀ (d : Nat) (i : Int), sg d i (g_qm V f m) = sg d i (g_mn V f 1) - sg d i (g_pm V f m) := by
  intro d
  induction d with
  | zero => intro i; rfl
  | succ d ih =>
    intro i
    have := ih (i + 1)
    have e : g_qm V f m i = g_mn V f 1 i - g_pm V f m i := by
      unfold g_qm g_pm g_mn
      by_cases he : p_ex V f i
      · by_cases hm : s_mo V i = m
        · rw [if_neg (fun q => q.2 hm), if_pos he, if_pos ⟨he, hm⟩]; omega
        · rw [if_pos ⟨he, hm⟩, if_pos he, if_neg (fun q => hm q.2)]; omega
      · rw [if_neg (fun q => he q.1), if_neg he, if_neg (fun q => he q.1)]; rfl
    rw [sg, sg, sg]
    omega
theorem r_pi166 (hV : vB V) {a c : Int} (ha : 1000 * a = x_pv V f m) (hc : 1000 * c = x_val V f - x_pv V f m) : fX11_isPicked_166 N (J_ a) (J_ (x_pm V f m)) (J_ c) (J_ (x_mn V f 1 - x_pm V f m)) ν = some (I_ (b2 (p_pk V f m)), ν) := by
  have hv := x_val_mx hV f
  have hx := x_mn_in hV f 1
  have a1 := x_pm_in hV f m
  have a2 := x_pv_in hV f m
  have a3 := x_pv_le hV f m
  by_cases hz : x_pm V f m ≤ 0
  · have hp : ¬ p_pk V f m := fun q => by have := q.1; omega
    simp (disch := omega) only [fX11_isPicked_166, Int.reduceEq, Int.reduceNe, Int.reduceLT, Int.reduceLE, Int.reduceAdd, Int.reduceSub, Int.reduceMul, Int.reduceNeg, Int.zero_add, Int.add_zero, nm_eq, bd_some, bv_some, aI_ok, aL_ok, aS_ok, dv_ok, dw_ok, I_add, I_sub, I_mul, I_neg, I_lt, I_le, I_eq, I_nat, J_add, J_sub, J_mul, J_neg, J_lt, J_le, J_eq, I_l, J_i, I_div, J_div, b2_0, b2_1, b2_nar, nar_0, nar_1, zr_0, zr_1, zr_b2, cmp_eq, cmp_le, cmp_lt, cmp_gt, cmp_ge, mx_I, mn_I, mx_L, mn_L, az_I, if_true, if_false, not_true_eq_false, not_false_eq_true, i_0, i_1, i_2, i_3, i_4, i_5, i_6, i_7, i_8, i_9, i_10, i_11, i_12, i_16, i_18, i_20, i_24, i_28, i_29, i_30, i_31, i_32, i_33, i_34, i_35, i_37, i_40, i_41, i_42, i_43, i_45, i_46, i_47, i_48, i_57, i_59, i_63, i_64, i_96, i_97, i_98, i_99, i_100, i_101, i_102, i_103, i_104, i_105, i_106, i_107, i_108, i_109, i_110, i_111, i_112, i_113, i_122, i_200, i_255, i_256, i_257, i_258, i_355, i_400, i_999, i_1000, i_1200, i_5680, i_9999, i_10000, i_99999, j_0, j_1, j_2, j_3, j_4, j_5, j_6, j_9, j_10, j_11, j_98, j_99, j_100, j_999, j_1000, j_9999, j_10000, j_99999, j_1000000, hz, b2_f hp]
  · by_cases hy : x_mn V f 1 - x_pm V f m ≤ 0
    · have hp : ¬ p_pk V f m := fun q => by have := q.2.1; omega
      simp (disch := omega) only [fX11_isPicked_166, Int.reduceEq, Int.reduceNe, Int.reduceLT, Int.reduceLE, Int.reduceAdd, Int.reduceSub, Int.reduceMul, Int.reduceNeg, Int.zero_add, Int.add_zero, nm_eq, bd_some, bv_some, aI_ok, aL_ok, aS_ok, dv_ok, dw_ok, I_add, I_sub, I_mul, I_neg, I_lt, I_le, I_eq, I_nat, J_add, J_sub, J_mul, J_neg, J_lt, J_le, J_eq, I_l, J_i, I_div, J_div, b2_0, b2_1, b2_nar, nar_0, nar_1, zr_0, zr_1, zr_b2, cmp_eq, cmp_le, cmp_lt, cmp_gt, cmp_ge, mx_I, mn_I, mx_L, mn_L, az_I, if_true, if_false, not_true_eq_false, not_false_eq_true, i_0, i_1, i_2, i_3, i_4, i_5, i_6, i_7, i_8, i_9, i_10, i_11, i_12, i_16, i_18, i_20, i_24, i_28, i_29, i_30, i_31, i_32, i_33, i_34, i_35, i_37, i_40, i_41, i_42, i_43, i_45, i_46, i_47, i_48, i_57, i_59, i_63, i_64, i_96, i_97, i_98, i_99, i_100, i_101, i_102, i_103, i_104, i_105, i_106, i_107, i_108, i_109, i_110, i_111, i_112, i_113, i_122, i_200, i_255, i_256, i_257, i_258, i_355, i_400, i_999, i_1000, i_1200, i_5680, i_9999, i_10000, i_99999, j_0, j_1, j_2, j_3, j_4, j_5, j_6, j_9, j_10, j_11, j_98, j_99, j_100, j_999, j_1000, j_9999, j_10000, j_99999, j_1000000, hz, hy, b2_f hp]
    · have d1 := dv_in a2.1 (show 0 < x_pm V f m by omega) a2.2
      have d2 := Int.ediv_nonneg (a := x_val V f - x_pv V f m) (b := x_mn V f 1 - x_pm V f m) (by omega) (by omega)
      have d3 := Int.ediv_le_self (a := x_val V f - x_pv V f m) (x_mn V f 1 - x_pm V f m) (by omega)
      by_cases hk : 100 * (x_pv V f m / x_pm V f m) < 98 * ((x_val V f - x_pv V f m) / (x_mn V f 1 - x_pm V f m))
      · have hp : p_pk V f m := ⟨by omega, by omega, hk⟩
        have hk' : ¬ 98 * ((x_val V f - x_pv V f m) / (x_mn V f 1 - x_pm V f m)) ≤ 100 * (x_pv V f m / x_pm V f m) := by omega
        simp (disch := omega) only [fX11_isPicked_166, Int.reduceEq, Int.reduceNe, Int.reduceLT, Int.reduceLE, Int.reduceAdd, Int.reduceSub, Int.reduceMul, Int.reduceNeg, Int.zero_add, Int.add_zero, nm_eq, bd_some, bv_some, aI_ok, aL_ok, aS_ok, dv_ok, dw_ok, I_add, I_sub, I_mul, I_neg, I_lt, I_le, I_eq, I_nat, J_add, J_sub, J_mul, J_neg, J_lt, J_le, J_eq, I_l, J_i, I_div, J_div, b2_0, b2_1, b2_nar, nar_0, nar_1, zr_0, zr_1, zr_b2, cmp_eq, cmp_le, cmp_lt, cmp_gt, cmp_ge, mx_I, mn_I, mx_L, mn_L, az_I, if_true, if_false, not_true_eq_false, not_false_eq_true, i_0, i_1, i_2, i_3, i_4, i_5, i_6, i_7, i_8, i_9, i_10, i_11, i_12, i_16, i_18, i_20, i_24, i_28, i_29, i_30, i_31, i_32, i_33, i_34, i_35, i_37, i_40, i_41, i_42, i_43, i_45, i_46, i_47, i_48, i_57, i_59, i_63, i_64, i_96, i_97, i_98, i_99, i_100, i_101, i_102, i_103, i_104, i_105, i_106, i_107, i_108, i_109, i_110, i_111, i_112, i_113, i_122, i_200, i_255, i_256, i_257, i_258, i_355, i_400, i_999, i_1000, i_1200, i_5680, i_9999, i_10000, i_99999, j_0, j_1, j_2, j_3, j_4, j_5, j_6, j_9, j_10, j_11, j_98, j_99, j_100, j_999, j_1000, j_9999, j_10000, j_99999, j_1000000, hz, hy, ha, hc, hk', b2_t hp]
      · have hp : ¬ p_pk V f m := fun q => hk q.2.2
        have hk' : 98 * ((x_val V f - x_pv V f m) / (x_mn V f 1 - x_pm V f m)) ≤ 100 * (x_pv V f m / x_pm V f m) := by omega
        simp (disch := omega) only [fX11_isPicked_166, Int.reduceEq, Int.reduceNe, Int.reduceLT, Int.reduceLE, Int.reduceAdd, Int.reduceSub, Int.reduceMul, Int.reduceNeg, Int.zero_add, Int.add_zero, nm_eq, bd_some, bv_some, aI_ok, aL_ok, aS_ok, dv_ok, dw_ok, I_add, I_sub, I_mul, I_neg, I_lt, I_le, I_eq, I_nat, J_add, J_sub, J_mul, J_neg, J_lt, J_le, J_eq, I_l, J_i, I_div, J_div, b2_0, b2_1, b2_nar, nar_0, nar_1, zr_0, zr_1, zr_b2, cmp_eq, cmp_le, cmp_lt, cmp_gt, cmp_ge, mx_I, mn_I, mx_L, mn_L, az_I, if_true, if_false, not_true_eq_false, not_false_eq_true, i_0, i_1, i_2, i_3, i_4, i_5, i_6, i_7, i_8, i_9, i_10, i_11, i_12, i_16, i_18, i_20, i_24, i_28, i_29, i_30, i_31, i_32, i_33, i_34, i_35, i_37, i_40, i_41, i_42, i_43, i_45, i_46, i_47, i_48, i_57, i_59, i_63, i_64, i_96, i_97, i_98, i_99, i_100, i_101, i_102, i_103, i_104, i_105, i_106, i_107, i_108, i_109, i_110, i_111, i_112, i_113, i_122, i_200, i_255, i_256, i_257, i_258, i_355, i_400, i_999, i_1000, i_1200, i_5680, i_9999, i_10000, i_99999, j_0, j_1, j_2, j_3, j_4, j_5, j_6, j_9, j_10, j_11, j_98, j_99, j_100, j_999, j_1000, j_9999, j_10000, j_99999, j_1000000, hz, hy, ha, hc, hk', b2_f hp]
theorem r_pi14 (hV : vB V) (hL : RLd V ν) (f0 : 0 ≤ f) (f1 : f < 4) (m0 : 0 ≤ m) (m1 : m < 12) : ∀ (d n : Nat) (i : Int), d < n → 0 ≤ i → i + d = sN V → fX11_isPicked_14 N n (I_ f) (I_ m) (J_ (sg i.toNat 0 (g_pw V f m))) (J_ (sg i.toNat 0 (g_pm V f m))) (J_ (sg i.toNat 0 (g_qw V f m))) (J_ (sg i.toNat 0 (g_qm V f m))) (I_ i) ν = some (I_ (b2 (p_pk V f m)), ν) := by
  have hn := hV.1
  unfold vN at hn
  have hR := hL.1
  intro d
  induction d with
  | zero =>
    intro n i h1 h2 h3
    obtain ⟨n, rfl⟩ : ∃ m, n = m + 1 := ⟨n - 1, by omega⟩
    have hle : sN V ≤ i := by omega
    have hi : i = sN V := by omega
    subst hi
    have e := r_pi166 (N := N) (ν := ν) (f := f) (m := m) hV (pw_pv (V := V) (f := f) (m := m) (sN V).toNat 0) (qw_pv (V := V) (f := f) (m := m) (sN V).toNat 0)
    have e1 := qm_pm (V := V) (f := f) (m := m) (sN V).toNat 0
    rw [e1]
    rw [← e]
    simp (disch := omega) only [fX11_isPicked_14, Int.reduceEq, Int.reduceNe, Int.reduceLT, Int.reduceLE, Int.reduceAdd, Int.reduceSub, Int.reduceMul, Int.reduceNeg, Int.zero_add, Int.add_zero, nm_eq, bd_some, bv_some, aI_ok, aL_ok, aS_ok, dv_ok, dw_ok, I_add, I_sub, I_mul, I_neg, I_lt, I_le, I_eq, I_nat, J_add, J_sub, J_mul, J_neg, J_lt, J_le, J_eq, I_l, J_i, I_div, J_div, b2_0, b2_1, b2_nar, nar_0, nar_1, zr_0, zr_1, zr_b2, cmp_eq, cmp_le, cmp_lt, cmp_gt, cmp_ge, mx_I, mn_I, mx_L, mn_L, az_I, if_true, if_false, not_true_eq_false, not_false_eq_true, i_0, i_1, i_2, i_3, i_4, i_5, i_6, i_7, i_8, i_9, i_10, i_11, i_12, i_16, i_18, i_20, i_24, i_28, i_29, i_30, i_31, i_32, i_33, i_34, i_35, i_37, i_40, i_41, i_42, i_43, i_45, i_46, i_47, i_48, i_57, i_59, i_63, i_64, i_96, i_97, i_98, i_99, i_100, i_101, i_102, i_103, i_104, i_105, i_106, i_107, i_108, i_109, i_110, i_111, i_112, i_113, i_122, i_200, i_255, i_256, i_257, i_258, i_355, i_400, i_999, i_1000, i_1200, i_5680, i_9999, i_10000, i_99999, j_0, j_1, j_2, j_3, j_4, j_5, j_6, j_9, j_10, j_11, j_98, j_99, j_100, j_999, j_1000, j_9999, j_10000, j_99999, j_1000000, RB_n hR, hle]
    rfl
  | succ d ih =>
    intro n i h1 h2 h3
    obtain ⟨n, rfl⟩ : ∃ m, n = m + 1 := ⟨n - 1, by omega⟩
    have hle : ¬ sN V ≤ i := by omega
    have hlt : i < sN V := by omega
    have hv := hV.2.1 i h2 hlt
    unfold vS at hv
    have r19 := (hL.2.1.2 i h2 hlt).2.1
    have hm := mul_in (a := s_nt V i) (A := 99999) (b := s_mn V i) (B := 999) (by omega) (by omega) (by omega) (by omega)
    have hi2 := ih n (i + 1) (by omega) (by omega) (by omega)
    rw [sg_step h2, sg_step h2, sg_step h2, sg_step h2] at hi2
    by_cases he : s_li V i = 1 ∧ s_mk V i = 1
    · by_cases hf : s_fm V i = f
      · have hx : p_ex V f i := ⟨he.1, hf, he.2⟩
        by_cases hq : s_mo V i = m
        · have z1 : g_pw V f m i = s_nt V i * s_mn V i := by unfold g_pw; rw [if_pos ⟨hx, hq⟩]
          have z2 : g_pm V f m i = s_mn V i := by unfold g_pm; rw [if_pos ⟨hx, hq⟩]
          have z3 : g_qw V f m i = 0 := by unfold g_qw; rw [if_neg (fun w => w.2 hq)]
          have z4 : g_qm V f m i = 0 := by unfold g_qm; rw [if_neg (fun w => w.2 hq)]
          rw [z1, z2, z3, z4, Int.add_zero, Int.add_zero] at hi2
          rw [← hi2]
          simp (disch := omega) only [fX11_isPicked_14, fX11_isPicked_65, fX11_isPicked_98, fX11_isPicked_119, fX11_isPicked_135, Int.reduceEq, Int.reduceNe, Int.reduceLT, Int.reduceLE, Int.reduceAdd, Int.reduceSub, Int.reduceMul, Int.reduceNeg, Int.zero_add, Int.add_zero, nm_eq, bd_some, bv_some, aI_ok, aL_ok, aS_ok, dv_ok, dw_ok, I_add, I_sub, I_mul, I_neg, I_lt, I_le, I_eq, I_nat, J_add, J_sub, J_mul, J_neg, J_lt, J_le, J_eq, I_l, J_i, I_div, J_div, b2_0, b2_1, b2_nar, nar_0, nar_1, zr_0, zr_1, zr_b2, cmp_eq, cmp_le, cmp_lt, cmp_gt, cmp_ge, mx_I, mn_I, mx_L, mn_L, az_I, if_true, if_false, not_true_eq_false, not_false_eq_true, i_0, i_1, i_2, i_3, i_4, i_5, i_6, i_7, i_8, i_9, i_10, i_11, i_12, i_16, i_18, i_20, i_24, i_28, i_29, i_30, i_31, i_32, i_33, i_34, i_35, i_37, i_40, i_41, i_42, i_43, i_45, i_46, i_47, i_48, i_57, i_59, i_63, i_64, i_96, i_97, i_98, i_99, i_100, i_101, i_102, i_103, i_104, i_105, i_106, i_107, i_108, i_109, i_110, i_111, i_112, i_113, i_122, i_200, i_255, i_256, i_257, i_258, i_355, i_400, i_999, i_1000, i_1200, i_5680, i_9999, i_10000, i_99999, j_0, j_1, j_2, j_3, j_4, j_5, j_6, j_9, j_10, j_11, j_98, j_99, j_100, j_999, j_1000, j_9999, j_10000, j_99999, j_1000000, RB_n hR, hle, r_isExp hV hR, b2_t he, r_of1 hV hR, hf, r_of4 hV hR, hq, r19, r_of5 hV hR]
        · have z1 : g_pw V f m i = 0 := by unfold g_pw; rw [if_neg (fun w => hq w.2)]
          have z2 : g_pm V f m i = 0 := by unfold g_pm; rw [if_neg (fun w => hq w.2)]
          have z3 : g_qw V f m i = s_nt V i * s_mn V i := by unfold g_qw; rw [if_pos ⟨hx, hq⟩]
          have z4 : g_qm V f m i = s_mn V i := by unfold g_qm; rw [if_pos ⟨hx, hq⟩]
          rw [z1, z2, z3, z4, Int.add_zero, Int.add_zero] at hi2
          rw [← hi2]
          simp (disch := omega) only [fX11_isPicked_14, fX11_isPicked_65, fX11_isPicked_98, fX11_isPicked_119, fX11_isPicked_135, Int.reduceEq, Int.reduceNe, Int.reduceLT, Int.reduceLE, Int.reduceAdd, Int.reduceSub, Int.reduceMul, Int.reduceNeg, Int.zero_add, Int.add_zero, nm_eq, bd_some, bv_some, aI_ok, aL_ok, aS_ok, dv_ok, dw_ok, I_add, I_sub, I_mul, I_neg, I_lt, I_le, I_eq, I_nat, J_add, J_sub, J_mul, J_neg, J_lt, J_le, J_eq, I_l, J_i, I_div, J_div, b2_0, b2_1, b2_nar, nar_0, nar_1, zr_0, zr_1, zr_b2, cmp_eq, cmp_le, cmp_lt, cmp_gt, cmp_ge, mx_I, mn_I, mx_L, mn_L, az_I, if_true, if_false, not_true_eq_false, not_false_eq_true, i_0, i_1, i_2, i_3, i_4, i_5, i_6, i_7, i_8, i_9, i_10, i_11, i_12, i_16, i_18, i_20, i_24, i_28, i_29, i_30, i_31, i_32, i_33, i_34, i_35, i_37, i_40, i_41, i_42, i_43, i_45, i_46, i_47, i_48, i_57, i_59, i_63, i_64, i_96, i_97, i_98, i_99, i_100, i_101, i_102, i_103, i_104, i_105, i_106, i_107, i_108, i_109, i_110, i_111, i_112, i_113, i_122, i_200, i_255, i_256, i_257, i_258, i_355, i_400, i_999, i_1000, i_1200, i_5680, i_9999, i_10000, i_99999, j_0, j_1, j_2, j_3, j_4, j_5, j_6, j_9, j_10, j_11, j_98, j_99, j_100, j_999, j_1000, j_9999, j_10000, j_99999, j_1000000, RB_n hR, hle, r_isExp hV hR, b2_t he, r_of1 hV hR, hf, r_of4 hV hR, hq, r19, r_of5 hV hR]
      · have hx : ¬ p_ex V f i := fun w => hf w.2.1
        have z1 : g_pw V f m i = 0 := by unfold g_pw; rw [if_neg (fun w => hx w.1)]
        have z2 : g_pm V f m i = 0 := by unfold g_pm; rw [if_neg (fun w => hx w.1)]
        have z3 : g_qw V f m i = 0 := by unfold g_qw; rw [if_neg (fun w => hx w.1)]
        have z4 : g_qm V f m i = 0 := by unfold g_qm; rw [if_neg (fun w => hx w.1)]
        rw [z1, z2, z3, z4, Int.add_zero, Int.add_zero, Int.add_zero, Int.add_zero] at hi2
        rw [← hi2]
        simp (disch := omega) only [fX11_isPicked_14, Int.reduceEq, Int.reduceNe, Int.reduceLT, Int.reduceLE, Int.reduceAdd, Int.reduceSub, Int.reduceMul, Int.reduceNeg, Int.zero_add, Int.add_zero, nm_eq, bd_some, bv_some, aI_ok, aL_ok, aS_ok, dv_ok, dw_ok, I_add, I_sub, I_mul, I_neg, I_lt, I_le, I_eq, I_nat, J_add, J_sub, J_mul, J_neg, J_lt, J_le, J_eq, I_l, J_i, I_div, J_div, b2_0, b2_1, b2_nar, nar_0, nar_1, zr_0, zr_1, zr_b2, cmp_eq, cmp_le, cmp_lt, cmp_gt, cmp_ge, mx_I, mn_I, mx_L, mn_L, az_I, if_true, if_false, not_true_eq_false, not_false_eq_true, i_0, i_1, i_2, i_3, i_4, i_5, i_6, i_7, i_8, i_9, i_10, i_11, i_12, i_16, i_18, i_20, i_24, i_28, i_29, i_30, i_31, i_32, i_33, i_34, i_35, i_37, i_40, i_41, i_42, i_43, i_45, i_46, i_47, i_48, i_57, i_59, i_63, i_64, i_96, i_97, i_98, i_99, i_100, i_101, i_102, i_103, i_104, i_105, i_106, i_107, i_108, i_109, i_110, i_111, i_112, i_113, i_122, i_200, i_255, i_256, i_257, i_258, i_355, i_400, i_999, i_1000, i_1200, i_5680, i_9999, i_10000, i_99999, j_0, j_1, j_2, j_3, j_4, j_5, j_6, j_9, j_10, j_11, j_98, j_99, j_100, j_999, j_1000, j_9999, j_10000, j_99999, j_1000000, RB_n hR, hle, r_isExp hV hR, b2_t he, r_of1 hV hR, hf]
    · have hx : ¬ p_ex V f i := fun w => he ⟨w.1, w.2.2⟩
      have z1 : g_pw V f m i = 0 := by unfold g_pw; rw [if_neg (fun w => hx w.1)]
      have z2 : g_pm V f m i = 0 := by unfold g_pm; rw [if_neg (fun w => hx w.1)]
      have z3 : g_qw V f m i = 0 := by unfold g_qw; rw [if_neg (fun w => hx w.1)]
      have z4 : g_qm V f m i = 0 := by unfold g_qm; rw [if_neg (fun w => hx w.1)]
      rw [z1, z2, z3, z4, Int.add_zero, Int.add_zero, Int.add_zero, Int.add_zero] at hi2
      rw [← hi2]
      simp (disch := omega) only [fX11_isPicked_14, Int.reduceEq, Int.reduceNe, Int.reduceLT, Int.reduceLE, Int.reduceAdd, Int.reduceSub, Int.reduceMul, Int.reduceNeg, Int.zero_add, Int.add_zero, nm_eq, bd_some, bv_some, aI_ok, aL_ok, aS_ok, dv_ok, dw_ok, I_add, I_sub, I_mul, I_neg, I_lt, I_le, I_eq, I_nat, J_add, J_sub, J_mul, J_neg, J_lt, J_le, J_eq, I_l, J_i, I_div, J_div, b2_0, b2_1, b2_nar, nar_0, nar_1, zr_0, zr_1, zr_b2, cmp_eq, cmp_le, cmp_lt, cmp_gt, cmp_ge, mx_I, mn_I, mx_L, mn_L, az_I, if_true, if_false, not_true_eq_false, not_false_eq_true, i_0, i_1, i_2, i_3, i_4, i_5, i_6, i_7, i_8, i_9, i_10, i_11, i_12, i_16, i_18, i_20, i_24, i_28, i_29, i_30, i_31, i_32, i_33, i_34, i_35, i_37, i_40, i_41, i_42, i_43, i_45, i_46, i_47, i_48, i_57, i_59, i_63, i_64, i_96, i_97, i_98, i_99, i_100, i_101, i_102, i_103, i_104, i_105, i_106, i_107, i_108, i_109, i_110, i_111, i_112, i_113, i_122, i_200, i_255, i_256, i_257, i_258, i_355, i_400, i_999, i_1000, i_1200, i_5680, i_9999, i_10000, i_99999, j_0, j_1, j_2, j_3, j_4, j_5, j_6, j_9, j_10, j_11, j_98, j_99, j_100, j_999, j_1000, j_9999, j_10000, j_99999, j_1000000, RB_n hR, hle, r_isExp hV hR, b2_f he]
theorem or_0 (a : Int32) : a ||| (I_ 0) = a := by
  show a ||| (0 : Int32) = a
  simp
theorem r_pk34 (hV : vB V) (hN : 100 ≤ N) (hL : RLd V ν) (f0 : 0 ≤ f) (f1 : f < 4) : ∀ (d n : Nat) (m : Int) (a : Int32), d < n → 0 ≤ m → m + d = 12 → fX11_picked_34 N n (I_ f) a (I_ m) ν = some (pkf V f d m a, ν) := by
  have hn := hV.1
  unfold vN at hn
  intro d
  induction d with
  | zero =>
    intro n m a h1 h2 h3
    obtain ⟨n, rfl⟩ : ∃ m, n = m + 1 := ⟨n - 1, by omega⟩
    have hle : 12 ≤ m := by omega
    simp (disch := omega) only [fX11_picked_34, Int.reduceEq, Int.reduceNe, Int.reduceLT, Int.reduceLE, Int.reduceAdd, Int.reduceSub, Int.reduceMul, Int.reduceNeg, Int.zero_add, Int.add_zero, nm_eq, bd_some, bv_some, aI_ok, aL_ok, aS_ok, dv_ok, dw_ok, I_add, I_sub, I_mul, I_neg, I_lt, I_le, I_eq, I_nat, J_add, J_sub, J_mul, J_neg, J_lt, J_le, J_eq, I_l, J_i, I_div, J_div, b2_0, b2_1, b2_nar, nar_0, nar_1, zr_0, zr_1, zr_b2, cmp_eq, cmp_le, cmp_lt, cmp_gt, cmp_ge, mx_I, mn_I, mx_L, mn_L, az_I, if_true, if_false, not_true_eq_false, not_false_eq_true, i_0, i_1, i_2, i_3, i_4, i_5, i_6, i_7, i_8, i_9, i_10, i_11, i_12, i_16, i_18, i_20, i_24, i_28, i_29, i_30, i_31, i_32, i_33, i_34, i_35, i_37, i_40, i_41, i_42, i_43, i_45, i_46, i_47, i_48, i_57, i_59, i_63, i_64, i_96, i_97, i_98, i_99, i_100, i_101, i_102, i_103, i_104, i_105, i_106, i_107, i_108, i_109, i_110, i_111, i_112, i_113, i_122, i_200, i_255, i_256, i_257, i_258, i_355, i_400, i_999, i_1000, i_1200, i_5680, i_9999, i_10000, i_99999, j_0, j_1, j_2, j_3, j_4, j_5, j_6, j_9, j_10, j_11, j_98, j_99, j_100, j_999, j_1000, j_9999, j_10000, j_99999, j_1000000, hle, pkf]
  | succ d ih =>
    intro n m a h1 h2 h3
    obtain ⟨n, rfl⟩ : ∃ m, n = m + 1 := ⟨n - 1, by omega⟩
    have hle : ¬ 12 ≤ m := by omega
    have e1 : fX11_isPicked_14 N N (I_ f) (I_ m) (J_ 0) (J_ 0) (J_ 0) (J_ 0) (I_ 0) ν = some (I_ (b2 (p_pk V f m)), ν) := r_pi14 (N := N) hV hL f0 f1 h2 (by omega) (sN V).toNat N 0 (by omega) (by omega) (by omega)
    unfold pkf
    rw [← ih n (m + 1) _ (by omega) (by omega) (by omega)]
    by_cases hp : p_pk V f m
    · have e : (if p_pk V f m then a ||| ((1 : Int32) <<< (I_ m &&& 31)) else a) = a ||| ((1 : Int32) <<< (I_ m &&& 31)) := if_pos hp
      rw [e]
      rw [b2_t hp] at e1
      simp (disch := omega) only [fX11_picked_34, fX11_isPicked, Int.reduceEq, Int.reduceNe, Int.reduceLT, Int.reduceLE, Int.reduceAdd, Int.reduceSub, Int.reduceMul, Int.reduceNeg, Int.zero_add, Int.add_zero, nm_eq, bd_some, bv_some, aI_ok, aL_ok, aS_ok, dv_ok, dw_ok, I_add, I_sub, I_mul, I_neg, I_lt, I_le, I_eq, I_nat, J_add, J_sub, J_mul, J_neg, J_lt, J_le, J_eq, I_l, J_i, I_div, J_div, b2_0, b2_1, b2_nar, nar_0, nar_1, zr_0, zr_1, zr_b2, cmp_eq, cmp_le, cmp_lt, cmp_gt, cmp_ge, mx_I, mn_I, mx_L, mn_L, az_I, if_true, if_false, not_true_eq_false, not_false_eq_true, i_0, i_1, i_2, i_3, i_4, i_5, i_6, i_7, i_8, i_9, i_10, i_11, i_12, i_16, i_18, i_20, i_24, i_28, i_29, i_30, i_31, i_32, i_33, i_34, i_35, i_37, i_40, i_41, i_42, i_43, i_45, i_46, i_47, i_48, i_57, i_59, i_63, i_64, i_96, i_97, i_98, i_99, i_100, i_101, i_102, i_103, i_104, i_105, i_106, i_107, i_108, i_109, i_110, i_111, i_112, i_113, i_122, i_200, i_255, i_256, i_257, i_258, i_355, i_400, i_999, i_1000, i_1200, i_5680, i_9999, i_10000, i_99999, j_0, j_1, j_2, j_3, j_4, j_5, j_6, j_9, j_10, j_11, j_98, j_99, j_100, j_999, j_1000, j_9999, j_10000, j_99999, j_1000000, hle, e1]
    · have e : (if p_pk V f m then a ||| ((1 : Int32) <<< (I_ m &&& 31)) else a) = a := if_neg hp
      rw [e]
      rw [b2_f hp] at e1
      simp (disch := omega) only [fX11_picked_34, fX11_isPicked, Int.reduceEq, Int.reduceNe, Int.reduceLT, Int.reduceLE, Int.reduceAdd, Int.reduceSub, Int.reduceMul, Int.reduceNeg, Int.zero_add, Int.add_zero, nm_eq, bd_some, bv_some, aI_ok, aL_ok, aS_ok, dv_ok, dw_ok, I_add, I_sub, I_mul, I_neg, I_lt, I_le, I_eq, I_nat, J_add, J_sub, J_mul, J_neg, J_lt, J_le, J_eq, I_l, J_i, I_div, J_div, b2_0, b2_1, b2_nar, nar_0, nar_1, zr_0, zr_1, zr_b2, cmp_eq, cmp_le, cmp_lt, cmp_gt, cmp_ge, mx_I, mn_I, mx_L, mn_L, az_I, if_true, if_false, not_true_eq_false, not_false_eq_true, i_0, i_1, i_2, i_3, i_4, i_5, i_6, i_7, i_8, i_9, i_10, i_11, i_12, i_16, i_18, i_20, i_24, i_28, i_29, i_30, i_31, i_32, i_33, i_34, i_35, i_37, i_40, i_41, i_42, i_43, i_45, i_46, i_47, i_48, i_57, i_59, i_63, i_64, i_96, i_97, i_98, i_99, i_100, i_101, i_102, i_103, i_104, i_105, i_106, i_107, i_108, i_109, i_110, i_111, i_112, i_113, i_122, i_200, i_255, i_256, i_257, i_258, i_355, i_400, i_999, i_1000, i_1200, i_5680, i_9999, i_10000, i_99999, j_0, j_1, j_2, j_3, j_4, j_5, j_6, j_9, j_10, j_11, j_98, j_99, j_100, j_999, j_1000, j_9999, j_10000, j_99999, j_1000000, hle, e1, or_0]
end
