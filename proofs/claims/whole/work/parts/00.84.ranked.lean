/-! ranked, on both sides. -/
def rkf (V : Vw) (p : Int) : Nat → Int → Int
  | 0, _ => -1
  | d + 1, f => if x_pl V f = p then f else rkf V p d (f + 1)
def x_rk (V : Vw) (p : Int) : Int := rkf V p (fN V).toNat 0
section
variable {N : Nat} {b : Nat} {V : Vw} {ν μ : Mem} {f p : Int}
theorem g_pl_in (V : Vw) (f o : Int) : 0 ≤ g_pl V f o ∧ g_pl V f o ≤ 1 := by
  unfold g_pl
  split <;> omega
theorem g_pl_lt : ∀ (d : Nat) (i : Int), i ≤ f → f < i + d → sg d i (g_pl V f) ≤ d - 1 := by
  intro d
  induction d with
  | zero => intro i a c; omega
  | succ d ih =>
    intro i a c
    rw [sg]
    have g := g_pl_in V f i
    by_cases h : i = f
    · have e : g_pl V f i = 0 := by
        unfold g_pl
        rw [if_neg]
        subst h
        omega
      have := sg_nn (g := g_pl V f) (d := d) (i := i + 1) (fun z _ _ => g_pl_in V f z)
      omega
    · have := ih (i + 1) (by omega) (by omega)
      omega
theorem x_pl_lt (f0 : 0 ≤ f) (f1 : f < fN V) : 0 ≤ x_pl V f ∧ x_pl V f < fN V := by
  have := sg_nn (g := g_pl V f) (d := (fN V).toNat) (i := 0) (fun z _ _ => g_pl_in V f z)
  have := g_pl_lt (V := V) (f := f) (fN V).toNat 0 (by omega) (by omega)
  unfold x_pl
  omega
theorem rkf_no (h : p < 0 ∨ fN V ≤ p) : ∀ (d : Nat) (f : Int), 0 ≤ f → f + d = fN V → rkf V p d f = -1 := by
  intro d
  induction d with
  | zero => intro f a c; rfl
  | succ d ih =>
    intro f a c
    have := x_pl_lt (V := V) (f := f) a (by omega)
    unfold rkf
    rw [if_neg (by omega)]
    exact ih (f + 1) (by omega) (by omega)
theorem rkf_in : ∀ (d : Nat) (f : Int), 0 ≤ f → f + d = fN V → -1 ≤ rkf V p d f ∧ rkf V p d f < max (fN V) 1 := by
  intro d
  induction d with
  | zero => intro f a c; unfold rkf; omega
  | succ d ih =>
    intro f a c
    have := ih (f + 1) (by omega) (by omega)
    unfold rkf
    split <;> omega
theorem c_rk33 (hV : vB V) (hN : 100 ≤ N) (hK : CK b V μ) (hD : DU V μ) (p0 : 0 ≤ p) (p1 : p < 4) : ∀ (d n : Nat) (f : Int), d < n → 0 ≤ f → f + d = fN V → fX10_ranked_33 N n (I_ p) (I_ f) μ = some (I_ (rkf V p d f), μ) := by
  have hn := hV.1
  unfold vN at hn
  have hB := hK.1
  intro d
  induction d with
  | zero =>
    intro n f h1 h2 h3
    obtain ⟨n, rfl⟩ : ∃ m, n = m + 1 := ⟨n - 1, by omega⟩
    have hle : fN V ≤ f := by omega
    simp (disch := omega) only [fX10_ranked_33, Int.reduceEq, Int.reduceNe, Int.reduceLT, Int.reduceLE, Int.reduceAdd, Int.reduceSub, Int.reduceMul, Int.reduceNeg, Int.zero_add, Int.add_zero, nm_eq, bd_some, bv_some, aI_ok, aL_ok, aS_ok, dv_ok, dw_ok, I_add, I_sub, I_mul, I_neg, I_lt, I_le, I_eq, I_nat, J_add, J_sub, J_mul, J_neg, J_lt, J_le, J_eq, I_l, J_i, I_div, J_div, b2_0, b2_1, b2_nar, nar_0, nar_1, zr_0, zr_1, zr_b2, cmp_eq, cmp_le, cmp_lt, cmp_gt, cmp_ge, mx_I, mn_I, mx_L, mn_L, az_I, if_true, if_false, not_true_eq_false, not_false_eq_true, i_0, i_1, i_2, i_3, i_4, i_5, i_6, i_7, i_8, i_9, i_10, i_11, i_12, i_16, i_18, i_20, i_24, i_28, i_29, i_30, i_31, i_32, i_33, i_34, i_35, i_37, i_40, i_41, i_42, i_43, i_45, i_46, i_47, i_48, i_57, i_59, i_63, i_64, i_96, i_97, i_98, i_99, i_100, i_101, i_102, i_103, i_104, i_105, i_106, i_107, i_108, i_109, i_110, i_111, i_112, i_113, i_122, i_200, i_255, i_256, i_257, i_258, i_355, i_400, i_999, i_1000, i_1200, i_5680, i_9999, i_10000, i_99999, j_0, j_1, j_2, j_3, j_4, j_5, j_6, j_9, j_10, j_11, j_98, j_99, j_100, j_999, j_1000, j_9999, j_10000, j_99999, j_1000000, CB_f hB, hK.2, gB_k hB.1, hle, rkf]
  | succ d ih =>
    intro n f h1 h2 h3
    obtain ⟨n, rfl⟩ : ∃ m, n = m + 1 := ⟨n - 1, by omega⟩
    have hle : ¬ fN V ≤ f := by omega
    have hp := x_pl_lt (V := V) (f := f) h2 (by omega)
    unfold rkf
    by_cases hc : x_pl V f = p
    · rw [if_pos hc]
      have hc' : p = x_pl V f := hc.symm
      subst hc'
      simp (disch := omega) only [fX10_ranked_33, Int.reduceEq, Int.reduceNe, Int.reduceLT, Int.reduceLE, Int.reduceAdd, Int.reduceSub, Int.reduceMul, Int.reduceNeg, Int.zero_add, Int.add_zero, nm_eq, bd_some, bv_some, aI_ok, aL_ok, aS_ok, dv_ok, dw_ok, I_add, I_sub, I_mul, I_neg, I_lt, I_le, I_eq, I_nat, J_add, J_sub, J_mul, J_neg, J_lt, J_le, J_eq, I_l, J_i, I_div, J_div, b2_0, b2_1, b2_nar, nar_0, nar_1, zr_0, zr_1, zr_b2, cmp_eq, cmp_le, cmp_lt, cmp_gt, cmp_ge, mx_I, mn_I, mx_L, mn_L, az_I, if_true, if_false, not_true_eq_false, not_false_eq_true, i_0, i_1, i_2, i_3, i_4, i_5, i_6, i_7, i_8, i_9, i_10, i_11, i_12, i_16, i_18, i_20, i_24, i_28, i_29, i_30, i_31, i_32, i_33, i_34, i_35, i_37, i_40, i_41, i_42, i_43, i_45, i_46, i_47, i_48, i_57, i_59, i_63, i_64, i_96, i_97, i_98, i_99, i_100, i_101, i_102, i_103, i_104, i_105, i_106, i_107, i_108, i_109, i_110, i_111, i_112, i_113, i_122, i_200, i_255, i_256, i_257, i_258, i_355, i_400, i_999, i_1000, i_1200, i_5680, i_9999, i_10000, i_99999, j_0, j_1, j_2, j_3, j_4, j_5, j_6, j_9, j_10, j_11, j_98, j_99, j_100, j_999, j_1000, j_9999, j_10000, j_99999, j_1000000, CB_f hB, hK.2, gB_k hB.1, hle, c_pl hV hN hD]
    · rw [if_neg hc]
      simp (disch := omega) only [fX10_ranked_33, Int.reduceEq, Int.reduceNe, Int.reduceLT, Int.reduceLE, Int.reduceAdd, Int.reduceSub, Int.reduceMul, Int.reduceNeg, Int.zero_add, Int.add_zero, nm_eq, bd_some, bv_some, aI_ok, aL_ok, aS_ok, dv_ok, dw_ok, I_add, I_sub, I_mul, I_neg, I_lt, I_le, I_eq, I_nat, J_add, J_sub, J_mul, J_neg, J_lt, J_le, J_eq, I_l, J_i, I_div, J_div, b2_0, b2_1, b2_nar, nar_0, nar_1, zr_0, zr_1, zr_b2, cmp_eq, cmp_le, cmp_lt, cmp_gt, cmp_ge, mx_I, mn_I, mx_L, mn_L, az_I, if_true, if_false, not_true_eq_false, not_false_eq_true, i_0, i_1, i_2, i_3, i_4, i_5, i_6, i_7, i_8, i_9, i_10, i_11, i_12, i_16, i_18, i_20, i_24, i_28, i_29, i_30, i_31, i_32, i_33, i_34, i_35, i_37, i_40, i_41, i_42, i_43, i_45, i_46, i_47, i_48, i_57, i_59, i_63, i_64, i_96, i_97, i_98, i_99, i_100, i_101, i_102, i_103, i_104, i_105, i_106, i_107, i_108, i_109, i_110, i_111, i_112, i_113, i_122, i_200, i_255, i_256, i_257, i_258, i_355, i_400, i_999, i_1000, i_1200, i_5680, i_9999, i_10000, i_99999, j_0, j_1, j_2, j_3, j_4, j_5, j_6, j_9, j_10, j_11, j_98, j_99, j_100, j_999, j_1000, j_9999, j_10000, j_99999, j_1000000, CB_f hB, hK.2, gB_k hB.1, hle, c_pl hV hN hD, hc, ih]
theorem c_rk (hV : vB V) (hN : 100 ≤ N) (hK : CK b V μ) (p0 : -2147483648 ≤ p) (p1 : p < 2147483648) : ∃ μ', fX10_ranked N (I_ p) μ = some (I_ (x_rk V p), μ') ∧ Fr P_du μ μ' := by
  have hn := hV.1
  unfold vN at hn
  have hB := hK.1
  by_cases h0 : p < 0
  · refine ⟨μ, ?_, Fr.rf⟩
    have e : x_rk V p = -1 := rkf_no (Or.inl h0) _ _ (by omega) (by omega)
    rw [e]
    simp (disch := omega) only [fX10_ranked, Int.reduceEq, Int.reduceNe, Int.reduceLT, Int.reduceLE, Int.reduceAdd, Int.reduceSub, Int.reduceMul, Int.reduceNeg, Int.zero_add, Int.add_zero, nm_eq, bd_some, bv_some, aI_ok, aL_ok, aS_ok, dv_ok, dw_ok, I_add, I_sub, I_mul, I_neg, I_lt, I_le, I_eq, I_nat, J_add, J_sub, J_mul, J_neg, J_lt, J_le, J_eq, I_l, J_i, I_div, J_div, b2_0, b2_1, b2_nar, nar_0, nar_1, zr_0, zr_1, zr_b2, cmp_eq, cmp_le, cmp_lt, cmp_gt, cmp_ge, mx_I, mn_I, mx_L, mn_L, az_I, if_true, if_false, not_true_eq_false, not_false_eq_true, i_0, i_1, i_2, i_3, i_4, i_5, i_6, i_7, i_8, i_9, i_10, i_11, i_12, i_16, i_18, i_20, i_24, i_28, i_29, i_30, i_31, i_32, i_33, i_34, i_35, i_37, i_40, i_41, i_42, i_43, i_45, i_46, i_47, i_48, i_57, i_59, i_63, i_64, i_96, i_97, i_98, i_99, i_100, i_101, i_102, i_103, i_104, i_105, i_106, i_107, i_108, i_109, i_110, i_111, i_112, i_113, i_122, i_200, i_255, i_256, i_257, i_258, i_355, i_400, i_999, i_1000, i_1200, i_5680, i_9999, i_10000, i_99999, j_0, j_1, j_2, j_3, j_4, j_5, j_6, j_9, j_10, j_11, j_98, j_99, j_100, j_999, j_1000, j_9999, j_10000, j_99999, j_1000000, h0]
  · by_cases h1 : p < fN V
    · obtain ⟨μ', e1, e2, e3⟩ := c_as (N := N) hV hN hB
      have e4 : fX10_ranked_33 N N (I_ p) (I_ 0) μ' = some (I_ (x_rk V p), μ') := c_rk33 (N := N) hV hN (hK.du e2) e3 (by omega) (by omega) (fN V).toNat N 0 (by omega) (by omega) (by omega)
      refine ⟨μ', ?_, e2⟩
      simp (disch := omega) only [fX10_ranked, Int.reduceEq, Int.reduceNe, Int.reduceLT, Int.reduceLE, Int.reduceAdd, Int.reduceSub, Int.reduceMul, Int.reduceNeg, Int.zero_add, Int.add_zero, nm_eq, bd_some, bv_some, aI_ok, aL_ok, aS_ok, dv_ok, dw_ok, I_add, I_sub, I_mul, I_neg, I_lt, I_le, I_eq, I_nat, J_add, J_sub, J_mul, J_neg, J_lt, J_le, J_eq, I_l, J_i, I_div, J_div, b2_0, b2_1, b2_nar, nar_0, nar_1, zr_0, zr_1, zr_b2, cmp_eq, cmp_le, cmp_lt, cmp_gt, cmp_ge, mx_I, mn_I, mx_L, mn_L, az_I, if_true, if_false, not_true_eq_false, not_false_eq_true, i_0, i_1, i_2, i_3, i_4, i_5, i_6, i_7, i_8, i_9, i_10, i_11, i_12, i_16, i_18, i_20, i_24, i_28, i_29, i_30, i_31, i_32, i_33, i_34, i_35, i_37, i_40, i_41, i_42, i_43, i_45, i_46, i_47, i_48, i_57, i_59, i_63, i_64, i_96, i_97, i_98, i_99, i_100, i_101, i_102, i_103, i_104, i_105, i_106, i_107, i_108, i_109, i_110, i_111, i_112, i_113, i_122, i_200, i_255, i_256, i_257, i_258, i_355, i_400, i_999, i_1000, i_1200, i_5680, i_9999, i_10000, i_99999, j_0, j_1, j_2, j_3, j_4, j_5, j_6, j_9, j_10, j_11, j_98, j_99, j_100, j_999, j_1000, j_9999, j_10000, j_99999, j_1000000, h0, hK.2, gB_k hB.1, CB_f hB, h1, e1, e4]
    · refine ⟨μ, ?_, Fr.rf⟩
      have e : x_rk V p = -1 := rkf_no (Or.inr (by omega)) _ _ (by omega) (by omega)
      rw [e]
      simp (disch := omega) only [fX10_ranked, Int.reduceEq, Int.reduceNe, Int.reduceLT, Int.reduceLE, Int.reduceAdd, Int.reduceSub, Int.reduceMul, Int.reduceNeg, Int.zero_add, Int.add_zero, nm_eq, bd_some, bv_some, aI_ok, aL_ok, aS_ok, dv_ok, dw_ok, I_add, I_sub, I_mul, I_neg, I_lt, I_le, I_eq, I_nat, J_add, J_sub, J_mul, J_neg, J_lt, J_le, J_eq, I_l, J_i, I_div, J_div, b2_0, b2_1, b2_nar, nar_0, nar_1, zr_0, zr_1, zr_b2, cmp_eq, cmp_le, cmp_lt, cmp_gt, cmp_ge, mx_I, mn_I, mx_L, mn_L, az_I, if_true, if_false, not_true_eq_false, not_false_eq_true, i_0, i_1, i_2, i_3, i_4, i_5, i_6, i_7, i_8, i_9, i_10, i_11, i_12, i_16, i_18, i_20, i_24, i_28, i_29, i_30, i_31, i_32, i_33, i_34, i_35, i_37, i_40, i_41, i_42, i_43, i_45, i_46, i_47, i_48, i_57, i_59, i_63, i_64, i_96, i_97, i_98, i_99, i_100, i_101, i_102, i_103, i_104, i_105, i_106, i_107, i_108, i_109, i_110, i_111, i_112, i_113, i_122, i_200, i_255, i_256, i_257, i_258, i_355, i_400, i_999, i_1000, i_1200, i_5680, i_9999, i_10000, i_99999, j_0, j_1, j_2, j_3, j_4, j_5, j_6, j_9, j_10, j_11, j_98, j_99, j_100, j_999, j_1000, j_9999, j_10000, j_99999, j_1000000, h0, hK.2, gB_k hB.1, CB_f hB, h1]
theorem r_rk20 (hV : vB V) (hW : vO V) (hN : 100 ≤ N) (f0 : 0 ≤ f) (f1 : f < fN V) (k7 : Int32 → Int32 → Mem → Option (Int32 × Mem)) (v : Int32) : ∀ (d n : Nat) (i acc : Int) (ν : Mem), d < n → 0 ≤ i → i + d = fN V → 0 ≤ acc → acc ≤ i → RKd N V ν → ∃ ν', fX11_ranked_20 N k7 n v (I_ f) (I_ acc) (I_ i) ν = fX11_ranked_77 N k7 v (I_ f) (I_ (acc + sg d i (g_pl V f))) ν' ∧ Fr P_rq ν ν' ∧ RKd N V ν' := by
  have hn := hV.1
  unfold vN at hn
  have hf := x_du_in (V := V) (f := f)
  intro d
  induction d with
  | zero =>
    intro n i acc ν h1 h2 h3 h4 h5 hK
    obtain ⟨n, rfl⟩ : ∃ m, n = m + 1 := ⟨n - 1, by omega⟩
    have hle : fN V ≤ i := by omega
    refine ⟨ν, ?_, Fr.rf, hK⟩
    simp (disch := omega) only [fX11_ranked_20, Int.reduceEq, Int.reduceNe, Int.reduceLT, Int.reduceLE, Int.reduceAdd, Int.reduceSub, Int.reduceMul, Int.reduceNeg, Int.zero_add, Int.add_zero, nm_eq, bd_some, bv_some, aI_ok, aL_ok, aS_ok, dv_ok, dw_ok, I_add, I_sub, I_mul, I_neg, I_lt, I_le, I_eq, I_nat, J_add, J_sub, J_mul, J_neg, J_lt, J_le, J_eq, I_l, J_i, I_div, J_div, b2_0, b2_1, b2_nar, nar_0, nar_1, zr_0, zr_1, zr_b2, cmp_eq, cmp_le, cmp_lt, cmp_gt, cmp_ge, mx_I, mn_I, mx_L, mn_L, az_I, if_true, if_false, not_true_eq_false, not_false_eq_true, i_0, i_1, i_2, i_3, i_4, i_5, i_6, i_7, i_8, i_9, i_10, i_11, i_12, i_16, i_18, i_20, i_24, i_28, i_29, i_30, i_31, i_32, i_33, i_34, i_35, i_37, i_40, i_41, i_42, i_43, i_45, i_46, i_47, i_48, i_57, i_59, i_63, i_64, i_96, i_97, i_98, i_99, i_100, i_101, i_102, i_103, i_104, i_105, i_106, i_107, i_108, i_109, i_110, i_111, i_112, i_113, i_122, i_200, i_255, i_256, i_257, i_258, i_355, i_400, i_999, i_1000, i_1200, i_5680, i_9999, i_10000, i_99999, j_0, j_1, j_2, j_3, j_4, j_5, j_6, j_9, j_10, j_11, j_98, j_99, j_100, j_999, j_1000, j_9999, j_10000, j_99999, j_1000000, RB_f hK.1, hle, sg]
  | succ d ih =>
    intro n i acc ν h1 h2 h3 h4 h5 hK
    obtain ⟨n, rfl⟩ : ∃ m, n = m + 1 := ⟨n - 1, by omega⟩
    have hle : ¬ fN V ≤ i := by omega
    have hi := x_du_in (V := V) (f := i)
    obtain ⟨ν1, a1, a2, a3⟩ := r_du (N := N) (f := i) hV hW hN h2 (by omega) hK
    obtain ⟨ν2, c1, c2, c3⟩ := r_du (N := N) (f := f) hV hW hN f0 f1 a3
    by_cases hg : x_du V f < x_du V i
    · have e : g_pl V f i = 1 := by unfold g_pl; rw [if_pos (Or.inl hg)]
      obtain ⟨ν', e1, e2, e3⟩ := ih n (i + 1) (acc + 1) ν2 (by omega) (by omega) (by omega) (by omega) (by omega) c3
      refine ⟨ν', ?_, (a2.tr c2).tr e2, e3⟩
      rw [sg, e, ← Int.add_assoc, ← e1]
      simp (disch := omega) only [fX11_ranked_20, Int.reduceEq, Int.reduceNe, Int.reduceLT, Int.reduceLE, Int.reduceAdd, Int.reduceSub, Int.reduceMul, Int.reduceNeg, Int.zero_add, Int.add_zero, nm_eq, bd_some, bv_some, aI_ok, aL_ok, aS_ok, dv_ok, dw_ok, I_add, I_sub, I_mul, I_neg, I_lt, I_le, I_eq, I_nat, J_add, J_sub, J_mul, J_neg, J_lt, J_le, J_eq, I_l, J_i, I_div, J_div, b2_0, b2_1, b2_nar, nar_0, nar_1, zr_0, zr_1, zr_b2, cmp_eq, cmp_le, cmp_lt, cmp_gt, cmp_ge, mx_I, mn_I, mx_L, mn_L, az_I, if_true, if_false, not_true_eq_false, not_false_eq_true, i_0, i_1, i_2, i_3, i_4, i_5, i_6, i_7, i_8, i_9, i_10, i_11, i_12, i_16, i_18, i_20, i_24, i_28, i_29, i_30, i_31, i_32, i_33, i_34, i_35, i_37, i_40, i_41, i_42, i_43, i_45, i_46, i_47, i_48, i_57, i_59, i_63, i_64, i_96, i_97, i_98, i_99, i_100, i_101, i_102, i_103, i_104, i_105, i_106, i_107, i_108, i_109, i_110, i_111, i_112, i_113, i_122, i_200, i_255, i_256, i_257, i_258, i_355, i_400, i_999, i_1000, i_1200, i_5680, i_9999, i_10000, i_99999, j_0, j_1, j_2, j_3, j_4, j_5, j_6, j_9, j_10, j_11, j_98, j_99, j_100, j_999, j_1000, j_9999, j_10000, j_99999, j_1000000, RB_f hK.1, hle, a1, c1, hg]
    · obtain ⟨ν3, p1, p2, p3⟩ := r_du (N := N) (f := i) hV hW hN h2 (by omega) c3
      obtain ⟨ν4, q1, q2, q3⟩ := r_du (N := N) (f := f) hV hW hN f0 f1 p3
      have hF := ((a2.tr c2).tr p2).tr q2
      by_cases hq : x_du V i = x_du V f
      · by_cases hl : i < f
        · have e : g_pl V f i = 1 := by unfold g_pl; rw [if_pos (Or.inr ⟨hq, hl⟩)]
          have hl' : ¬ f ≤ i := by omega
          obtain ⟨ν', e1, e2, e3⟩ := ih n (i + 1) (acc + 1) ν4 (by omega) (by omega) (by omega) (by omega) (by omega) q3
          refine ⟨ν', ?_, hF.tr e2, e3⟩
          rw [sg, e, ← Int.add_assoc, ← e1]
          simp (disch := omega) only [fX11_ranked_20, Int.reduceEq, Int.reduceNe, Int.reduceLT, Int.reduceLE, Int.reduceAdd, Int.reduceSub, Int.reduceMul, Int.reduceNeg, Int.zero_add, Int.add_zero, nm_eq, bd_some, bv_some, aI_ok, aL_ok, aS_ok, dv_ok, dw_ok, I_add, I_sub, I_mul, I_neg, I_lt, I_le, I_eq, I_nat, J_add, J_sub, J_mul, J_neg, J_lt, J_le, J_eq, I_l, J_i, I_div, J_div, b2_0, b2_1, b2_nar, nar_0, nar_1, zr_0, zr_1, zr_b2, cmp_eq, cmp_le, cmp_lt, cmp_gt, cmp_ge, mx_I, mn_I, mx_L, mn_L, az_I, if_true, if_false, not_true_eq_false, not_false_eq_true, i_0, i_1, i_2, i_3, i_4, i_5, i_6, i_7, i_8, i_9, i_10, i_11, i_12, i_16, i_18, i_20, i_24, i_28, i_29, i_30, i_31, i_32, i_33, i_34, i_35, i_37, i_40, i_41, i_42, i_43, i_45, i_46, i_47, i_48, i_57, i_59, i_63, i_64, i_96, i_97, i_98, i_99, i_100, i_101, i_102, i_103, i_104, i_105, i_106, i_107, i_108, i_109, i_110, i_111, i_112, i_113, i_122, i_200, i_255, i_256, i_257, i_258, i_355, i_400, i_999, i_1000, i_1200, i_5680, i_9999, i_10000, i_99999, j_0, j_1, j_2, j_3, j_4, j_5, j_6, j_9, j_10, j_11, j_98, j_99, j_100, j_999, j_1000, j_9999, j_10000, j_99999, j_1000000, RB_f hK.1, hle, a1, c1, hg, p1, q1, hq, hl', Int.lt_irrefl]
        · have e : g_pl V f i = 0 := by unfold g_pl; rw [if_neg (fun w => w.elim hg (fun w => hl w.2))]
          have hl' : f ≤ i := by omega
          obtain ⟨ν', e1, e2, e3⟩ := ih n (i + 1) acc ν4 (by omega) (by omega) (by omega) (by omega) (by omega) q3
          refine ⟨ν', ?_, hF.tr e2, e3⟩
          rw [sg, e, Int.zero_add, ← e1]
          simp (disch := omega) only [fX11_ranked_20, Int.reduceEq, Int.reduceNe, Int.reduceLT, Int.reduceLE, Int.reduceAdd, Int.reduceSub, Int.reduceMul, Int.reduceNeg, Int.zero_add, Int.add_zero, nm_eq, bd_some, bv_some, aI_ok, aL_ok, aS_ok, dv_ok, dw_ok, I_add, I_sub, I_mul, I_neg, I_lt, I_le, I_eq, I_nat, J_add, J_sub, J_mul, J_neg, J_lt, J_le, J_eq, I_l, J_i, I_div, J_div, b2_0, b2_1, b2_nar, nar_0, nar_1, zr_0, zr_1, zr_b2, cmp_eq, cmp_le, cmp_lt, cmp_gt, cmp_ge, mx_I, mn_I, mx_L, mn_L, az_I, if_true, if_false, not_true_eq_false, not_false_eq_true, i_0, i_1, i_2, i_3, i_4, i_5, i_6, i_7, i_8, i_9, i_10, i_11, i_12, i_16, i_18, i_20, i_24, i_28, i_29, i_30, i_31, i_32, i_33, i_34, i_35, i_37, i_40, i_41, i_42, i_43, i_45, i_46, i_47, i_48, i_57, i_59, i_63, i_64, i_96, i_97, i_98, i_99, i_100, i_101, i_102, i_103, i_104, i_105, i_106, i_107, i_108, i_109, i_110, i_111, i_112, i_113, i_122, i_200, i_255, i_256, i_257, i_258, i_355, i_400, i_999, i_1000, i_1200, i_5680, i_9999, i_10000, i_99999, j_0, j_1, j_2, j_3, j_4, j_5, j_6, j_9, j_10, j_11, j_98, j_99, j_100, j_999, j_1000, j_9999, j_10000, j_99999, j_1000000, RB_f hK.1, hle, a1, c1, hg, p1, q1, hq, hl', Int.lt_irrefl]
      · have e : g_pl V f i = 0 := by unfold g_pl; rw [if_neg (fun w => w.elim hg (fun w => hq w.1))]
        obtain ⟨ν', e1, e2, e3⟩ := ih n (i + 1) acc ν4 (by omega) (by omega) (by omega) (by omega) (by omega) q3
        refine ⟨ν', ?_, hF.tr e2, e3⟩
        rw [sg, e, Int.zero_add, ← e1]
        simp (disch := omega) only [fX11_ranked_20, Int.reduceEq, Int.reduceNe, Int.reduceLT, Int.reduceLE, Int.reduceAdd, Int.reduceSub, Int.reduceMul, Int.reduceNeg, Int.zero_add, Int.add_zero, nm_eq, bd_some, bv_some, aI_ok, aL_ok, aS_ok, dv_ok, dw_ok, I_add, I_sub, I_mul, I_neg, I_lt, I_le, I_eq, I_nat, J_add, J_sub, J_mul, J_neg, J_lt, J_le, J_eq, I_l, J_i, I_div, J_div, b2_0, b2_1, b2_nar, nar_0, nar_1, zr_0, zr_1, zr_b2, cmp_eq, cmp_le, cmp_lt, cmp_gt, cmp_ge, mx_I, mn_I, mx_L, mn_L, az_I, if_true, if_false, not_true_eq_false, not_false_eq_true, i_0, i_1, i_2, i_3, i_4, i_5, i_6, i_7, i_8, i_9, i_10, i_11, i_12, i_16, i_18, i_20, i_24, i_28, i_29, i_30, i_31, i_32, i_33, i_34, i_35, i_37, i_40, i_41, i_42, i_43, i_45, i_46, i_47, i_48, i_57, i_59, i_63, i_64, i_96, i_97, i_98, i_99, i_100, i_101, i_102, i_103, i_104, i_105, i_106, i_107, i_108, i_109, i_110, i_111, i_112, i_113, i_122, i_200, i_255, i_256, i_257, i_258, i_355, i_400, i_999, i_1000, i_1200, i_5680, i_9999, i_10000, i_99999, j_0, j_1, j_2, j_3, j_4, j_5, j_6, j_9, j_10, j_11, j_98, j_99, j_100, j_999, j_1000, j_9999, j_10000, j_99999, j_1000000, RB_f hK.1, hle, a1, c1, hg, p1, q1, hq]
theorem r_rk7 (hV : vB V) (hW : vO V) (hN : 100 ≤ N) (p0 : -2147483648 ≤ p) (p1 : p < 2147483648) : ∀ (d n : Nat) (f : Int) (ν : Mem), d < n → 0 ≤ f → f + d = fN V → RKd N V ν → ∃ ν', fX11_ranked_7 N n (I_ p) (I_ f) ν = some (I_ (rkf V p d f), ν') ∧ Fr P_rq ν ν' ∧ RKd N V ν' := by
  have hn := hV.1
  unfold vN at hn
  intro d
  induction d with
  | zero =>
    intro n f ν h1 h2 h3 hK
    obtain ⟨n, rfl⟩ : ∃ m, n = m + 1 := ⟨n - 1, by omega⟩
    have hle : fN V ≤ f := by omega
    refine ⟨ν, ?_, Fr.rf, hK⟩
    simp (disch := omega) only [fX11_ranked_7, Int.reduceEq, Int.reduceNe, Int.reduceLT, Int.reduceLE, Int.reduceAdd, Int.reduceSub, Int.reduceMul, Int.reduceNeg, Int.zero_add, Int.add_zero, nm_eq, bd_some, bv_some, aI_ok, aL_ok, aS_ok, dv_ok, dw_ok, I_add, I_sub, I_mul, I_neg, I_lt, I_le, I_eq, I_nat, J_add, J_sub, J_mul, J_neg, J_lt, J_le, J_eq, I_l, J_i, I_div, J_div, b2_0, b2_1, b2_nar, nar_0, nar_1, zr_0, zr_1, zr_b2, cmp_eq, cmp_le, cmp_lt, cmp_gt, cmp_ge, mx_I, mn_I, mx_L, mn_L, az_I, if_true, if_false, not_true_eq_false, not_false_eq_true, i_0, i_1, i_2, i_3, i_4, i_5, i_6, i_7, i_8, i_9, i_10, i_11, i_12, i_16, i_18, i_20, i_24, i_28, i_29, i_30, i_31, i_32, i_33, i_34, i_35, i_37, i_40, i_41, i_42, i_43, i_45, i_46, i_47, i_48, i_57, i_59, i_63, i_64, i_96, i_97, i_98, i_99, i_100, i_101, i_102, i_103, i_104, i_105, i_106, i_107, i_108, i_109, i_110, i_111, i_112, i_113, i_122, i_200, i_255, i_256, i_257, i_258, i_355, i_400, i_999, i_1000, i_1200, i_5680, i_9999, i_10000, i_99999, j_0, j_1, j_2, j_3, j_4, j_5, j_6, j_9, j_10, j_11, j_98, j_99, j_100, j_999, j_1000, j_9999, j_10000, j_99999, j_1000000, RB_f hK.1, hle, rkf]
  | succ d ih =>
    intro n f ν h1 h2 h3 hK
    obtain ⟨n, rfl⟩ : ∃ m, n = m + 1 := ⟨n - 1, by omega⟩
    have hle : ¬ fN V ≤ f := by omega
    have hp := x_pl_lt (V := V) (f := f) h2 (by omega)
    obtain ⟨ν1, a1, a2, a3⟩ := r_rk20 (N := N) (f := f) hV hW hN h2 (by omega) (fun v1 v2 μ => fX11_ranked_7 N n v1 v2 μ) (I_ p) (fN V).toNat N 0 0 ν (by omega) (by omega) (by omega) (by omega) (by omega) hK
    rw [Int.zero_add] at a1
    have ex : sg (fN V).toNat 0 (g_pl V f) = x_pl V f := rfl
    rw [ex] at a1
    unfold rkf
    by_cases hc : x_pl V f = p
    · rw [if_pos hc]
      refine ⟨ν1, ?_, a2, a3⟩
      rw [hc] at a1
      simp (disch := omega) only [fX11_ranked_7, fX11_ranked_77, Int.reduceEq, Int.reduceNe, Int.reduceLT, Int.reduceLE, Int.reduceAdd, Int.reduceSub, Int.reduceMul, Int.reduceNeg, Int.zero_add, Int.add_zero, nm_eq, bd_some, bv_some, aI_ok, aL_ok, aS_ok, dv_ok, dw_ok, I_add, I_sub, I_mul, I_neg, I_lt, I_le, I_eq, I_nat, J_add, J_sub, J_mul, J_neg, J_lt, J_le, J_eq, I_l, J_i, I_div, J_div, b2_0, b2_1, b2_nar, nar_0, nar_1, zr_0, zr_1, zr_b2, cmp_eq, cmp_le, cmp_lt, cmp_gt, cmp_ge, mx_I, mn_I, mx_L, mn_L, az_I, if_true, if_false, not_true_eq_false, not_false_eq_true, i_0, i_1, i_2, i_3, i_4, i_5, i_6, i_7, i_8, i_9, i_10, i_11, i_12, i_16, i_18, i_20, i_24, i_28, i_29, i_30, i_31, i_32, i_33, i_34, i_35, i_37, i_40, i_41, i_42, i_43, i_45, i_46, i_47, i_48, i_57, i_59, i_63, i_64, i_96, i_97, i_98, i_99, i_100, i_101, i_102, i_103, i_104, i_105, i_106, i_107, i_108, i_109, i_110, i_111, i_112, i_113, i_122, i_200, i_255, i_256, i_257, i_258, i_355, i_400, i_999, i_1000, i_1200, i_5680, i_9999, i_10000, i_99999, j_0, j_1, j_2, j_3, j_4, j_5, j_6, j_9, j_10, j_11, j_98, j_99, j_100, j_999, j_1000, j_9999, j_10000, j_99999, j_1000000, RB_f hK.1, hle, a1]
    · rw [if_neg hc]
      obtain ⟨ν', e1, e2, e3⟩ := ih n (f + 1) ν1 (by omega) (by omega) (by omega) a3
      refine ⟨ν', ?_, a2.tr e2, e3⟩
      simp (disch := omega) only [fX11_ranked_7, fX11_ranked_77, Int.reduceEq, Int.reduceNe, Int.reduceLT, Int.reduceLE, Int.reduceAdd, Int.reduceSub, Int.reduceMul, Int.reduceNeg, Int.zero_add, Int.add_zero, nm_eq, bd_some, bv_some, aI_ok, aL_ok, aS_ok, dv_ok, dw_ok, I_add, I_sub, I_mul, I_neg, I_lt, I_le, I_eq, I_nat, J_add, J_sub, J_mul, J_neg, J_lt, J_le, J_eq, I_l, J_i, I_div, J_div, b2_0, b2_1, b2_nar, nar_0, nar_1, zr_0, zr_1, zr_b2, cmp_eq, cmp_le, cmp_lt, cmp_gt, cmp_ge, mx_I, mn_I, mx_L, mn_L, az_I, if_true, if_false, not_true_eq_false, not_false_eq_true, i_0, i_1, i_2, i_3, i_4, i_5, i_6, i_7, i_8, i_9, i_10, i_11, i_12, i_16, i_18, i_20, i_24, i_28, i_29, i_30, i_31, i_32, i_33, i_34, i_35, i_37, i_40, i_41, i_42, i_43, i_45, i_46, i_47, i_48, i_57, i_59, i_63, i_64, i_96, i_97, i_98, i_99, i_100, i_101, i_102, i_103, i_104, i_105, i_106, i_107, i_108, i_109, i_110, i_111, i_112, i_113, i_122, i_200, i_255, i_256, i_257, i_258, i_355, i_400, i_999, i_1000, i_1200, i_5680, i_9999, i_10000, i_99999, j_0, j_1, j_2, j_3, j_4, j_5, j_6, j_9, j_10, j_11, j_98, j_99, j_100, j_999, j_1000, j_9999, j_10000, j_99999, j_1000000, RB_f hK.1, hle, a1, hc, e1]
end
