/-! The reference works codes out. -/
def rsq (μ : Mem) : Int → List Int → Prop
  | _, [] => True
  | i, c :: l => (μ.1 7 i.toNat = I_ (rA c) ∧ μ.1 8 i.toNat = I_ (rB c)) ∧ rsq μ (i + 1) l
theorem rsq_fr {μ μ' : Mem} : ∀ (l : List Int) (i : Int), 0 ≤ i → (∀ j : Nat, i.toNat ≤ j → j < i.toNat + l.length → μ'.1 7 j = μ.1 7 j ∧ μ'.1 8 j = μ.1 8 j) → rsq μ i l → rsq μ' i l := by
  intro l
  induction l with
  | nil => intro _ _ _ _; trivial
  | cons c l ih =>
    intro i h0 h h2
    refine ⟨?_, ih (i + 1) (by omega) (fun j h3 h4 => h j (by omega) (by show j < i.toNat + (l.length + 1); omega)) h2.2⟩
    have := h i.toNat (by omega) (by show i.toNat < i.toNat + (l.length + 1); omega)
    rw [this.1, this.2]
    exact h2.1
theorem rsq_of {μ μ' : Mem} : ∀ (l : List Int) (i : Int), 0 ≤ i → (∀ j : Nat, i.toNat ≤ j → j < i.toNat + l.length → μ'.1 7 j = μ.1 14 j ∧ μ'.1 8 j = μ.1 15 j) → rsg μ i l → rsq μ' i l := by
  intro l
  induction l with
  | nil => intro _ _ _ _; trivial
  | cons c l ih =>
    intro i h0 h h2
    refine ⟨?_, ih (i + 1) (by omega) (fun j h3 h4 => h j (by omega) (by show j < i.toNat + (l.length + 1); omega)) h2.2⟩
    have := h i.toNat (by omega) (by show i.toNat < i.toNat + (l.length + 1); omega)
    rw [this.1, this.2]
    exact h2.1
/-- what the reference holds of a sale z -/
def FS (ν : Mem) (z mk fm md l m q p t mc : Int) : Prop := ν.1 1 (35 + 8 * z).toNat = I_ mk ∧ ν.1 1 (35 + 8 * z + 1).toNat = I_ fm ∧ ν.1 1 (35 + 8 * z + 2).toNat = I_ md ∧ ν.1 1 (35 + 8 * z + 3).toNat = I_ l ∧ ν.1 1 (35 + 8 * z + 4).toNat = I_ m ∧ ν.1 1 (35 + 8 * z + 5).toNat = I_ q ∧ ν.1 1 (35 + 8 * z + 6).toNat = I_ p ∧ ν.1 1 (6 * fm + md).toNat = I_ t ∧ ν.1 6 (3 * md).toNat = I_ mc
section
variable {N : Nat} {ν : Mem} {z mk fm md l m q p t mc : Int}
theorem r_kept {v : Int} (v0 : -9000000000000000000 ≤ v) (v1 : v ≤ 9000000000000000000) : fX11_kept N (J_ v) ν = some (J_ (kp v), ν) := by
  unfold kp
  by_cases h1 : -1000000 ≤ v
  · by_cases h2 : v ≤ 1000000
    · rw [show max (-1000000) (min 1000000 v) = v by omega]
      simp (disch := omega) only [fX11_kept, Int.reduceEq, Int.reduceNe, Int.reduceLT, Int.reduceLE, Int.reduceAdd, Int.reduceSub, Int.reduceMul, Int.reduceNeg, Int.zero_add, Int.add_zero, nm_eq, bd_some, bv_some, aI_ok, aL_ok, aS_ok, dv_ok, dw_ok, I_add, I_sub, I_mul, I_neg, I_lt, I_le, I_eq, I_nat, J_add, J_sub, J_mul, J_neg, J_lt, J_le, J_eq, I_l, J_i, I_div, J_div, b2_0, b2_1, b2_nar, nar_0, nar_1, zr_0, zr_1, zr_b2, cmp_eq, cmp_le, cmp_lt, cmp_gt, cmp_ge, mx_I, mn_I, mx_L, mn_L, az_I, if_true, if_false, not_true_eq_false, not_false_eq_true, Bool.false_eq_true, i_0, i_1, i_2, i_3, i_4, i_5, i_6, i_7, i_8, i_9, i_10, i_11, i_12, i_16, i_18, i_20, i_24, i_28, i_29, i_30, i_31, i_32, i_33, i_34, i_35, i_37, i_40, i_41, i_42, i_43, i_45, i_46, i_47, i_48, i_57, i_59, i_63, i_64, i_96, i_97, i_98, i_99, i_100, i_101, i_102, i_103, i_104, i_105, i_106, i_107, i_108, i_109, i_110, i_111, i_112, i_113, i_122, i_200, i_255, i_256, i_257, i_258, i_355, i_400, i_999, i_1000, i_1200, i_5680, i_9999, i_10000, i_99999, j_0, j_1, j_2, j_3, j_4, j_5, j_6, j_9, j_10, j_11, j_98, j_99, j_100, j_999, j_1000, j_9999, j_10000, j_99999, j_1000000, h1, h2]
    · rw [show max (-1000000) (min 1000000 v) = 1000000 by omega]
      simp (disch := omega) only [fX11_kept, Int.reduceEq, Int.reduceNe, Int.reduceLT, Int.reduceLE, Int.reduceAdd, Int.reduceSub, Int.reduceMul, Int.reduceNeg, Int.zero_add, Int.add_zero, nm_eq, bd_some, bv_some, aI_ok, aL_ok, aS_ok, dv_ok, dw_ok, I_add, I_sub, I_mul, I_neg, I_lt, I_le, I_eq, I_nat, J_add, J_sub, J_mul, J_neg, J_lt, J_le, J_eq, I_l, J_i, I_div, J_div, b2_0, b2_1, b2_nar, nar_0, nar_1, zr_0, zr_1, zr_b2, cmp_eq, cmp_le, cmp_lt, cmp_gt, cmp_ge, mx_I, mn_I, mx_L, mn_L, az_I, if_true, if_false, not_true_eq_false, not_false_eq_true, Bool.false_eq_true, i_0, i_1, i_2, i_3, i_4, i_5, i_6, i_7, i_8, i_9, i_10, i_11, i_12, i_16, i_18, i_20, i_24, i_28, i_29, i_30, i_31, i_32, i_33, i_34, i_35, i_37, i_40, i_41, i_42, i_43, i_45, i_46, i_47, i_48, i_57, i_59, i_63, i_64, i_96, i_97, i_98, i_99, i_100, i_101, i_102, i_103, i_104, i_105, i_106, i_107, i_108, i_109, i_110, i_111, i_112, i_113, i_122, i_200, i_255, i_256, i_257, i_258, i_355, i_400, i_999, i_1000, i_1200, i_5680, i_9999, i_10000, i_99999, j_0, j_1, j_2, j_3, j_4, j_5, j_6, j_9, j_10, j_11, j_98, j_99, j_100, j_999, j_1000, j_9999, j_10000, j_99999, j_1000000, h1, h2]
  · rw [show max (-1000000) (min 1000000 v) = -1000000 by omega]
    simp (disch := omega) only [fX11_kept, Int.reduceEq, Int.reduceNe, Int.reduceLT, Int.reduceLE, Int.reduceAdd, Int.reduceSub, Int.reduceMul, Int.reduceNeg, Int.zero_add, Int.add_zero, nm_eq, bd_some, bv_some, aI_ok, aL_ok, aS_ok, dv_ok, dw_ok, I_add, I_sub, I_mul, I_neg, I_lt, I_le, I_eq, I_nat, J_add, J_sub, J_mul, J_neg, J_lt, J_le, J_eq, I_l, J_i, I_div, J_div, b2_0, b2_1, b2_nar, nar_0, nar_1, zr_0, zr_1, zr_b2, cmp_eq, cmp_le, cmp_lt, cmp_gt, cmp_ge, mx_I, mn_I, mx_L, mn_L, az_I, if_true, if_false, not_true_eq_false, not_false_eq_true, Bool.false_eq_true, i_0, i_1, i_2, i_3, i_4, i_5, i_6, i_7, i_8, i_9, i_10, i_11, i_12, i_16, i_18, i_20, i_24, i_28, i_29, i_30, i_31, i_32, i_33, i_34, i_35, i_37, i_40, i_41, i_42, i_43, i_45, i_46, i_47, i_48, i_57, i_59, i_63, i_64, i_96, i_97, i_98, i_99, i_100, i_101, i_102, i_103, i_104, i_105, i_106, i_107, i_108, i_109, i_110, i_111, i_112, i_113, i_122, i_200, i_255, i_256, i_257, i_258, i_355, i_400, i_999, i_1000, i_1200, i_5680, i_9999, i_10000, i_99999, j_0, j_1, j_2, j_3, j_4, j_5, j_6, j_9, j_10, j_11, j_98, j_99, j_100, j_999, j_1000, j_9999, j_10000, j_99999, j_1000000, h1]
theorem r_down {a e : Int} (a1 : -1000000 ≤ a) (a2 : a ≤ 1000000) (he : e ≠ 0) (e1 : -1000000 ≤ e) (e2 : e ≤ 1000000) : fX11_down N (J_ a) (J_ e) ν = some (J_ (fl a e), ν) := by
  have hq : -1000000 ≤ a.tdiv e * e ∧ a.tdiv e * e ≤ 1000000 := by
    rcases Int.le_total 0 a with h | h
    · have := td_0 h he; omega
    · have := td_n h he; omega
  have ht := td_in (b := e) (A := 1000000) a1 a2
  unfold fl
  by_cases h3 : a.tdiv e * e = a
  · rw [if_pos (Or.inr h3)]
    have h3' : a - a.tdiv e * e = 0 := by omega
    simp (disch := omega) only [fX11_down, Int.reduceEq, Int.reduceNe, Int.reduceLT, Int.reduceLE, Int.reduceAdd, Int.reduceSub, Int.reduceMul, Int.reduceNeg, Int.zero_add, Int.add_zero, nm_eq, bd_some, bv_some, aI_ok, aL_ok, aS_ok, dv_ok, dw_ok, I_add, I_sub, I_mul, I_neg, I_lt, I_le, I_eq, I_nat, J_add, J_sub, J_mul, J_neg, J_lt, J_le, J_eq, I_l, J_i, I_div, J_div, b2_0, b2_1, b2_nar, nar_0, nar_1, zr_0, zr_1, zr_b2, cmp_eq, cmp_le, cmp_lt, cmp_gt, cmp_ge, mx_I, mn_I, mx_L, mn_L, az_I, if_true, if_false, not_true_eq_false, not_false_eq_true, Bool.false_eq_true, i_0, i_1, i_2, i_3, i_4, i_5, i_6, i_7, i_8, i_9, i_10, i_11, i_12, i_16, i_18, i_20, i_24, i_28, i_29, i_30, i_31, i_32, i_33, i_34, i_35, i_37, i_40, i_41, i_42, i_43, i_45, i_46, i_47, i_48, i_57, i_59, i_63, i_64, i_96, i_97, i_98, i_99, i_100, i_101, i_102, i_103, i_104, i_105, i_106, i_107, i_108, i_109, i_110, i_111, i_112, i_113, i_122, i_200, i_255, i_256, i_257, i_258, i_355, i_400, i_999, i_1000, i_1200, i_5680, i_9999, i_10000, i_99999, j_0, j_1, j_2, j_3, j_4, j_5, j_6, j_9, j_10, j_11, j_98, j_99, j_100, j_999, j_1000, j_9999, j_10000, j_99999, j_1000000, J_tdiv, h3']
  · have h3' : ¬ a - a.tdiv e * e = 0 := by omega
    by_cases ha : 0 ≤ a
    · have et : a.tdiv e = a / e := Int.tdiv_eq_ediv_of_nonneg ha
      rw [et] at hq ht h3' h3 ⊢
      by_cases hb : 0 ≤ e
      · rw [if_pos (Or.inl ⟨fun x => by omega, fun x => by omega⟩)]
        simp (disch := omega) only [fX11_down, fX11_down_24, Int.reduceEq, Int.reduceNe, Int.reduceLT, Int.reduceLE, Int.reduceAdd, Int.reduceSub, Int.reduceMul, Int.reduceNeg, Int.zero_add, Int.add_zero, nm_eq, bd_some, bv_some, aI_ok, aL_ok, aS_ok, dv_ok, dw_ok, I_add, I_sub, I_mul, I_neg, I_lt, I_le, I_eq, I_nat, J_add, J_sub, J_mul, J_neg, J_lt, J_le, J_eq, I_l, J_i, I_div, J_div, b2_0, b2_1, b2_nar, nar_0, nar_1, zr_0, zr_1, zr_b2, cmp_eq, cmp_le, cmp_lt, cmp_gt, cmp_ge, mx_I, mn_I, mx_L, mn_L, az_I, if_true, if_false, not_true_eq_false, not_false_eq_true, Bool.false_eq_true, i_0, i_1, i_2, i_3, i_4, i_5, i_6, i_7, i_8, i_9, i_10, i_11, i_12, i_16, i_18, i_20, i_24, i_28, i_29, i_30, i_31, i_32, i_33, i_34, i_35, i_37, i_40, i_41, i_42, i_43, i_45, i_46, i_47, i_48, i_57, i_59, i_63, i_64, i_96, i_97, i_98, i_99, i_100, i_101, i_102, i_103, i_104, i_105, i_106, i_107, i_108, i_109, i_110, i_111, i_112, i_113, i_122, i_200, i_255, i_256, i_257, i_258, i_355, i_400, i_999, i_1000, i_1200, i_5680, i_9999, i_10000, i_99999, j_0, j_1, j_2, j_3, j_4, j_5, j_6, j_9, j_10, j_11, j_98, j_99, j_100, j_999, j_1000, j_9999, j_10000, j_99999, j_1000000, J_tdiv, h3', ha, hb]
      · rw [if_neg (fun x => x.elim (fun w => by omega) h3)]
        simp (disch := omega) only [fX11_down, fX11_down_24, Int.reduceEq, Int.reduceNe, Int.reduceLT, Int.reduceLE, Int.reduceAdd, Int.reduceSub, Int.reduceMul, Int.reduceNeg, Int.zero_add, Int.add_zero, nm_eq, bd_some, bv_some, aI_ok, aL_ok, aS_ok, dv_ok, dw_ok, I_add, I_sub, I_mul, I_neg, I_lt, I_le, I_eq, I_nat, J_add, J_sub, J_mul, J_neg, J_lt, J_le, J_eq, I_l, J_i, I_div, J_div, b2_0, b2_1, b2_nar, nar_0, nar_1, zr_0, zr_1, zr_b2, cmp_eq, cmp_le, cmp_lt, cmp_gt, cmp_ge, mx_I, mn_I, mx_L, mn_L, az_I, if_true, if_false, not_true_eq_false, not_false_eq_true, Bool.false_eq_true, i_0, i_1, i_2, i_3, i_4, i_5, i_6, i_7, i_8, i_9, i_10, i_11, i_12, i_16, i_18, i_20, i_24, i_28, i_29, i_30, i_31, i_32, i_33, i_34, i_35, i_37, i_40, i_41, i_42, i_43, i_45, i_46, i_47, i_48, i_57, i_59, i_63, i_64, i_96, i_97, i_98, i_99, i_100, i_101, i_102, i_103, i_104, i_105, i_106, i_107, i_108, i_109, i_110, i_111, i_112, i_113, i_122, i_200, i_255, i_256, i_257, i_258, i_355, i_400, i_999, i_1000, i_1200, i_5680, i_9999, i_10000, i_99999, j_0, j_1, j_2, j_3, j_4, j_5, j_6, j_9, j_10, j_11, j_98, j_99, j_100, j_999, j_1000, j_9999, j_10000, j_99999, j_1000000, J_tdiv, h3', ha, hb]
    · by_cases hb : 0 ≤ e
      · rw [if_neg (fun x => x.elim (fun w => by omega) h3)]
        simp (disch := omega) only [fX11_down, fX11_down_24, Int.reduceEq, Int.reduceNe, Int.reduceLT, Int.reduceLE, Int.reduceAdd, Int.reduceSub, Int.reduceMul, Int.reduceNeg, Int.zero_add, Int.add_zero, nm_eq, bd_some, bv_some, aI_ok, aL_ok, aS_ok, dv_ok, dw_ok, I_add, I_sub, I_mul, I_neg, I_lt, I_le, I_eq, I_nat, J_add, J_sub, J_mul, J_neg, J_lt, J_le, J_eq, I_l, J_i, I_div, J_div, b2_0, b2_1, b2_nar, nar_0, nar_1, zr_0, zr_1, zr_b2, cmp_eq, cmp_le, cmp_lt, cmp_gt, cmp_ge, mx_I, mn_I, mx_L, mn_L, az_I, if_true, if_false, not_true_eq_false, not_false_eq_true, Bool.false_eq_true, i_0, i_1, i_2, i_3, i_4, i_5, i_6, i_7, i_8, i_9, i_10, i_11, i_12, i_16, i_18, i_20, i_24, i_28, i_29, i_30, i_31, i_32, i_33, i_34, i_35, i_37, i_40, i_41, i_42, i_43, i_45, i_46, i_47, i_48, i_57, i_59, i_63, i_64, i_96, i_97, i_98, i_99, i_100, i_101, i_102, i_103, i_104, i_105, i_106, i_107, i_108, i_109, i_110, i_111, i_112, i_113, i_122, i_200, i_255, i_256, i_257, i_258, i_355, i_400, i_999, i_1000, i_1200, i_5680, i_9999, i_10000, i_99999, j_0, j_1, j_2, j_3, j_4, j_5, j_6, j_9, j_10, j_11, j_98, j_99, j_100, j_999, j_1000, j_9999, j_10000, j_99999, j_1000000, J_tdiv, h3', ha, hb]
      · rw [if_pos (Or.inl ⟨fun x => by omega, fun x => by omega⟩)]
        simp (disch := omega) only [fX11_down, fX11_down_24, Int.reduceEq, Int.reduceNe, Int.reduceLT, Int.reduceLE, Int.reduceAdd, Int.reduceSub, Int.reduceMul, Int.reduceNeg, Int.zero_add, Int.add_zero, nm_eq, bd_some, bv_some, aI_ok, aL_ok, aS_ok, dv_ok, dw_ok, I_add, I_sub, I_mul, I_neg, I_lt, I_le, I_eq, I_nat, J_add, J_sub, J_mul, J_neg, J_lt, J_le, J_eq, I_l, J_i, I_div, J_div, b2_0, b2_1, b2_nar, nar_0, nar_1, zr_0, zr_1, zr_b2, cmp_eq, cmp_le, cmp_lt, cmp_gt, cmp_ge, mx_I, mn_I, mx_L, mn_L, az_I, if_true, if_false, not_true_eq_false, not_false_eq_true, Bool.false_eq_true, i_0, i_1, i_2, i_3, i_4, i_5, i_6, i_7, i_8, i_9, i_10, i_11, i_12, i_16, i_18, i_20, i_24, i_28, i_29, i_30, i_31, i_32, i_33, i_34, i_35, i_37, i_40, i_41, i_42, i_43, i_45, i_46, i_47, i_48, i_57, i_59, i_63, i_64, i_96, i_97, i_98, i_99, i_100, i_101, i_102, i_103, i_104, i_105, i_106, i_107, i_108, i_109, i_110, i_111, i_112, i_113, i_122, i_200, i_255, i_256, i_257, i_258, i_355, i_400, i_999, i_1000, i_1200, i_5680, i_9999, i_10000, i_99999, j_0, j_1, j_2, j_3, j_4, j_5, j_6, j_9, j_10, j_11, j_98, j_99, j_100, j_999, j_1000, j_9999, j_10000, j_99999, j_1000000, J_tdiv, h3', ha, hb]
theorem r_ofz {k x : Int} (z0 : 0 ≤ z) (z1 : z < 40) (k0 : 0 ≤ k) (k1 : k ≤ 7) (h : ν.1 1 (35 + 8 * z + k).toNat = I_ x) : fX11_of N (I_ z) (I_ k) ν = some (I_ x, ν) := by
  simp (disch := omega) only [fX11_of, Int.reduceEq, Int.reduceNe, Int.reduceLT, Int.reduceLE, Int.reduceAdd, Int.reduceSub, Int.reduceMul, Int.reduceNeg, Int.zero_add, Int.add_zero, nm_eq, bd_some, bv_some, aI_ok, aL_ok, aS_ok, dv_ok, dw_ok, I_add, I_sub, I_mul, I_neg, I_lt, I_le, I_eq, I_nat, J_add, J_sub, J_mul, J_neg, J_lt, J_le, J_eq, I_l, J_i, I_div, J_div, b2_0, b2_1, b2_nar, nar_0, nar_1, zr_0, zr_1, zr_b2, cmp_eq, cmp_le, cmp_lt, cmp_gt, cmp_ge, mx_I, mn_I, mx_L, mn_L, az_I, if_true, if_false, not_true_eq_false, not_false_eq_true, Bool.false_eq_true, i_0, i_1, i_2, i_3, i_4, i_5, i_6, i_7, i_8, i_9, i_10, i_11, i_12, i_16, i_18, i_20, i_24, i_28, i_29, i_30, i_31, i_32, i_33, i_34, i_35, i_37, i_40, i_41, i_42, i_43, i_45, i_46, i_47, i_48, i_57, i_59, i_63, i_64, i_96, i_97, i_98, i_99, i_100, i_101, i_102, i_103, i_104, i_105, i_106, i_107, i_108, i_109, i_110, i_111, i_112, i_113, i_122, i_200, i_255, i_256, i_257, i_258, i_355, i_400, i_999, i_1000, i_1200, i_5680, i_9999, i_10000, i_99999, j_0, j_1, j_2, j_3, j_4, j_5, j_6, j_9, j_10, j_11, j_98, j_99, j_100, j_999, j_1000, j_9999, j_10000, j_99999, j_1000000, h]
theorem r_costz (f0 : 0 ≤ fm) (f1 : fm < 4) (m0 : 0 ≤ md) (m1 : md < 6) (t0 : 0 ≤ t) (t1 : t ≤ 9999) (h1 : ν.1 1 (6 * fm + md).toNat = I_ t) (h2 : ν.1 6 (3 * md).toNat = I_ mc) : fX11_costOf N (I_ fm) (I_ md) ν = some (I_ (if t ≤ 0 then mc else t), ν) := by
  by_cases h : t ≤ 0
  · rw [if_pos h]
    simp (disch := omega) only [fX11_costOf, Int.reduceEq, Int.reduceNe, Int.reduceLT, Int.reduceLE, Int.reduceAdd, Int.reduceSub, Int.reduceMul, Int.reduceNeg, Int.zero_add, Int.add_zero, nm_eq, bd_some, bv_some, aI_ok, aL_ok, aS_ok, dv_ok, dw_ok, I_add, I_sub, I_mul, I_neg, I_lt, I_le, I_eq, I_nat, J_add, J_sub, J_mul, J_neg, J_lt, J_le, J_eq, I_l, J_i, I_div, J_div, b2_0, b2_1, b2_nar, nar_0, nar_1, zr_0, zr_1, zr_b2, cmp_eq, cmp_le, cmp_lt, cmp_gt, cmp_ge, mx_I, mn_I, mx_L, mn_L, az_I, if_true, if_false, not_true_eq_false, not_false_eq_true, Bool.false_eq_true, i_0, i_1, i_2, i_3, i_4, i_5, i_6, i_7, i_8, i_9, i_10, i_11, i_12, i_16, i_18, i_20, i_24, i_28, i_29, i_30, i_31, i_32, i_33, i_34, i_35, i_37, i_40, i_41, i_42, i_43, i_45, i_46, i_47, i_48, i_57, i_59, i_63, i_64, i_96, i_97, i_98, i_99, i_100, i_101, i_102, i_103, i_104, i_105, i_106, i_107, i_108, i_109, i_110, i_111, i_112, i_113, i_122, i_200, i_255, i_256, i_257, i_258, i_355, i_400, i_999, i_1000, i_1200, i_5680, i_9999, i_10000, i_99999, j_0, j_1, j_2, j_3, j_4, j_5, j_6, j_9, j_10, j_11, j_98, j_99, j_100, j_999, j_1000, j_9999, j_10000, j_99999, j_1000000, h1, h2, h]
  · rw [if_neg h]
    simp (disch := omega) only [fX11_costOf, Int.reduceEq, Int.reduceNe, Int.reduceLT, Int.reduceLE, Int.reduceAdd, Int.reduceSub, Int.reduceMul, Int.reduceNeg, Int.zero_add, Int.add_zero, nm_eq, bd_some, bv_some, aI_ok, aL_ok, aS_ok, dv_ok, dw_ok, I_add, I_sub, I_mul, I_neg, I_lt, I_le, I_eq, I_nat, J_add, J_sub, J_mul, J_neg, J_lt, J_le, J_eq, I_l, J_i, I_div, J_div, b2_0, b2_1, b2_nar, nar_0, nar_1, zr_0, zr_1, zr_b2, cmp_eq, cmp_le, cmp_lt, cmp_gt, cmp_ge, mx_I, mn_I, mx_L, mn_L, az_I, if_true, if_false, not_true_eq_false, not_false_eq_true, Bool.false_eq_true, i_0, i_1, i_2, i_3, i_4, i_5, i_6, i_7, i_8, i_9, i_10, i_11, i_12, i_16, i_18, i_20, i_24, i_28, i_29, i_30, i_31, i_32, i_33, i_34, i_35, i_37, i_40, i_41, i_42, i_43, i_45, i_46, i_47, i_48, i_57, i_59, i_63, i_64, i_96, i_97, i_98, i_99, i_100, i_101, i_102, i_103, i_104, i_105, i_106, i_107, i_108, i_109, i_110, i_111, i_112, i_113, i_122, i_200, i_255, i_256, i_257, i_258, i_355, i_400, i_999, i_1000, i_1200, i_5680, i_9999, i_10000, i_99999, j_0, j_1, j_2, j_3, j_4, j_5, j_6, j_9, j_10, j_11, j_98, j_99, j_100, j_999, j_1000, j_9999, j_10000, j_99999, j_1000000, h1, h2, h]
theorem r_factz (z0 : 0 ≤ z) (z1 : z < 40) (f0 : 0 ≤ fm) (f1 : fm < 4) (m0 : 0 ≤ md) (m1 : md < 6) (t0 : 0 ≤ t) (t1 : t ≤ 9999) (hq : 0 ≤ q ∧ q ≤ 9999) (hp : 0 ≤ p ∧ p ≤ 9999) (hl : 0 ≤ l ∧ l ≤ 9999) (hm : 0 ≤ m ∧ m ≤ 9999) (hmc : 0 ≤ mc ∧ mc ≤ 9999) (hF : FS ν z mk fm md l m q p t mc) {k : Int} (k0 : -5 ≤ k) (k1 : k < 0) : fX11_fact N (I_ z) (I_ (rB k)) ν = some (J_ (lv q p l m (if t ≤ 0 then mc else t) k), ν) := by
  obtain ⟨h0, h1, h2, h3, h4, h5, h6, h7, h8⟩ := hF
  have hr : rB k = -1 - k := by unfold rB; rw [if_neg (by omega), if_pos (by omega)]
  rw [hr]
  have hc : k = -1 ∨ k = -2 ∨ k = -3 ∨ k = -4 ∨ k = -5 := by omega
  unfold lv
  rcases hc with h | h | h | h | h <;> subst h
  · simp (disch := omega) only [fX11_fact, Int.reduceEq, Int.reduceNe, Int.reduceLT, Int.reduceLE, Int.reduceAdd, Int.reduceSub, Int.reduceMul, Int.reduceNeg, Int.zero_add, Int.add_zero, nm_eq, bd_some, bv_some, aI_ok, aL_ok, aS_ok, dv_ok, dw_ok, I_add, I_sub, I_mul, I_neg, I_lt, I_le, I_eq, I_nat, J_add, J_sub, J_mul, J_neg, J_lt, J_le, J_eq, I_l, J_i, I_div, J_div, b2_0, b2_1, b2_nar, nar_0, nar_1, zr_0, zr_1, zr_b2, cmp_eq, cmp_le, cmp_lt, cmp_gt, cmp_ge, mx_I, mn_I, mx_L, mn_L, az_I, if_true, if_false, not_true_eq_false, not_false_eq_true, Bool.false_eq_true, i_0, i_1, i_2, i_3, i_4, i_5, i_6, i_7, i_8, i_9, i_10, i_11, i_12, i_16, i_18, i_20, i_24, i_28, i_29, i_30, i_31, i_32, i_33, i_34, i_35, i_37, i_40, i_41, i_42, i_43, i_45, i_46, i_47, i_48, i_57, i_59, i_63, i_64, i_96, i_97, i_98, i_99, i_100, i_101, i_102, i_103, i_104, i_105, i_106, i_107, i_108, i_109, i_110, i_111, i_112, i_113, i_122, i_200, i_255, i_256, i_257, i_258, i_355, i_400, i_999, i_1000, i_1200, i_5680, i_9999, i_10000, i_99999, j_0, j_1, j_2, j_3, j_4, j_5, j_6, j_9, j_10, j_11, j_98, j_99, j_100, j_999, j_1000, j_9999, j_10000, j_99999, j_1000000, r_ofz (k := 5) z0 z1 (by omega) (by omega) h5]
  · simp (disch := omega) only [fX11_fact, Int.reduceEq, Int.reduceNe, Int.reduceLT, Int.reduceLE, Int.reduceAdd, Int.reduceSub, Int.reduceMul, Int.reduceNeg, Int.zero_add, Int.add_zero, nm_eq, bd_some, bv_some, aI_ok, aL_ok, aS_ok, dv_ok, dw_ok, I_add, I_sub, I_mul, I_neg, I_lt, I_le, I_eq, I_nat, J_add, J_sub, J_mul, J_neg, J_lt, J_le, J_eq, I_l, J_i, I_div, J_div, b2_0, b2_1, b2_nar, nar_0, nar_1, zr_0, zr_1, zr_b2, cmp_eq, cmp_le, cmp_lt, cmp_gt, cmp_ge, mx_I, mn_I, mx_L, mn_L, az_I, if_true, if_false, not_true_eq_false, not_false_eq_true, Bool.false_eq_true, i_0, i_1, i_2, i_3, i_4, i_5, i_6, i_7, i_8, i_9, i_10, i_11, i_12, i_16, i_18, i_20, i_24, i_28, i_29, i_30, i_31, i_32, i_33, i_34, i_35, i_37, i_40, i_41, i_42, i_43, i_45, i_46, i_47, i_48, i_57, i_59, i_63, i_64, i_96, i_97, i_98, i_99, i_100, i_101, i_102, i_103, i_104, i_105, i_106, i_107, i_108, i_109, i_110, i_111, i_112, i_113, i_122, i_200, i_255, i_256, i_257, i_258, i_355, i_400, i_999, i_1000, i_1200, i_5680, i_9999, i_10000, i_99999, j_0, j_1, j_2, j_3, j_4, j_5, j_6, j_9, j_10, j_11, j_98, j_99, j_100, j_999, j_1000, j_9999, j_10000, j_99999, j_1000000, r_ofz (k := 6) z0 z1 (by omega) (by omega) h6]
  · simp (disch := omega) only [fX11_fact, Int.reduceEq, Int.reduceNe, Int.reduceLT, Int.reduceLE, Int.reduceAdd, Int.reduceSub, Int.reduceMul, Int.reduceNeg, Int.zero_add, Int.add_zero, nm_eq, bd_some, bv_some, aI_ok, aL_ok, aS_ok, dv_ok, dw_ok, I_add, I_sub, I_mul, I_neg, I_lt, I_le, I_eq, I_nat, J_add, J_sub, J_mul, J_neg, J_lt, J_le, J_eq, I_l, J_i, I_div, J_div, b2_0, b2_1, b2_nar, nar_0, nar_1, zr_0, zr_1, zr_b2, cmp_eq, cmp_le, cmp_lt, cmp_gt, cmp_ge, mx_I, mn_I, mx_L, mn_L, az_I, if_true, if_false, not_true_eq_false, not_false_eq_true, Bool.false_eq_true, i_0, i_1, i_2, i_3, i_4, i_5, i_6, i_7, i_8, i_9, i_10, i_11, i_12, i_16, i_18, i_20, i_24, i_28, i_29, i_30, i_31, i_32, i_33, i_34, i_35, i_37, i_40, i_41, i_42, i_43, i_45, i_46, i_47, i_48, i_57, i_59, i_63, i_64, i_96, i_97, i_98, i_99, i_100, i_101, i_102, i_103, i_104, i_105, i_106, i_107, i_108, i_109, i_110, i_111, i_112, i_113, i_122, i_200, i_255, i_256, i_257, i_258, i_355, i_400, i_999, i_1000, i_1200, i_5680, i_9999, i_10000, i_99999, j_0, j_1, j_2, j_3, j_4, j_5, j_6, j_9, j_10, j_11, j_98, j_99, j_100, j_999, j_1000, j_9999, j_10000, j_99999, j_1000000, r_ofz (k := 3) z0 z1 (by omega) (by omega) h3]
  · simp (disch := omega) only [fX11_fact, Int.reduceEq, Int.reduceNe, Int.reduceLT, Int.reduceLE, Int.reduceAdd, Int.reduceSub, Int.reduceMul, Int.reduceNeg, Int.zero_add, Int.add_zero, nm_eq, bd_some, bv_some, aI_ok, aL_ok, aS_ok, dv_ok, dw_ok, I_add, I_sub, I_mul, I_neg, I_lt, I_le, I_eq, I_nat, J_add, J_sub, J_mul, J_neg, J_lt, J_le, J_eq, I_l, J_i, I_div, J_div, b2_0, b2_1, b2_nar, nar_0, nar_1, zr_0, zr_1, zr_b2, cmp_eq, cmp_le, cmp_lt, cmp_gt, cmp_ge, mx_I, mn_I, mx_L, mn_L, az_I, if_true, if_false, not_true_eq_false, not_false_eq_true, Bool.false_eq_true, i_0, i_1, i_2, i_3, i_4, i_5, i_6, i_7, i_8, i_9, i_10, i_11, i_12, i_16, i_18, i_20, i_24, i_28, i_29, i_30, i_31, i_32, i_33, i_34, i_35, i_37, i_40, i_41, i_42, i_43, i_45, i_46, i_47, i_48, i_57, i_59, i_63, i_64, i_96, i_97, i_98, i_99, i_100, i_101, i_102, i_103, i_104, i_105, i_106, i_107, i_108, i_109, i_110, i_111, i_112, i_113, i_122, i_200, i_255, i_256, i_257, i_258, i_355, i_400, i_999, i_1000, i_1200, i_5680, i_9999, i_10000, i_99999, j_0, j_1, j_2, j_3, j_4, j_5, j_6, j_9, j_10, j_11, j_98, j_99, j_100, j_999, j_1000, j_9999, j_10000, j_99999, j_1000000, r_ofz (k := 4) z0 z1 (by omega) (by omega) h4]
  · have hb : 0 ≤ (if t ≤ 0 then mc else t) ∧ (if t ≤ 0 then mc else t) ≤ 9999 := by split <;> omega
    simp (disch := omega) only [fX11_fact, Int.reduceEq, Int.reduceNe, Int.reduceLT, Int.reduceLE, Int.reduceAdd, Int.reduceSub, Int.reduceMul, Int.reduceNeg, Int.zero_add, Int.add_zero, nm_eq, bd_some, bv_some, aI_ok, aL_ok, aS_ok, dv_ok, dw_ok, I_add, I_sub, I_mul, I_neg, I_lt, I_le, I_eq, I_nat, J_add, J_sub, J_mul, J_neg, J_lt, J_le, J_eq, I_l, J_i, I_div, J_div, b2_0, b2_1, b2_nar, nar_0, nar_1, zr_0, zr_1, zr_b2, cmp_eq, cmp_le, cmp_lt, cmp_gt, cmp_ge, mx_I, mn_I, mx_L, mn_L, az_I, if_true, if_false, not_true_eq_false, not_false_eq_true, Bool.false_eq_true, i_0, i_1, i_2, i_3, i_4, i_5, i_6, i_7, i_8, i_9, i_10, i_11, i_12, i_16, i_18, i_20, i_24, i_28, i_29, i_30, i_31, i_32, i_33, i_34, i_35, i_37, i_40, i_41, i_42, i_43, i_45, i_46, i_47, i_48, i_57, i_59, i_63, i_64, i_96, i_97, i_98, i_99, i_100, i_101, i_102, i_103, i_104, i_105, i_106, i_107, i_108, i_109, i_110, i_111, i_112, i_113, i_122, i_200, i_255, i_256, i_257, i_258, i_355, i_400, i_999, i_1000, i_1200, i_5680, i_9999, i_10000, i_99999, j_0, j_1, j_2, j_3, j_4, j_5, j_6, j_9, j_10, j_11, j_98, j_99, j_100, j_999, j_1000, j_9999, j_10000, j_99999, j_1000000, r_ofz (k := 1) z0 z1 (by omega) (by omega) h1, r_ofz (k := 2) z0 z1 (by omega) (by omega) h2, r_costz f0 f1 m0 m1 t0 t1 h7 h8]
theorem r_ev (z0 : 0 ≤ z) (z1 : z < 40) (k0 : 0 ≤ mk) (k1 : mk ≤ 2) (f0 : 0 ≤ fm) (f1 : fm < 4) (m0 : 0 ≤ md) (m1 : md < 6) (t0 : 0 ≤ t) (t1 : t ≤ 9999) (hq : 0 ≤ q ∧ q ≤ 9999) (hp : 0 ≤ p ∧ p ≤ 9999) (hl : 0 ≤ l ∧ l ≤ 9999) (hm : 0 ≤ m ∧ m ≤ 9999) (hmc : 0 ≤ mc ∧ mc ≤ 9999) {tt : Int} (t4 : tt ≤ 400) (tt0 : 0 ≤ tt) {kk : Mem → Option (Int32 × Mem)} (hk : ∀ μ, fX11_offOf_216 N (I_ mk) μ = kk μ) : ∀ (cs : List Int) (n : Nat) (i : Int) (st : List Int) (ν : Mem) (h' : Nat), gd cs st.length h' → st.length ≤ 16 → cs.length < n → 400 * mk ≤ i → i + cs.length = 400 * mk + tt → stk 23 ν st → ν.1 9 mk.toNat = I_ tt → rsq ν i cs → FS ν z mk fm md l m q p t mc → ∃ ν', fX11_offOf_16 N n (I_ z) (I_ mk) (I_ st.length) (I_ i) ν = kk ν' ∧ stk 23 ν' (evl (lv q p l m (if t ≤ 0 then mc else t)) cs st) ∧ Fr P_sk ν ν' ∧ ν'.1 = ν.1 := by
  have hcb : 0 ≤ (if t ≤ 0 then mc else t) ∧ (if t ≤ 0 then mc else t) ≤ 9999 := by split <;> omega
  intro cs
  induction cs with
  | nil =>
    intro n i st ν h' hg hs hn i0 hi hst hto hseg hF
    obtain ⟨n, rfl⟩ : ∃ mm, n = mm + 1 := ⟨n - 1, by omega⟩
    have e : i = 400 * mk + tt := by have : i + ((0 : Nat) : Int) = 400 * mk + tt := hi; omega
    have hle : 400 * mk + tt ≤ i := by omega
    refine ⟨ν, ?_, hst, Fr.rf, rfl⟩
    rw [← hk]
    simp (disch := omega) only [fX11_offOf_16, Int.reduceEq, Int.reduceNe, Int.reduceLT, Int.reduceLE, Int.reduceAdd, Int.reduceSub, Int.reduceMul, Int.reduceNeg, Int.zero_add, Int.add_zero, nm_eq, bd_some, bv_some, aI_ok, aL_ok, aS_ok, dv_ok, dw_ok, I_add, I_sub, I_mul, I_neg, I_lt, I_le, I_eq, I_nat, J_add, J_sub, J_mul, J_neg, J_lt, J_le, J_eq, I_l, J_i, I_div, J_div, b2_0, b2_1, b2_nar, nar_0, nar_1, zr_0, zr_1, zr_b2, cmp_eq, cmp_le, cmp_lt, cmp_gt, cmp_ge, mx_I, mn_I, mx_L, mn_L, az_I, if_true, if_false, not_true_eq_false, not_false_eq_true, Bool.false_eq_true, i_0, i_1, i_2, i_3, i_4, i_5, i_6, i_7, i_8, i_9, i_10, i_11, i_12, i_16, i_18, i_20, i_24, i_28, i_29, i_30, i_31, i_32, i_33, i_34, i_35, i_37, i_40, i_41, i_42, i_43, i_45, i_46, i_47, i_48, i_57, i_59, i_63, i_64, i_96, i_97, i_98, i_99, i_100, i_101, i_102, i_103, i_104, i_105, i_106, i_107, i_108, i_109, i_110, i_111, i_112, i_113, i_122, i_200, i_255, i_256, i_257, i_258, i_355, i_400, i_999, i_1000, i_1200, i_5680, i_9999, i_10000, i_99999, j_0, j_1, j_2, j_3, j_4, j_5, j_6, j_9, j_10, j_11, j_98, j_99, j_100, j_999, j_1000, j_9999, j_10000, j_99999, j_1000000, hto, hle]
  | cons k cs ih =>
    intro n i st ν h' hg hs hn i0 hi hst hto hseg hF
    obtain ⟨n, rfl⟩ : ∃ mm, n = mm + 1 := ⟨n - 1, by omega⟩
    have hn' : cs.length + 1 < n + 1 := hn
    have hi' : i + ((cs.length + 1 : Nat) : Int) = 400 * mk + tt := hi
    have hle : ¬ 400 * mk + tt ≤ i := by omega
    rcases hg with ⟨g1, g2, g3, g4, g5⟩ | ⟨g1, g2, g3⟩
    · have lb : 0 ≤ lv q p l m (if t ≤ 0 then mc else t) k ∧ lv q p l m (if t ≤ 0 then mc else t) k ≤ 9999 := by
        generalize (if t ≤ 0 then mc else t) = c at *
        unfold lv; (repeat' split) <;> omega
      have e1 : ((st.length : Nat) : Int).toNat = st.length := Int.toNat_natCast _
      have ev1 : evl (lv q p l m (if t ≤ 0 then mc else t)) (k :: cs) st = evl (lv q p l m (if t ≤ 0 then mc else t)) cs ((if 0 ≤ k then k else lv q p l m (if t ≤ 0 then mc else t) k) :: st) := if_pos g1
      rw [ev1]
      by_cases kn : 0 ≤ k
      · rw [if_pos kn]
        have a1 : rA k = 0 := if_pos kn
        have b1 : rB k = k := if_pos kn
        have hs1 := hseg.1.1
        have hs2 := hseg.1.2
        rw [a1] at hs1
        rw [b1] at hs2
        obtain ⟨ν', x1, x2, x3, x4⟩ := ih n (i + 1) (k :: st) (stL ν 23 st.length (J_ k)) h' g5 (by show st.length + 1 ≤ 16; omega) (by omega) (by omega) (by omega) ⟨⟨by rw [st_L, if_pos ⟨rfl, rfl⟩], by omega, by omega⟩, stk_st (Nat.le_refl _) hst⟩ hto (rsq_fr (μ := ν) cs _ (by omega) (fun j _ _ => ⟨rfl, rfl⟩) hseg.2) hF
        have e2 : ((k :: st).length : Int) = (st.length : Int) + 1 := rfl
        rw [e2] at x1
        refine ⟨ν', ?_, x2, Fr.tr (Fr.rf.stL rfl) x3, x4⟩
        rw [← x1]
        simp (disch := omega) only [fX11_offOf_16, fX11_offOf_54, Int.reduceEq, Int.reduceNe, Int.reduceLT, Int.reduceLE, Int.reduceAdd, Int.reduceSub, Int.reduceMul, Int.reduceNeg, Int.zero_add, Int.add_zero, nm_eq, bd_some, bv_some, aI_ok, aL_ok, aS_ok, dv_ok, dw_ok, I_add, I_sub, I_mul, I_neg, I_lt, I_le, I_eq, I_nat, J_add, J_sub, J_mul, J_neg, J_lt, J_le, J_eq, I_l, J_i, I_div, J_div, b2_0, b2_1, b2_nar, nar_0, nar_1, zr_0, zr_1, zr_b2, cmp_eq, cmp_le, cmp_lt, cmp_gt, cmp_ge, mx_I, mn_I, mx_L, mn_L, az_I, if_true, if_false, not_true_eq_false, not_false_eq_true, Bool.false_eq_true, i_0, i_1, i_2, i_3, i_4, i_5, i_6, i_7, i_8, i_9, i_10, i_11, i_12, i_16, i_18, i_20, i_24, i_28, i_29, i_30, i_31, i_32, i_33, i_34, i_35, i_37, i_40, i_41, i_42, i_43, i_45, i_46, i_47, i_48, i_57, i_59, i_63, i_64, i_96, i_97, i_98, i_99, i_100, i_101, i_102, i_103, i_104, i_105, i_106, i_107, i_108, i_109, i_110, i_111, i_112, i_113, i_122, i_200, i_255, i_256, i_257, i_258, i_355, i_400, i_999, i_1000, i_1200, i_5680, i_9999, i_10000, i_99999, j_0, j_1, j_2, j_3, j_4, j_5, j_6, j_9, j_10, j_11, j_98, j_99, j_100, j_999, j_1000, j_9999, j_10000, j_99999, j_1000000, hto, hle, hs1, hs2, e1]
      · rw [if_neg kn]
        have a1 : rA k = 1 := by unfold rA; rw [if_neg kn, if_pos (by omega)]
        have hs1 := hseg.1.1
        have hs2 := hseg.1.2
        rw [a1] at hs1
        have fa := r_factz (N := N) z0 z1 f0 f1 m0 m1 t0 t1 hq hp hl hm hmc hF g2 (by omega)
        obtain ⟨ν', x1, x2, x3, x4⟩ := ih n (i + 1) (lv q p l m (if t ≤ 0 then mc else t) k :: st) (stL ν 23 st.length (J_ (lv q p l m (if t ≤ 0 then mc else t) k))) h' g5 (by show st.length + 1 ≤ 16; omega) (by omega) (by omega) (by omega) ⟨⟨by rw [st_L, if_pos ⟨rfl, rfl⟩], by omega, by omega⟩, stk_st (Nat.le_refl _) hst⟩ hto (rsq_fr (μ := ν) cs _ (by omega) (fun j _ _ => ⟨rfl, rfl⟩) hseg.2) hF
        have e2 : ((lv q p l m (if t ≤ 0 then mc else t) k :: st).length : Int) = (st.length : Int) + 1 := rfl
        rw [e2] at x1
        refine ⟨ν', ?_, x2, Fr.tr (Fr.rf.stL rfl) x3, x4⟩
        rw [← x1]
        simp (disch := omega) only [fX11_offOf_16, fX11_offOf_54, Int.reduceEq, Int.reduceNe, Int.reduceLT, Int.reduceLE, Int.reduceAdd, Int.reduceSub, Int.reduceMul, Int.reduceNeg, Int.zero_add, Int.add_zero, nm_eq, bd_some, bv_some, aI_ok, aL_ok, aS_ok, dv_ok, dw_ok, I_add, I_sub, I_mul, I_neg, I_lt, I_le, I_eq, I_nat, J_add, J_sub, J_mul, J_neg, J_lt, J_le, J_eq, I_l, J_i, I_div, J_div, b2_0, b2_1, b2_nar, nar_0, nar_1, zr_0, zr_1, zr_b2, cmp_eq, cmp_le, cmp_lt, cmp_gt, cmp_ge, mx_I, mn_I, mx_L, mn_L, az_I, if_true, if_false, not_true_eq_false, not_false_eq_true, Bool.false_eq_true, i_0, i_1, i_2, i_3, i_4, i_5, i_6, i_7, i_8, i_9, i_10, i_11, i_12, i_16, i_18, i_20, i_24, i_28, i_29, i_30, i_31, i_32, i_33, i_34, i_35, i_37, i_40, i_41, i_42, i_43, i_45, i_46, i_47, i_48, i_57, i_59, i_63, i_64, i_96, i_97, i_98, i_99, i_100, i_101, i_102, i_103, i_104, i_105, i_106, i_107, i_108, i_109, i_110, i_111, i_112, i_113, i_122, i_200, i_255, i_256, i_257, i_258, i_355, i_400, i_999, i_1000, i_1200, i_5680, i_9999, i_10000, i_99999, j_0, j_1, j_2, j_3, j_4, j_5, j_6, j_9, j_10, j_11, j_98, j_99, j_100, j_999, j_1000, j_9999, j_10000, j_99999, j_1000000, hto, hle, hs1, hs2, fa, e1]
    · have g1' := g1
      unfold isO at g1'
      match st, hs, hst, g2, g3 with
      | y :: x :: st', hs, hst, g2, g3 =>
        have ev1 : evl (lv q p l m (if t ≤ 0 then mc else t)) (k :: cs) (y :: x :: st') = evl (lv q p l m (if t ≤ 0 then mc else t)) cs (opv k x y :: st') := if_neg (by omega)
        rw [ev1]
        have hs' : st'.length + 1 + 1 ≤ 16 := hs
        have ob := opv_in k x y
        have a1 : rA k = -k - 4 := by unfold rA; rw [if_neg (by omega), if_neg (by omega)]
        have hs1 := hseg.1.1
        rw [a1] at hs1
        have e0 : (((y :: x :: st').length : Nat) : Int) = (st'.length : Int) + 2 := by show ((st'.length + 1 + 1 : Nat) : Int) = _; omega
        have e1 : (st'.length : Int) + 2 + -1 = (st'.length : Int) + 1 := by omega
        have e2 : (st'.length : Int) + 1 - 1 = (st'.length : Int) := by omega
        have e3 : ((st'.length : Nat) : Int).toNat = st'.length := Int.toNat_natCast _
        have e4 : ((st'.length : Int) + 1).toNat = st'.length + 1 := by omega
        have hy : ν.2.1 23 (st'.length + 1) = J_ y := hst.1.1
        have hx : ν.2.1 23 st'.length = J_ x := hst.2.1.1
        have yb := hst.1.2
        have xb := hst.2.1.2
        obtain ⟨ν', x1, x2, x3, x4⟩ := ih n (i + 1) (opv k x y :: st') (stL ν 23 st'.length (J_ (opv k x y))) h' g3 (by show st'.length + 1 ≤ 16; omega) (by omega) (by omega) (by omega) ⟨⟨by rw [st_L, if_pos ⟨rfl, rfl⟩], by omega, by omega⟩, stk_st (Nat.le_refl _) hst.2.2⟩ hto (rsq_fr (μ := ν) cs _ (by omega) (fun j _ _ => ⟨rfl, rfl⟩) hseg.2) hF
        have e5 : ((opv k x y :: st').length : Int) = (st'.length : Int) + 1 := rfl
        rw [e5] at x1
        refine ⟨ν', ?_, x2, Fr.tr (Fr.rf.stL rfl) x3, x4⟩
        rw [← x1, e0]
        have hmul : -1000000000000 ≤ x * y ∧ x * y ≤ 1000000000000 := by
          rcases Int.le_total 0 y with h | h
          · have h2 := Int.mul_le_mul_of_nonneg_right (c := y) xb.2 h
            have h3 := Int.mul_le_mul_of_nonneg_right (c := y) xb.1 h
            omega
          · have h2 := Int.mul_le_mul_of_nonpos_right (c := y) xb.1 h
            have h3 := Int.mul_le_mul_of_nonpos_right (c := y) xb.2 h
            omega
        have hc : k = -6 ∨ k = -7 ∨ k = -8 ∨ k = -9 := by omega
        rcases hc with h | h | h | h
        · subst h
          have eo : opv (-6) x y = kp (x + y) := rfl
          rw [eo]
          have hs1' : ν.1 7 i.toNat = I_ 2 := hs1
          simp (disch := omega) only [fX11_offOf_16, fX11_offOf_195, Int.reduceEq, Int.reduceNe, Int.reduceLT, Int.reduceLE, Int.reduceAdd, Int.reduceSub, Int.reduceMul, Int.reduceNeg, Int.zero_add, Int.add_zero, nm_eq, bd_some, bv_some, aI_ok, aL_ok, aS_ok, dv_ok, dw_ok, I_add, I_sub, I_mul, I_neg, I_lt, I_le, I_eq, I_nat, J_add, J_sub, J_mul, J_neg, J_lt, J_le, J_eq, I_l, J_i, I_div, J_div, b2_0, b2_1, b2_nar, nar_0, nar_1, zr_0, zr_1, zr_b2, cmp_eq, cmp_le, cmp_lt, cmp_gt, cmp_ge, mx_I, mn_I, mx_L, mn_L, az_I, if_true, if_false, not_true_eq_false, not_false_eq_true, Bool.false_eq_true, i_0, i_1, i_2, i_3, i_4, i_5, i_6, i_7, i_8, i_9, i_10, i_11, i_12, i_16, i_18, i_20, i_24, i_28, i_29, i_30, i_31, i_32, i_33, i_34, i_35, i_37, i_40, i_41, i_42, i_43, i_45, i_46, i_47, i_48, i_57, i_59, i_63, i_64, i_96, i_97, i_98, i_99, i_100, i_101, i_102, i_103, i_104, i_105, i_106, i_107, i_108, i_109, i_110, i_111, i_112, i_113, i_122, i_200, i_255, i_256, i_257, i_258, i_355, i_400, i_999, i_1000, i_1200, i_5680, i_9999, i_10000, i_99999, j_0, j_1, j_2, j_3, j_4, j_5, j_6, j_9, j_10, j_11, j_98, j_99, j_100, j_999, j_1000, j_9999, j_10000, j_99999, j_1000000, hto, hle, hs1', e1, e2, e3, e4, hx, hy, r_kept]
        · subst h
          have eo : opv (-7) x y = kp (x - y) := rfl
          rw [eo]
          have hs1' : ν.1 7 i.toNat = I_ 3 := hs1
          simp (disch := omega) only [fX11_offOf_16, fX11_offOf_195, Int.reduceEq, Int.reduceNe, Int.reduceLT, Int.reduceLE, Int.reduceAdd, Int.reduceSub, Int.reduceMul, Int.reduceNeg, Int.zero_add, Int.add_zero, nm_eq, bd_some, bv_some, aI_ok, aL_ok, aS_ok, dv_ok, dw_ok, I_add, I_sub, I_mul, I_neg, I_lt, I_le, I_eq, I_nat, J_add, J_sub, J_mul, J_neg, J_lt, J_le, J_eq, I_l, J_i, I_div, J_div, b2_0, b2_1, b2_nar, nar_0, nar_1, zr_0, zr_1, zr_b2, cmp_eq, cmp_le, cmp_lt, cmp_gt, cmp_ge, mx_I, mn_I, mx_L, mn_L, az_I, if_true, if_false, not_true_eq_false, not_false_eq_true, Bool.false_eq_true, i_0, i_1, i_2, i_3, i_4, i_5, i_6, i_7, i_8, i_9, i_10, i_11, i_12, i_16, i_18, i_20, i_24, i_28, i_29, i_30, i_31, i_32, i_33, i_34, i_35, i_37, i_40, i_41, i_42, i_43, i_45, i_46, i_47, i_48, i_57, i_59, i_63, i_64, i_96, i_97, i_98, i_99, i_100, i_101, i_102, i_103, i_104, i_105, i_106, i_107, i_108, i_109, i_110, i_111, i_112, i_113, i_122, i_200, i_255, i_256, i_257, i_258, i_355, i_400, i_999, i_1000, i_1200, i_5680, i_9999, i_10000, i_99999, j_0, j_1, j_2, j_3, j_4, j_5, j_6, j_9, j_10, j_11, j_98, j_99, j_100, j_999, j_1000, j_9999, j_10000, j_99999, j_1000000, hto, hle, hs1', e1, e2, e3, e4, hx, hy, r_kept]
        · subst h
          have eo : opv (-8) x y = kp (x * y) := rfl
          rw [eo]
          have hs1' : ν.1 7 i.toNat = I_ 4 := hs1
          simp (disch := omega) only [fX11_offOf_16, fX11_offOf_195, Int.reduceEq, Int.reduceNe, Int.reduceLT, Int.reduceLE, Int.reduceAdd, Int.reduceSub, Int.reduceMul, Int.reduceNeg, Int.zero_add, Int.add_zero, nm_eq, bd_some, bv_some, aI_ok, aL_ok, aS_ok, dv_ok, dw_ok, I_add, I_sub, I_mul, I_neg, I_lt, I_le, I_eq, I_nat, J_add, J_sub, J_mul, J_neg, J_lt, J_le, J_eq, I_l, J_i, I_div, J_div, b2_0, b2_1, b2_nar, nar_0, nar_1, zr_0, zr_1, zr_b2, cmp_eq, cmp_le, cmp_lt, cmp_gt, cmp_ge, mx_I, mn_I, mx_L, mn_L, az_I, if_true, if_false, not_true_eq_false, not_false_eq_true, Bool.false_eq_true, i_0, i_1, i_2, i_3, i_4, i_5, i_6, i_7, i_8, i_9, i_10, i_11, i_12, i_16, i_18, i_20, i_24, i_28, i_29, i_30, i_31, i_32, i_33, i_34, i_35, i_37, i_40, i_41, i_42, i_43, i_45, i_46, i_47, i_48, i_57, i_59, i_63, i_64, i_96, i_97, i_98, i_99, i_100, i_101, i_102, i_103, i_104, i_105, i_106, i_107, i_108, i_109, i_110, i_111, i_112, i_113, i_122, i_200, i_255, i_256, i_257, i_258, i_355, i_400, i_999, i_1000, i_1200, i_5680, i_9999, i_10000, i_99999, j_0, j_1, j_2, j_3, j_4, j_5, j_6, j_9, j_10, j_11, j_98, j_99, j_100, j_999, j_1000, j_9999, j_10000, j_99999, j_1000000, hto, hle, hs1', e1, e2, e3, e4, hx, hy, r_kept]
        · subst h
          have hs1' : ν.1 7 i.toNat = I_ 5 := hs1
          by_cases y0 : y = 0
          · subst y0
            have eo : opv (-9) x 0 = kp 0 := rfl
            rw [eo]
            simp (disch := omega) only [fX11_offOf_16, fX11_offOf_195, Int.reduceEq, Int.reduceNe, Int.reduceLT, Int.reduceLE, Int.reduceAdd, Int.reduceSub, Int.reduceMul, Int.reduceNeg, Int.zero_add, Int.add_zero, nm_eq, bd_some, bv_some, aI_ok, aL_ok, aS_ok, dv_ok, dw_ok, I_add, I_sub, I_mul, I_neg, I_lt, I_le, I_eq, I_nat, J_add, J_sub, J_mul, J_neg, J_lt, J_le, J_eq, I_l, J_i, I_div, J_div, b2_0, b2_1, b2_nar, nar_0, nar_1, zr_0, zr_1, zr_b2, cmp_eq, cmp_le, cmp_lt, cmp_gt, cmp_ge, mx_I, mn_I, mx_L, mn_L, az_I, if_true, if_false, not_true_eq_false, not_false_eq_true, Bool.false_eq_true, i_0, i_1, i_2, i_3, i_4, i_5, i_6, i_7, i_8, i_9, i_10, i_11, i_12, i_16, i_18, i_20, i_24, i_28, i_29, i_30, i_31, i_32, i_33, i_34, i_35, i_37, i_40, i_41, i_42, i_43, i_45, i_46, i_47, i_48, i_57, i_59, i_63, i_64, i_96, i_97, i_98, i_99, i_100, i_101, i_102, i_103, i_104, i_105, i_106, i_107, i_108, i_109, i_110, i_111, i_112, i_113, i_122, i_200, i_255, i_256, i_257, i_258, i_355, i_400, i_999, i_1000, i_1200, i_5680, i_9999, i_10000, i_99999, j_0, j_1, j_2, j_3, j_4, j_5, j_6, j_9, j_10, j_11, j_98, j_99, j_100, j_999, j_1000, j_9999, j_10000, j_99999, j_1000000, hto, hle, hs1', e1, e2, e3, e4, hx, hy, r_kept]
          · have eo : opv (-9) x y = kp (fl x y) := by
              unfold opv
              rw [if_neg (by decide), if_neg (by decide), if_neg (by decide), if_neg y0]
            have hf := fl_in (a := x) (b := y) (A := 1000000) xb.1 xb.2
            rw [eo]
            simp (disch := omega) only [fX11_offOf_16, fX11_offOf_195, Int.reduceEq, Int.reduceNe, Int.reduceLT, Int.reduceLE, Int.reduceAdd, Int.reduceSub, Int.reduceMul, Int.reduceNeg, Int.zero_add, Int.add_zero, nm_eq, bd_some, bv_some, aI_ok, aL_ok, aS_ok, dv_ok, dw_ok, I_add, I_sub, I_mul, I_neg, I_lt, I_le, I_eq, I_nat, J_add, J_sub, J_mul, J_neg, J_lt, J_le, J_eq, I_l, J_i, I_div, J_div, b2_0, b2_1, b2_nar, nar_0, nar_1, zr_0, zr_1, zr_b2, cmp_eq, cmp_le, cmp_lt, cmp_gt, cmp_ge, mx_I, mn_I, mx_L, mn_L, az_I, if_true, if_false, not_true_eq_false, not_false_eq_true, Bool.false_eq_true, i_0, i_1, i_2, i_3, i_4, i_5, i_6, i_7, i_8, i_9, i_10, i_11, i_12, i_16, i_18, i_20, i_24, i_28, i_29, i_30, i_31, i_32, i_33, i_34, i_35, i_37, i_40, i_41, i_42, i_43, i_45, i_46, i_47, i_48, i_57, i_59, i_63, i_64, i_96, i_97, i_98, i_99, i_100, i_101, i_102, i_103, i_104, i_105, i_106, i_107, i_108, i_109, i_110, i_111, i_112, i_113, i_122, i_200, i_255, i_256, i_257, i_258, i_355, i_400, i_999, i_1000, i_1200, i_5680, i_9999, i_10000, i_99999, j_0, j_1, j_2, j_3, j_4, j_5, j_6, j_9, j_10, j_11, j_98, j_99, j_100, j_999, j_1000, j_9999, j_10000, j_99999, j_1000000, hto, hle, hs1', e1, e2, e3, e4, hx, hy, y0, r_down, r_kept]
/-- the reference's codes -/
def RC (K : Int → List Int) (ν : Mem) : Prop := ∀ k, 0 ≤ k → k ≤ 2 → ν.1 9 k.toNat = I_ (K k).length ∧ rsq ν (400 * k) (K k)
theorem r_off {K : Int → List Int} (hN : 500 ≤ N) (z0 : 0 ≤ z) (z1 : z < 40) (k0 : 0 ≤ mk) (k1 : mk ≤ 2) (f0 : 0 ≤ fm) (f1 : fm < 4) (m0 : 0 ≤ md) (m1 : md < 6) (t0 : 0 ≤ t) (t1 : t ≤ 9999) (hq : 0 ≤ q ∧ q ≤ 9999) (hp : 0 ≤ p ∧ p ≤ 9999) (hl : 0 ≤ l ∧ l ≤ 9999) (hm : 0 ≤ m ∧ m ≤ 9999) (hmc : 0 ≤ mc ∧ mc ≤ 9999) (hG : KG K) (hC : RC K ν) (hF : FS ν z mk fm md l m q p t mc) : ∃ ν', fX11_offOf N (I_ z) ν = some (I_ (offv (K mk) q p l m (if t ≤ 0 then mc else t)), ν') ∧ Fr P_sk ν ν' := by
  obtain ⟨u1, u2⟩ := hC mk k0 k1
  obtain ⟨g1, g2⟩ := hG mk k0 k1
  have hcb : 0 ≤ (if t ≤ 0 then mc else t) ∧ (if t ≤ 0 then mc else t) ≤ 9999 := by split <;> omega
  have ob := offv_in (q := q) (p := p) (l := l) (m := m) g1 hq hp hl hm hcb
  have run : ∀ h', gd (K mk) 0 h' → ∃ ν', fX11_offOf N (I_ z) ν = fX11_offOf_216 N (I_ mk) ν' ∧ stk 23 ν' (evl (lv q p l m (if t ≤ 0 then mc else t)) (K mk) []) ∧ Fr P_sk ν ν' ∧ ν'.1 = ν.1 := fun h' hg => by
    obtain ⟨ν', x1, x2, x3, x4⟩ := r_ev (N := N) (tt := (K mk).length) z0 z1 k0 k1 f0 f1 m0 m1 t0 t1 hq hp hl hm hmc (by omega) (by omega) (fun _ => rfl) (K mk) N (400 * mk) [] ν h' hg (by show 0 ≤ 16; omega) (by omega) (by omega) rfl trivial u1 u2 hF
    refine ⟨ν', ?_, x2, x3, x4⟩
    rw [← x1]
    have e0 : ((([] : List Int).length : Nat) : Int) = 0 := rfl
    have h0 : ν.1 1 (35 + 8 * z + 0).toNat = I_ mk := by rw [Int.add_zero]; exact hF.1
    rw [e0]
    simp (disch := omega) only [fX11_offOf, Int.reduceEq, Int.reduceNe, Int.reduceLT, Int.reduceLE, Int.reduceAdd, Int.reduceSub, Int.reduceMul, Int.reduceNeg, Int.zero_add, Int.add_zero, nm_eq, bd_some, bv_some, aI_ok, aL_ok, aS_ok, dv_ok, dw_ok, I_add, I_sub, I_mul, I_neg, I_lt, I_le, I_eq, I_nat, J_add, J_sub, J_mul, J_neg, J_lt, J_le, J_eq, I_l, J_i, I_div, J_div, b2_0, b2_1, b2_nar, nar_0, nar_1, zr_0, zr_1, zr_b2, cmp_eq, cmp_le, cmp_lt, cmp_gt, cmp_ge, mx_I, mn_I, mx_L, mn_L, az_I, if_true, if_false, not_true_eq_false, not_false_eq_true, Bool.false_eq_true, i_0, i_1, i_2, i_3, i_4, i_5, i_6, i_7, i_8, i_9, i_10, i_11, i_12, i_16, i_18, i_20, i_24, i_28, i_29, i_30, i_31, i_32, i_33, i_34, i_35, i_37, i_40, i_41, i_42, i_43, i_45, i_46, i_47, i_48, i_57, i_59, i_63, i_64, i_96, i_97, i_98, i_99, i_100, i_101, i_102, i_103, i_104, i_105, i_106, i_107, i_108, i_109, i_110, i_111, i_112, i_113, i_122, i_200, i_255, i_256, i_257, i_258, i_355, i_400, i_999, i_1000, i_1200, i_5680, i_9999, i_10000, i_99999, j_0, j_1, j_2, j_3, j_4, j_5, j_6, j_9, j_10, j_11, j_98, j_99, j_100, j_999, j_1000, j_9999, j_10000, j_99999, j_1000000, r_ofz (k := 0) z0 z1 (by omega) (by omega) h0]
  rcases g1 with e | hg
  · obtain ⟨ν', x1, x2, x3, x4⟩ := run 0 (by rw [e]; rfl)
    refine ⟨ν', ?_, x3⟩
    rw [x1]
    have e2 : offv (K mk) q p l m (if t ≤ 0 then mc else t) = 0 := by rw [e]; rfl
    have e3 : ν'.1 9 mk.toNat = I_ 0 := by rw [x4, u1, e]; rfl
    rw [e2]
    simp (disch := omega) only [fX11_offOf_216, Int.reduceEq, Int.reduceNe, Int.reduceLT, Int.reduceLE, Int.reduceAdd, Int.reduceSub, Int.reduceMul, Int.reduceNeg, Int.zero_add, Int.add_zero, nm_eq, bd_some, bv_some, aI_ok, aL_ok, aS_ok, dv_ok, dw_ok, I_add, I_sub, I_mul, I_neg, I_lt, I_le, I_eq, I_nat, J_add, J_sub, J_mul, J_neg, J_lt, J_le, J_eq, I_l, J_i, I_div, J_div, b2_0, b2_1, b2_nar, nar_0, nar_1, zr_0, zr_1, zr_b2, cmp_eq, cmp_le, cmp_lt, cmp_gt, cmp_ge, mx_I, mn_I, mx_L, mn_L, az_I, if_true, if_false, not_true_eq_false, not_false_eq_true, Bool.false_eq_true, i_0, i_1, i_2, i_3, i_4, i_5, i_6, i_7, i_8, i_9, i_10, i_11, i_12, i_16, i_18, i_20, i_24, i_28, i_29, i_30, i_31, i_32, i_33, i_34, i_35, i_37, i_40, i_41, i_42, i_43, i_45, i_46, i_47, i_48, i_57, i_59, i_63, i_64, i_96, i_97, i_98, i_99, i_100, i_101, i_102, i_103, i_104, i_105, i_106, i_107, i_108, i_109, i_110, i_111, i_112, i_113, i_122, i_200, i_255, i_256, i_257, i_258, i_355, i_400, i_999, i_1000, i_1200, i_5680, i_9999, i_10000, i_99999, j_0, j_1, j_2, j_3, j_4, j_5, j_6, j_9, j_10, j_11, j_98, j_99, j_100, j_999, j_1000, j_9999, j_10000, j_99999, j_1000000, e3]
  · obtain ⟨ν', x1, x2, x3, x4⟩ := run 1 hg
    refine ⟨ν', ?_, x3⟩
    have hlen := stk_len (E := lv q p l m (if t ≤ 0 then mc else t)) (K mk) (st := []) hg
    obtain ⟨a, ea⟩ := len1 hlen
    unfold offv at ob ⊢
    rw [ea] at x2 ob
    rw [x1, ea]
    have ha : ν'.2.1 23 0 = J_ a := x2.1.1
    have e3 : ν'.1 9 mk.toNat = I_ (K mk).length := by rw [x4, u1]
    have e4 : (0 : Int).toNat = 0 := rfl
    have e5 : ¬ ((K mk).length : Int) = 0 := by
      intro w
      have : K mk = [] := List.eq_nil_of_length_eq_zero (by omega)
      rw [this] at hg
      have : (0 : Nat) = 1 := hg
      omega
    show fX11_offOf_216 N (I_ mk) ν' = some (I_ a, ν')
    simp (disch := omega) only [fX11_offOf_216, Int.reduceEq, Int.reduceNe, Int.reduceLT, Int.reduceLE, Int.reduceAdd, Int.reduceSub, Int.reduceMul, Int.reduceNeg, Int.zero_add, Int.add_zero, nm_eq, bd_some, bv_some, aI_ok, aL_ok, aS_ok, dv_ok, dw_ok, I_add, I_sub, I_mul, I_neg, I_lt, I_le, I_eq, I_nat, J_add, J_sub, J_mul, J_neg, J_lt, J_le, J_eq, I_l, J_i, I_div, J_div, b2_0, b2_1, b2_nar, nar_0, nar_1, zr_0, zr_1, zr_b2, cmp_eq, cmp_le, cmp_lt, cmp_gt, cmp_ge, mx_I, mn_I, mx_L, mn_L, az_I, if_true, if_false, not_true_eq_false, not_false_eq_true, Bool.false_eq_true, i_0, i_1, i_2, i_3, i_4, i_5, i_6, i_7, i_8, i_9, i_10, i_11, i_12, i_16, i_18, i_20, i_24, i_28, i_29, i_30, i_31, i_32, i_33, i_34, i_35, i_37, i_40, i_41, i_42, i_43, i_45, i_46, i_47, i_48, i_57, i_59, i_63, i_64, i_96, i_97, i_98, i_99, i_100, i_101, i_102, i_103, i_104, i_105, i_106, i_107, i_108, i_109, i_110, i_111, i_112, i_113, i_122, i_200, i_255, i_256, i_257, i_258, i_355, i_400, i_999, i_1000, i_1200, i_5680, i_9999, i_10000, i_99999, j_0, j_1, j_2, j_3, j_4, j_5, j_6, j_9, j_10, j_11, j_98, j_99, j_100, j_999, j_1000, j_9999, j_10000, j_99999, j_1000000, e3, e5, ha, e4]
end
