/-! Codes are worked out on both sides. -/
def kp (v : Int) : Int := max (-1000000) (min 1000000 v)
def opv (k a c : Int) : Int := kp (if k = -6 then a + c else if k = -7 then a - c else if k = -8 then a * c else if c = 0 then 0 else fl a c)
def lv (q p l m c k : Int) : Int := if k = -1 then q else if k = -2 then p else if k = -3 then l else if k = -4 then m else c
def evl (E : Int → Int) : List Int → List Int → List Int
  | [], st => st
  | k :: l, st => if -6 < k then evl E l ((if 0 ≤ k then k else E k) :: st) else evl E l (match st with | y :: x :: st' => opv k x y :: st' | st => st)
def stk (c : Nat) (μ : Mem) : List Int → Prop
  | [] => True
  | a :: l => (μ.2.1 c l.length = J_ a ∧ -1000000 ≤ a ∧ a ≤ 1000000) ∧ stk c μ l
def hd0 (l : List Int) : Int := match l with | [] => 0 | a :: _ => a
/-- what a code takes off -/
def offv (cs : List Int) (q p l m c : Int) : Int := hd0 (evl (lv q p l m c) cs [])
theorem kp_in (v : Int) : -1000000 ≤ kp v ∧ kp v ≤ 1000000 := by unfold kp; omega
theorem opv_in (k a c : Int) : -1000000 ≤ opv k a c ∧ opv k a c ≤ 1000000 := kp_in _
theorem stk_st {c : Nat} {μ : Mem} : ∀ {l : List Int} {j : Nat} {v : Int64}, l.length ≤ j → stk c μ l → stk c (stL μ c j v) l := by
  intro l
  induction l with
  | nil => intro _ _ _ _; trivial
  | cons a l ih =>
    intro j v hj h
    have hj' : l.length + 1 ≤ j := hj
    refine ⟨⟨?_, h.1.2⟩, ih (by omega) h.2⟩
    rw [st_L, if_neg (by omega)]
    exact h.1.1
theorem stk_len {E : Int → Int} : ∀ (cs : List Int) {st : List Int} {h' : Nat}, gd cs st.length h' → (evl E cs st).length = h' := by
  intro cs
  induction cs with
  | nil => intro st h' h; exact h
  | cons k l ih =>
    intro st h' h
    unfold evl
    rcases h with ⟨h1, h2, h3, h4, h5⟩ | ⟨h1, h2, h3⟩
    · rw [if_pos h1]
      exact ih h5
    · unfold isO at h1
      rw [if_neg (by omega)]
      match st, h2, h3 with
      | y :: x :: st', h2, h3 => exact ih h3
theorem len1 {l : List Int} (h : l.length = 1) : ∃ a, l = [a] := match l, h with | [a], _ => ⟨a, rfl⟩
section
variable {N b : Nat} {μ ν : Mem} {z mk q p l m c : Int}
theorem c_apply {k a e : Int} (hk : isO k) (a1 : -1000000 ≤ a) (a2 : a ≤ 1000000) (e1 : -1000000 ≤ e) (e2 : e ≤ 1000000) : fX9_apply N (I_ k) (J_ a) (J_ e) μ = some (J_ (opv k a e), μ) := by
  unfold isO at hk
  have hm : -1000000000000 ≤ a * e ∧ a * e ≤ 1000000000000 := by
    have h1 := Int.mul_le_mul_of_nonneg_right (a := a) (b := 1000000) (c := 1000000) a2 (by omega)
    rcases Int.le_total 0 e with h | h
    · have h2 := Int.mul_le_mul_of_nonneg_right (c := e) a2 h
      have h3 := Int.mul_le_mul_of_nonneg_right (c := e) a1 h
      omega
    · have h2 := Int.mul_le_mul_of_nonpos_right (c := e) a1 h
      have h3 := Int.mul_le_mul_of_nonpos_right (c := e) a2 h
      omega
  have hc : k = -6 ∨ k = -7 ∨ k = -8 ∨ k = -9 := by omega
  unfold opv kp
  rcases hc with h | h | h | h
  · subst h
    simp (disch := omega) only [fX9_apply, Int.reduceEq, Int.reduceNe, Int.reduceLT, Int.reduceLE, Int.reduceAdd, Int.reduceSub, Int.reduceMul, Int.reduceNeg, Int.zero_add, Int.add_zero, nm_eq, bd_some, bv_some, aI_ok, aL_ok, aS_ok, dv_ok, dw_ok, I_add, I_sub, I_mul, I_neg, I_lt, I_le, I_eq, I_nat, J_add, J_sub, J_mul, J_neg, J_lt, J_le, J_eq, I_l, J_i, I_div, J_div, b2_0, b2_1, b2_nar, nar_0, nar_1, zr_0, zr_1, zr_b2, cmp_eq, cmp_le, cmp_lt, cmp_gt, cmp_ge, mx_I, mn_I, mx_L, mn_L, az_I, if_true, if_false, not_true_eq_false, not_false_eq_true, Bool.false_eq_true, i_0, i_1, i_2, i_3, i_4, i_5, i_6, i_7, i_8, i_9, i_10, i_11, i_12, i_16, i_18, i_20, i_24, i_28, i_29, i_30, i_31, i_32, i_33, i_34, i_35, i_37, i_40, i_41, i_42, i_43, i_45, i_46, i_47, i_48, i_57, i_59, i_63, i_64, i_96, i_97, i_98, i_99, i_100, i_101, i_102, i_103, i_104, i_105, i_106, i_107, i_108, i_109, i_110, i_111, i_112, i_113, i_122, i_200, i_255, i_256, i_257, i_258, i_355, i_400, i_999, i_1000, i_1200, i_5680, i_9999, i_10000, i_99999, j_0, j_1, j_2, j_3, j_4, j_5, j_6, j_9, j_10, j_11, j_98, j_99, j_100, j_999, j_1000, j_9999, j_10000, j_99999, j_1000000]
  · subst h
    simp (disch := omega) only [fX9_apply, Int.reduceEq, Int.reduceNe, Int.reduceLT, Int.reduceLE, Int.reduceAdd, Int.reduceSub, Int.reduceMul, Int.reduceNeg, Int.zero_add, Int.add_zero, nm_eq, bd_some, bv_some, aI_ok, aL_ok, aS_ok, dv_ok, dw_ok, I_add, I_sub, I_mul, I_neg, I_lt, I_le, I_eq, I_nat, J_add, J_sub, J_mul, J_neg, J_lt, J_le, J_eq, I_l, J_i, I_div, J_div, b2_0, b2_1, b2_nar, nar_0, nar_1, zr_0, zr_1, zr_b2, cmp_eq, cmp_le, cmp_lt, cmp_gt, cmp_ge, mx_I, mn_I, mx_L, mn_L, az_I, if_true, if_false, not_true_eq_false, not_false_eq_true, Bool.false_eq_true, i_0, i_1, i_2, i_3, i_4, i_5, i_6, i_7, i_8, i_9, i_10, i_11, i_12, i_16, i_18, i_20, i_24, i_28, i_29, i_30, i_31, i_32, i_33, i_34, i_35, i_37, i_40, i_41, i_42, i_43, i_45, i_46, i_47, i_48, i_57, i_59, i_63, i_64, i_96, i_97, i_98, i_99, i_100, i_101, i_102, i_103, i_104, i_105, i_106, i_107, i_108, i_109, i_110, i_111, i_112, i_113, i_122, i_200, i_255, i_256, i_257, i_258, i_355, i_400, i_999, i_1000, i_1200, i_5680, i_9999, i_10000, i_99999, j_0, j_1, j_2, j_3, j_4, j_5, j_6, j_9, j_10, j_11, j_98, j_99, j_100, j_999, j_1000, j_9999, j_10000, j_99999, j_1000000]
  · subst h
    simp (disch := omega) only [fX9_apply, Int.reduceEq, Int.reduceNe, Int.reduceLT, Int.reduceLE, Int.reduceAdd, Int.reduceSub, Int.reduceMul, Int.reduceNeg, Int.zero_add, Int.add_zero, nm_eq, bd_some, bv_some, aI_ok, aL_ok, aS_ok, dv_ok, dw_ok, I_add, I_sub, I_mul, I_neg, I_lt, I_le, I_eq, I_nat, J_add, J_sub, J_mul, J_neg, J_lt, J_le, J_eq, I_l, J_i, I_div, J_div, b2_0, b2_1, b2_nar, nar_0, nar_1, zr_0, zr_1, zr_b2, cmp_eq, cmp_le, cmp_lt, cmp_gt, cmp_ge, mx_I, mn_I, mx_L, mn_L, az_I, if_true, if_false, not_true_eq_false, not_false_eq_true, Bool.false_eq_true, i_0, i_1, i_2, i_3, i_4, i_5, i_6, i_7, i_8, i_9, i_10, i_11, i_12, i_16, i_18, i_20, i_24, i_28, i_29, i_30, i_31, i_32, i_33, i_34, i_35, i_37, i_40, i_41, i_42, i_43, i_45, i_46, i_47, i_48, i_57, i_59, i_63, i_64, i_96, i_97, i_98, i_99, i_100, i_101, i_102, i_103, i_104, i_105, i_106, i_107, i_108, i_109, i_110, i_111, i_112, i_113, i_122, i_200, i_255, i_256, i_257, i_258, i_355, i_400, i_999, i_1000, i_1200, i_5680, i_9999, i_10000, i_99999, j_0, j_1, j_2, j_3, j_4, j_5, j_6, j_9, j_10, j_11, j_98, j_99, j_100, j_999, j_1000, j_9999, j_10000, j_99999, j_1000000]
  · subst h
    by_cases e0 : e = 0
    · subst e0
      simp (disch := omega) only [fX9_apply, Int.reduceEq, Int.reduceNe, Int.reduceLT, Int.reduceLE, Int.reduceAdd, Int.reduceSub, Int.reduceMul, Int.reduceNeg, Int.zero_add, Int.add_zero, nm_eq, bd_some, bv_some, aI_ok, aL_ok, aS_ok, dv_ok, dw_ok, I_add, I_sub, I_mul, I_neg, I_lt, I_le, I_eq, I_nat, J_add, J_sub, J_mul, J_neg, J_lt, J_le, J_eq, I_l, J_i, I_div, J_div, b2_0, b2_1, b2_nar, nar_0, nar_1, zr_0, zr_1, zr_b2, cmp_eq, cmp_le, cmp_lt, cmp_gt, cmp_ge, mx_I, mn_I, mx_L, mn_L, az_I, if_true, if_false, not_true_eq_false, not_false_eq_true, Bool.false_eq_true, i_0, i_1, i_2, i_3, i_4, i_5, i_6, i_7, i_8, i_9, i_10, i_11, i_12, i_16, i_18, i_20, i_24, i_28, i_29, i_30, i_31, i_32, i_33, i_34, i_35, i_37, i_40, i_41, i_42, i_43, i_45, i_46, i_47, i_48, i_57, i_59, i_63, i_64, i_96, i_97, i_98, i_99, i_100, i_101, i_102, i_103, i_104, i_105, i_106, i_107, i_108, i_109, i_110, i_111, i_112, i_113, i_122, i_200, i_255, i_256, i_257, i_258, i_355, i_400, i_999, i_1000, i_1200, i_5680, i_9999, i_10000, i_99999, j_0, j_1, j_2, j_3, j_4, j_5, j_6, j_9, j_10, j_11, j_98, j_99, j_100, j_999, j_1000, j_9999, j_10000, j_99999, j_1000000]
    · have hf := fl_in (a := a) (b := e) (A := 1000000) a1 a2
      simp (disch := omega) only [fX9_apply, Int.reduceEq, Int.reduceNe, Int.reduceLT, Int.reduceLE, Int.reduceAdd, Int.reduceSub, Int.reduceMul, Int.reduceNeg, Int.zero_add, Int.add_zero, nm_eq, bd_some, bv_some, aI_ok, aL_ok, aS_ok, dv_ok, dw_ok, I_add, I_sub, I_mul, I_neg, I_lt, I_le, I_eq, I_nat, J_add, J_sub, J_mul, J_neg, J_lt, J_le, J_eq, I_l, J_i, I_div, J_div, b2_0, b2_1, b2_nar, nar_0, nar_1, zr_0, zr_1, zr_b2, cmp_eq, cmp_le, cmp_lt, cmp_gt, cmp_ge, mx_I, mn_I, mx_L, mn_L, az_I, if_true, if_false, not_true_eq_false, not_false_eq_true, Bool.false_eq_true, i_0, i_1, i_2, i_3, i_4, i_5, i_6, i_7, i_8, i_9, i_10, i_11, i_12, i_16, i_18, i_20, i_24, i_28, i_29, i_30, i_31, i_32, i_33, i_34, i_35, i_37, i_40, i_41, i_42, i_43, i_45, i_46, i_47, i_48, i_57, i_59, i_63, i_64, i_96, i_97, i_98, i_99, i_100, i_101, i_102, i_103, i_104, i_105, i_106, i_107, i_108, i_109, i_110, i_111, i_112, i_113, i_122, i_200, i_255, i_256, i_257, i_258, i_355, i_400, i_999, i_1000, i_1200, i_5680, i_9999, i_10000, i_99999, j_0, j_1, j_2, j_3, j_4, j_5, j_6, j_9, j_10, j_11, j_98, j_99, j_100, j_999, j_1000, j_9999, j_10000, j_99999, j_1000000, e0, c_fdiv]
theorem c_lof {k : Int} (hS : kS (b + 12)) (z0 : 0 ≤ z) (z1 : z < 40) (k0 : -5 ≤ k) (k1 : k < 0) (h6 : μ.1 (b + 12 + 6) z.toNat = I_ q) (h7 : μ.1 (b + 12 + 7) z.toNat = I_ p) (h4 : μ.1 (b + 12 + 4) z.toNat = I_ l) (h5 : μ.1 (b + 12 + 5) z.toNat = I_ m) : fX9_letterOf N (I_ k) (b + 12) (I_ z) (I_ c) μ = some (I_ (lv q p l m c k), μ) := by
  have hc : k = -1 ∨ k = -2 ∨ k = -3 ∨ k = -4 ∨ k = -5 := by omega
  unfold fX9_letterOf lv
  rw [if_pos hS]
  rcases hc with h | h | h | h | h <;> subst h
  · simp (disch := omega) only [Int.reduceEq, Int.reduceNe, Int.reduceLT, Int.reduceLE, Int.reduceAdd, Int.reduceSub, Int.reduceMul, Int.reduceNeg, Int.zero_add, Int.add_zero, nm_eq, bd_some, bv_some, aI_ok, aL_ok, aS_ok, dv_ok, dw_ok, I_add, I_sub, I_mul, I_neg, I_lt, I_le, I_eq, I_nat, J_add, J_sub, J_mul, J_neg, J_lt, J_le, J_eq, I_l, J_i, I_div, J_div, b2_0, b2_1, b2_nar, nar_0, nar_1, zr_0, zr_1, zr_b2, cmp_eq, cmp_le, cmp_lt, cmp_gt, cmp_ge, mx_I, mn_I, mx_L, mn_L, az_I, if_true, if_false, not_true_eq_false, not_false_eq_true, Bool.false_eq_true, i_0, i_1, i_2, i_3, i_4, i_5, i_6, i_7, i_8, i_9, i_10, i_11, i_12, i_16, i_18, i_20, i_24, i_28, i_29, i_30, i_31, i_32, i_33, i_34, i_35, i_37, i_40, i_41, i_42, i_43, i_45, i_46, i_47, i_48, i_57, i_59, i_63, i_64, i_96, i_97, i_98, i_99, i_100, i_101, i_102, i_103, i_104, i_105, i_106, i_107, i_108, i_109, i_110, i_111, i_112, i_113, i_122, i_200, i_255, i_256, i_257, i_258, i_355, i_400, i_999, i_1000, i_1200, i_5680, i_9999, i_10000, i_99999, j_0, j_1, j_2, j_3, j_4, j_5, j_6, j_9, j_10, j_11, j_98, j_99, j_100, j_999, j_1000, j_9999, j_10000, j_99999, j_1000000, h6]
  · simp (disch := omega) only [Int.reduceEq, Int.reduceNe, Int.reduceLT, Int.reduceLE, Int.reduceAdd, Int.reduceSub, Int.reduceMul, Int.reduceNeg, Int.zero_add, Int.add_zero, nm_eq, bd_some, bv_some, aI_ok, aL_ok, aS_ok, dv_ok, dw_ok, I_add, I_sub, I_mul, I_neg, I_lt, I_le, I_eq, I_nat, J_add, J_sub, J_mul, J_neg, J_lt, J_le, J_eq, I_l, J_i, I_div, J_div, b2_0, b2_1, b2_nar, nar_0, nar_1, zr_0, zr_1, zr_b2, cmp_eq, cmp_le, cmp_lt, cmp_gt, cmp_ge, mx_I, mn_I, mx_L, mn_L, az_I, if_true, if_false, not_true_eq_false, not_false_eq_true, Bool.false_eq_true, i_0, i_1, i_2, i_3, i_4, i_5, i_6, i_7, i_8, i_9, i_10, i_11, i_12, i_16, i_18, i_20, i_24, i_28, i_29, i_30, i_31, i_32, i_33, i_34, i_35, i_37, i_40, i_41, i_42, i_43, i_45, i_46, i_47, i_48, i_57, i_59, i_63, i_64, i_96, i_97, i_98, i_99, i_100, i_101, i_102, i_103, i_104, i_105, i_106, i_107, i_108, i_109, i_110, i_111, i_112, i_113, i_122, i_200, i_255, i_256, i_257, i_258, i_355, i_400, i_999, i_1000, i_1200, i_5680, i_9999, i_10000, i_99999, j_0, j_1, j_2, j_3, j_4, j_5, j_6, j_9, j_10, j_11, j_98, j_99, j_100, j_999, j_1000, j_9999, j_10000, j_99999, j_1000000, h7]
  · simp (disch := omega) only [Int.reduceEq, Int.reduceNe, Int.reduceLT, Int.reduceLE, Int.reduceAdd, Int.reduceSub, Int.reduceMul, Int.reduceNeg, Int.zero_add, Int.add_zero, nm_eq, bd_some, bv_some, aI_ok, aL_ok, aS_ok, dv_ok, dw_ok, I_add, I_sub, I_mul, I_neg, I_lt, I_le, I_eq, I_nat, J_add, J_sub, J_mul, J_neg, J_lt, J_le, J_eq, I_l, J_i, I_div, J_div, b2_0, b2_1, b2_nar, nar_0, nar_1, zr_0, zr_1, zr_b2, cmp_eq, cmp_le, cmp_lt, cmp_gt, cmp_ge, mx_I, mn_I, mx_L, mn_L, az_I, if_true, if_false, not_true_eq_false, not_false_eq_true, Bool.false_eq_true, i_0, i_1, i_2, i_3, i_4, i_5, i_6, i_7, i_8, i_9, i_10, i_11, i_12, i_16, i_18, i_20, i_24, i_28, i_29, i_30, i_31, i_32, i_33, i_34, i_35, i_37, i_40, i_41, i_42, i_43, i_45, i_46, i_47, i_48, i_57, i_59, i_63, i_64, i_96, i_97, i_98, i_99, i_100, i_101, i_102, i_103, i_104, i_105, i_106, i_107, i_108, i_109, i_110, i_111, i_112, i_113, i_122, i_200, i_255, i_256, i_257, i_258, i_355, i_400, i_999, i_1000, i_1200, i_5680, i_9999, i_10000, i_99999, j_0, j_1, j_2, j_3, j_4, j_5, j_6, j_9, j_10, j_11, j_98, j_99, j_100, j_999, j_1000, j_9999, j_10000, j_99999, j_1000000, h4]
  · simp (disch := omega) only [Int.reduceEq, Int.reduceNe, Int.reduceLT, Int.reduceLE, Int.reduceAdd, Int.reduceSub, Int.reduceMul, Int.reduceNeg, Int.zero_add, Int.add_zero, nm_eq, bd_some, bv_some, aI_ok, aL_ok, aS_ok, dv_ok, dw_ok, I_add, I_sub, I_mul, I_neg, I_lt, I_le, I_eq, I_nat, J_add, J_sub, J_mul, J_neg, J_lt, J_le, J_eq, I_l, J_i, I_div, J_div, b2_0, b2_1, b2_nar, nar_0, nar_1, zr_0, zr_1, zr_b2, cmp_eq, cmp_le, cmp_lt, cmp_gt, cmp_ge, mx_I, mn_I, mx_L, mn_L, az_I, if_true, if_false, not_true_eq_false, not_false_eq_true, Bool.false_eq_true, i_0, i_1, i_2, i_3, i_4, i_5, i_6, i_7, i_8, i_9, i_10, i_11, i_12, i_16, i_18, i_20, i_24, i_28, i_29, i_30, i_31, i_32, i_33, i_34, i_35, i_37, i_40, i_41, i_42, i_43, i_45, i_46, i_47, i_48, i_57, i_59, i_63, i_64, i_96, i_97, i_98, i_99, i_100, i_101, i_102, i_103, i_104, i_105, i_106, i_107, i_108, i_109, i_110, i_111, i_112, i_113, i_122, i_200, i_255, i_256, i_257, i_258, i_355, i_400, i_999, i_1000, i_1200, i_5680, i_9999, i_10000, i_99999, j_0, j_1, j_2, j_3, j_4, j_5, j_6, j_9, j_10, j_11, j_98, j_99, j_100, j_999, j_1000, j_9999, j_10000, j_99999, j_1000000, h5]
  · simp (disch := omega) only [Int.reduceEq, Int.reduceNe, Int.reduceLT, Int.reduceLE, Int.reduceAdd, Int.reduceSub, Int.reduceMul, Int.reduceNeg, Int.zero_add, Int.add_zero, nm_eq, bd_some, bv_some, aI_ok, aL_ok, aS_ok, dv_ok, dw_ok, I_add, I_sub, I_mul, I_neg, I_lt, I_le, I_eq, I_nat, J_add, J_sub, J_mul, J_neg, J_lt, J_le, J_eq, I_l, J_i, I_div, J_div, b2_0, b2_1, b2_nar, nar_0, nar_1, zr_0, zr_1, zr_b2, cmp_eq, cmp_le, cmp_lt, cmp_gt, cmp_ge, mx_I, mn_I, mx_L, mn_L, az_I, if_true, if_false, not_true_eq_false, not_false_eq_true, Bool.false_eq_true, i_0, i_1, i_2, i_3, i_4, i_5, i_6, i_7, i_8, i_9, i_10, i_11, i_12, i_16, i_18, i_20, i_24, i_28, i_29, i_30, i_31, i_32, i_33, i_34, i_35, i_37, i_40, i_41, i_42, i_43, i_45, i_46, i_47, i_48, i_57, i_59, i_63, i_64, i_96, i_97, i_98, i_99, i_100, i_101, i_102, i_103, i_104, i_105, i_106, i_107, i_108, i_109, i_110, i_111, i_112, i_113, i_122, i_200, i_255, i_256, i_257, i_258, i_355, i_400, i_999, i_1000, i_1200, i_5680, i_9999, i_10000, i_99999, j_0, j_1, j_2, j_3, j_4, j_5, j_6, j_9, j_10, j_11, j_98, j_99, j_100, j_999, j_1000, j_9999, j_10000, j_99999, j_1000000]
theorem c_ev (hb : kB b) (z0 : 0 ≤ z) (z1 : z < 40) (m0 : 0 ≤ mk) (m1 : mk ≤ 2) (hq : 0 ≤ q ∧ q ≤ 9999) (hp : 0 ≤ p ∧ p ≤ 9999) (hl : 0 ≤ l ∧ l ≤ 9999) (hm : 0 ≤ m ∧ m ≤ 9999) (hc : 0 ≤ c ∧ c ≤ 9999) {tt : Int} (t4 : tt ≤ 400) {kk : Int32 → Mem → Option (Int32 × Mem)} (hk : ∀ v μ, fX9_offOf_133 N (b + 7) v μ = kk v μ) : ∀ (cs : List Int) (n : Nat) (i : Int) (st : List Int) (μ : Mem) (h' : Nat), gd cs st.length h' → st.length ≤ 16 → cs.length < n → 0 ≤ i → i + cs.length = tt → stk (b + 11) μ st → μ.1 (b + 10) mk.toNat = I_ tt → seg (b + 8) μ i cs → μ.1 (b + 12 + 6) z.toNat = I_ q → μ.1 (b + 12 + 7) z.toNat = I_ p → μ.1 (b + 12 + 4) z.toNat = I_ l → μ.1 (b + 12 + 5) z.toNat = I_ m → ∃ μ', fX9_offOf_20 N n (b + 7) (b + 12) (I_ z) (I_ c) (I_ mk) (I_ st.length) (I_ i) μ = kk (I_ h') μ' ∧ stk (b + 11) μ' (evl (lv q p l m c) cs st) ∧ Fr (fun k _ => k = b + 11) μ μ' ∧ μ'.1 = μ.1 := by
  have hS : kS (b + 12) := by unfold kS; rcases hb with e | e <;> omega
  intro cs
  induction cs with
  | nil =>
    intro n i st μ h' hg hs hn i0 hi hst hto hseg h6 h7 h4 h5
    obtain ⟨n, rfl⟩ : ∃ mm, n = mm + 1 := ⟨n - 1, by omega⟩
    have e : i = tt := by have : i + ((0 : Nat) : Int) = tt := hi; omega
    have hle : tt ≤ i := by omega
    have eg : st.length = h' := hg
    subst eg
    refine ⟨μ, ?_, hst, Fr.rf, rfl⟩
    rw [← hk]
    simp (disch := omega) only [fX9_offOf_20, Int.reduceEq, Int.reduceNe, Int.reduceLT, Int.reduceLE, Int.reduceAdd, Int.reduceSub, Int.reduceMul, Int.reduceNeg, Int.zero_add, Int.add_zero, nm_eq, bd_some, bv_some, aI_ok, aL_ok, aS_ok, dv_ok, dw_ok, I_add, I_sub, I_mul, I_neg, I_lt, I_le, I_eq, I_nat, J_add, J_sub, J_mul, J_neg, J_lt, J_le, J_eq, I_l, J_i, I_div, J_div, b2_0, b2_1, b2_nar, nar_0, nar_1, zr_0, zr_1, zr_b2, cmp_eq, cmp_le, cmp_lt, cmp_gt, cmp_ge, mx_I, mn_I, mx_L, mn_L, az_I, if_true, if_false, not_true_eq_false, not_false_eq_true, Bool.false_eq_true, i_0, i_1, i_2, i_3, i_4, i_5, i_6, i_7, i_8, i_9, i_10, i_11, i_12, i_16, i_18, i_20, i_24, i_28, i_29, i_30, i_31, i_32, i_33, i_34, i_35, i_37, i_40, i_41, i_42, i_43, i_45, i_46, i_47, i_48, i_57, i_59, i_63, i_64, i_96, i_97, i_98, i_99, i_100, i_101, i_102, i_103, i_104, i_105, i_106, i_107, i_108, i_109, i_110, i_111, i_112, i_113, i_122, i_200, i_255, i_256, i_257, i_258, i_355, i_400, i_999, i_1000, i_1200, i_5680, i_9999, i_10000, i_99999, j_0, j_1, j_2, j_3, j_4, j_5, j_6, j_9, j_10, j_11, j_98, j_99, j_100, j_999, j_1000, j_9999, j_10000, j_99999, j_1000000, hto, hle]
  | cons k cs ih =>
    intro n i st μ h' hg hs hn i0 hi hst hto hseg h6 h7 h4 h5
    obtain ⟨n, rfl⟩ : ∃ mm, n = mm + 1 := ⟨n - 1, by omega⟩
    have hn' : cs.length + 1 < n + 1 := hn
    have hi' : i + ((cs.length + 1 : Nat) : Int) = tt := hi
    have hle : ¬ tt ≤ i := by omega
    rcases hg with ⟨g1, g2, g3, g4, g5⟩ | ⟨g1, g2, g3⟩
    · have lb : 0 ≤ lv q p l m c k ∧ lv q p l m c k ≤ 9999 := by unfold lv; (repeat' split) <;> omega
      have k6 : ¬ k ≤ -6 := by omega
      have t16 : ¬ (16 : Int) ≤ (st.length : Int) := by omega
      have e1 : ((st.length : Nat) : Int).toNat = st.length := Int.toNat_natCast _
      have e2 : (((if 0 ≤ k then k else lv q p l m c k) :: st).length : Int) = (st.length : Int) + 1 := rfl
      have ev1 : evl (lv q p l m c) (k :: cs) st = evl (lv q p l m c) cs ((if 0 ≤ k then k else lv q p l m c k) :: st) := if_pos g1
      rw [ev1]
      by_cases kn : 0 ≤ k
      · rw [if_pos kn] at e2 ⊢
        obtain ⟨μ', x1, x2, x3, x4⟩ := ih n (i + 1) (k :: st) (stL μ (b + 11) st.length (J_ k)) h' g5 (by show st.length + 1 ≤ 16; omega) (by omega) (by omega) (by omega) ⟨⟨by rw [st_L, if_pos ⟨rfl, rfl⟩], by omega, by omega⟩, stk_st (Nat.le_refl _) hst⟩ hto (seg_fr (μ := μ) cs _ (by omega) (fun j _ _ => rfl) hseg.2) h6 h7 h4 h5
        rw [e2] at x1
        refine ⟨μ', ?_, x2, Fr.tr (Fr.rf.stL rfl) x3, x4⟩
        rw [← x1]
        have kn' : ¬ k < 0 := by omega
        simp (disch := omega) only [fX9_offOf_20, Int.reduceEq, Int.reduceNe, Int.reduceLT, Int.reduceLE, Int.reduceAdd, Int.reduceSub, Int.reduceMul, Int.reduceNeg, Int.zero_add, Int.add_zero, nm_eq, bd_some, bv_some, aI_ok, aL_ok, aS_ok, dv_ok, dw_ok, I_add, I_sub, I_mul, I_neg, I_lt, I_le, I_eq, I_nat, J_add, J_sub, J_mul, J_neg, J_lt, J_le, J_eq, I_l, J_i, I_div, J_div, b2_0, b2_1, b2_nar, nar_0, nar_1, zr_0, zr_1, zr_b2, cmp_eq, cmp_le, cmp_lt, cmp_gt, cmp_ge, mx_I, mn_I, mx_L, mn_L, az_I, if_true, if_false, not_true_eq_false, not_false_eq_true, Bool.false_eq_true, i_0, i_1, i_2, i_3, i_4, i_5, i_6, i_7, i_8, i_9, i_10, i_11, i_12, i_16, i_18, i_20, i_24, i_28, i_29, i_30, i_31, i_32, i_33, i_34, i_35, i_37, i_40, i_41, i_42, i_43, i_45, i_46, i_47, i_48, i_57, i_59, i_63, i_64, i_96, i_97, i_98, i_99, i_100, i_101, i_102, i_103, i_104, i_105, i_106, i_107, i_108, i_109, i_110, i_111, i_112, i_113, i_122, i_200, i_255, i_256, i_257, i_258, i_355, i_400, i_999, i_1000, i_1200, i_5680, i_9999, i_10000, i_99999, j_0, j_1, j_2, j_3, j_4, j_5, j_6, j_9, j_10, j_11, j_98, j_99, j_100, j_999, j_1000, j_9999, j_10000, j_99999, j_1000000, hto, hle, hseg.1, k6, t16, kn', e1]
      · rw [if_neg kn] at e2 ⊢
        have lof := c_lof (N := N) (c := c) hS z0 z1 g2 (by omega) h6 h7 h4 h5
        obtain ⟨μ', x1, x2, x3, x4⟩ := ih n (i + 1) (lv q p l m c k :: st) (stL μ (b + 11) st.length (J_ (lv q p l m c k))) h' g5 (by show st.length + 1 ≤ 16; omega) (by omega) (by omega) (by omega) ⟨⟨by rw [st_L, if_pos ⟨rfl, rfl⟩], by omega, by omega⟩, stk_st (Nat.le_refl _) hst⟩ hto (seg_fr (μ := μ) cs _ (by omega) (fun j _ _ => rfl) hseg.2) h6 h7 h4 h5
        rw [e2] at x1
        refine ⟨μ', ?_, x2, Fr.tr (Fr.rf.stL rfl) x3, x4⟩
        rw [← x1]
        have kn' : k < 0 := by omega
        simp (disch := omega) only [fX9_offOf_20, Int.reduceEq, Int.reduceNe, Int.reduceLT, Int.reduceLE, Int.reduceAdd, Int.reduceSub, Int.reduceMul, Int.reduceNeg, Int.zero_add, Int.add_zero, nm_eq, bd_some, bv_some, aI_ok, aL_ok, aS_ok, dv_ok, dw_ok, I_add, I_sub, I_mul, I_neg, I_lt, I_le, I_eq, I_nat, J_add, J_sub, J_mul, J_neg, J_lt, J_le, J_eq, I_l, J_i, I_div, J_div, b2_0, b2_1, b2_nar, nar_0, nar_1, zr_0, zr_1, zr_b2, cmp_eq, cmp_le, cmp_lt, cmp_gt, cmp_ge, mx_I, mn_I, mx_L, mn_L, az_I, if_true, if_false, not_true_eq_false, not_false_eq_true, Bool.false_eq_true, i_0, i_1, i_2, i_3, i_4, i_5, i_6, i_7, i_8, i_9, i_10, i_11, i_12, i_16, i_18, i_20, i_24, i_28, i_29, i_30, i_31, i_32, i_33, i_34, i_35, i_37, i_40, i_41, i_42, i_43, i_45, i_46, i_47, i_48, i_57, i_59, i_63, i_64, i_96, i_97, i_98, i_99, i_100, i_101, i_102, i_103, i_104, i_105, i_106, i_107, i_108, i_109, i_110, i_111, i_112, i_113, i_122, i_200, i_255, i_256, i_257, i_258, i_355, i_400, i_999, i_1000, i_1200, i_5680, i_9999, i_10000, i_99999, j_0, j_1, j_2, j_3, j_4, j_5, j_6, j_9, j_10, j_11, j_98, j_99, j_100, j_999, j_1000, j_9999, j_10000, j_99999, j_1000000, hto, hle, hseg.1, k6, t16, kn', lof, e1]
    · have g1' := g1
      unfold isO at g1'
      match st, hs, hst, g2, g3 with
      | y :: x :: st', hs, hst, g2, g3 =>
        have ev1 : evl (lv q p l m c) (k :: cs) (y :: x :: st') = evl (lv q p l m c) cs (opv k x y :: st') := if_neg (by omega)
        rw [ev1]
        have hs' : st'.length + 1 + 1 ≤ 16 := hs
        have k6 : k ≤ -6 := by omega
        have ob := opv_in k x y
        have e0 : (((y :: x :: st').length : Nat) : Int) = (st'.length : Int) + 2 := by show ((st'.length + 1 + 1 : Nat) : Int) = _; omega
        have t2 : ¬ (st'.length : Int) + 2 < 2 := by omega
        have e1 : (st'.length : Int) + 2 + -1 = (st'.length : Int) + 1 := by omega
        have e2 : (st'.length : Int) + 1 - 1 = (st'.length : Int) := by omega
        have e3 : ((st'.length : Nat) : Int).toNat = st'.length := Int.toNat_natCast _
        have e4 : ((st'.length : Int) + 1).toNat = st'.length + 1 := by omega
        have hy : μ.2.1 (b + 11) (st'.length + 1) = J_ y := hst.1.1
        have hx : μ.2.1 (b + 11) st'.length = J_ x := hst.2.1.1
        have ap := c_apply (N := N) (μ := μ) g1 hst.2.1.2.1 hst.2.1.2.2 hst.1.2.1 hst.1.2.2
        obtain ⟨μ', x1, x2, x3, x4⟩ := ih n (i + 1) (opv k x y :: st') (stL μ (b + 11) st'.length (J_ (opv k x y))) h' g3 (by show st'.length + 1 ≤ 16; omega) (by omega) (by omega) (by omega) ⟨⟨by rw [st_L, if_pos ⟨rfl, rfl⟩], by omega, by omega⟩, stk_st (Nat.le_refl _) hst.2.2⟩ hto (seg_fr (μ := μ) cs _ (by omega) (fun j _ _ => rfl) hseg.2) h6 h7 h4 h5
        have e5 : ((opv k x y :: st').length : Int) = (st'.length : Int) + 1 := rfl
        rw [e5] at x1
        refine ⟨μ', ?_, x2, Fr.tr (Fr.rf.stL rfl) x3, x4⟩
        rw [← x1, e0]
        simp (disch := omega) only [fX9_offOf_20, Int.reduceEq, Int.reduceNe, Int.reduceLT, Int.reduceLE, Int.reduceAdd, Int.reduceSub, Int.reduceMul, Int.reduceNeg, Int.zero_add, Int.add_zero, nm_eq, bd_some, bv_some, aI_ok, aL_ok, aS_ok, dv_ok, dw_ok, I_add, I_sub, I_mul, I_neg, I_lt, I_le, I_eq, I_nat, J_add, J_sub, J_mul, J_neg, J_lt, J_le, J_eq, I_l, J_i, I_div, J_div, b2_0, b2_1, b2_nar, nar_0, nar_1, zr_0, zr_1, zr_b2, cmp_eq, cmp_le, cmp_lt, cmp_gt, cmp_ge, mx_I, mn_I, mx_L, mn_L, az_I, if_true, if_false, not_true_eq_false, not_false_eq_true, Bool.false_eq_true, i_0, i_1, i_2, i_3, i_4, i_5, i_6, i_7, i_8, i_9, i_10, i_11, i_12, i_16, i_18, i_20, i_24, i_28, i_29, i_30, i_31, i_32, i_33, i_34, i_35, i_37, i_40, i_41, i_42, i_43, i_45, i_46, i_47, i_48, i_57, i_59, i_63, i_64, i_96, i_97, i_98, i_99, i_100, i_101, i_102, i_103, i_104, i_105, i_106, i_107, i_108, i_109, i_110, i_111, i_112, i_113, i_122, i_200, i_255, i_256, i_257, i_258, i_355, i_400, i_999, i_1000, i_1200, i_5680, i_9999, i_10000, i_99999, j_0, j_1, j_2, j_3, j_4, j_5, j_6, j_9, j_10, j_11, j_98, j_99, j_100, j_999, j_1000, j_9999, j_10000, j_99999, j_1000000, hto, hle, hseg.1, k6, t2, e1, e2, e3, e4, hx, hy, ap]
theorem offv_in {cs : List Int} (hg : cs = [] ∨ gd cs 0 1) (hq : 0 ≤ q ∧ q ≤ 9999) (hp : 0 ≤ p ∧ p ≤ 9999) (hl : 0 ≤ l ∧ l ≤ 9999) (hm : 0 ≤ m ∧ m ≤ 9999) (hc : 0 ≤ c ∧ c ≤ 9999) : -1000000 ≤ offv cs q p l m c ∧ offv cs q p l m c ≤ 1000000 := by
  have key : ∀ (cs st : List Int) (h' : Nat), gd cs st.length h' → (∀ a ∈ st, -1000000 ≤ a ∧ a ≤ 1000000) → ∀ a ∈ evl (lv q p l m c) cs st, -1000000 ≤ a ∧ a ≤ 1000000 := by
    intro cs
    induction cs with
    | nil => intro st h' _ h; exact h
    | cons k cs ih =>
      intro st h' hg h
      unfold evl
      rcases hg with ⟨g1, g2, g3, g4, g5⟩ | ⟨g1, g2, g3⟩
      · rw [if_pos g1]
        refine ih _ h' g5 (fun a ha => ?_)
        rcases List.mem_cons.mp ha with e | e
        · have lb : 0 ≤ lv q p l m c k ∧ lv q p l m c k ≤ 9999 := by unfold lv; (repeat' split) <;> omega
          rw [e]
          split <;> omega
        · exact h a e
      · unfold isO at g1
        rw [if_neg (by omega)]
        match st, g2, g3, h with
        | y :: x :: st', g2, g3, h =>
          refine ih _ h' g3 (fun a ha => ?_)
          rcases List.mem_cons.mp ha with e | e
          · rw [e]; exact opv_in k x y
          · exact h a (List.mem_cons_of_mem _ (List.mem_cons_of_mem _ e))
  unfold offv
  rcases hg with e | hg
  · subst e
    show -1000000 ≤ (0 : Int) ∧ (0 : Int) ≤ 1000000
    omega
  · have h1 := key cs [] 1 hg (fun a ha => by cases ha)
    have h2 := stk_len (E := lv q p l m c) cs (st := []) hg
    match evl (lv q p l m c) cs [], h1, h2 with
    | a :: r, h1, h2 => exact h1 a (List.mem_cons_self ..)
theorem c_off {K : Int → List Int} {fo : Int → Int} {qq : Int} (hb : kB b) (hN : 500 ≤ N) (z0 : 0 ≤ z) (z1 : z < 40) (m0 : 0 ≤ mk) (m1 : mk ≤ 2) (hq : 0 ≤ q ∧ q ≤ 9999) (hp : 0 ≤ p ∧ p ≤ 9999) (hl : 0 ≤ l ∧ l ≤ 9999) (hm : 0 ≤ m ∧ m ≤ 9999) (hc : 0 ≤ c ∧ c ≤ 9999) (hG : KG K) (hU : CU b qq K fo μ) (q4 : qq ≤ 400) (h1 : μ.1 (b + 12 + 1) z.toNat = I_ mk) (h6 : μ.1 (b + 12 + 6) z.toNat = I_ q) (h7 : μ.1 (b + 12 + 7) z.toNat = I_ p) (h4 : μ.1 (b + 12 + 4) z.toNat = I_ l) (h5 : μ.1 (b + 12 + 5) z.toNat = I_ m) : ∃ μ', fX9_offOf N (b + 7) (b + 12) (I_ z) (I_ c) μ = some (I_ (offv (K mk) q p l m c), μ') ∧ Fr (fun k _ => k = b + 11) μ μ' ∧ μ'.1 = μ.1 := by
  have hS : kS (b + 12) := by unfold kS; rcases hb with e | e <;> omega
  have hu : kU (b + 7) := by unfold kU; rcases hb with e | e <;> omega
  obtain ⟨u1, u2, u3, u4, u5⟩ := hU.2 mk m0 m1
  obtain ⟨k1, k2⟩ := hG mk m0 m1
  have ob := offv_in (q := q) (p := p) (l := l) (m := m) (c := c) k1 hq hp hl hm hc
  have run : ∀ h', gd (K mk) 0 h' → ∃ μ', fX9_offOf N (b + 7) (b + 12) (I_ z) (I_ c) μ = fX9_offOf_133 N (b + 7) (I_ h') μ' ∧ stk (b + 11) μ' (evl (lv q p l m c) (K mk) []) ∧ Fr (fun k _ => k = b + 11) μ μ' ∧ μ'.1 = μ.1 := fun h' hg => by
    obtain ⟨μ', x1, x2, x3, x4⟩ := c_ev (N := N) (tt := fo mk + (K mk).length) hb z0 z1 m0 m1 hq hp hl hm hc (by omega) (fun _ _ => rfl) (K mk) N (fo mk) [] μ h' hg (by show 0 ≤ 16; omega) (by omega) u4 rfl trivial u2 u3 h6 h7 h4 h5
    refine ⟨μ', ?_, x2, x3, x4⟩
    rw [← x1]
    unfold fX9_offOf
    rw [if_pos hu, if_pos hS]
    have e0 : ((([] : List Int).length : Nat) : Int) = 0 := rfl
    rw [e0]
    simp (disch := omega) only [Int.reduceEq, Int.reduceNe, Int.reduceLT, Int.reduceLE, Int.reduceAdd, Int.reduceSub, Int.reduceMul, Int.reduceNeg, Int.zero_add, Int.add_zero, nm_eq, bd_some, bv_some, aI_ok, aL_ok, aS_ok, dv_ok, dw_ok, I_add, I_sub, I_mul, I_neg, I_lt, I_le, I_eq, I_nat, J_add, J_sub, J_mul, J_neg, J_lt, J_le, J_eq, I_l, J_i, I_div, J_div, b2_0, b2_1, b2_nar, nar_0, nar_1, zr_0, zr_1, zr_b2, cmp_eq, cmp_le, cmp_lt, cmp_gt, cmp_ge, mx_I, mn_I, mx_L, mn_L, az_I, if_true, if_false, not_true_eq_false, not_false_eq_true, Bool.false_eq_true, i_0, i_1, i_2, i_3, i_4, i_5, i_6, i_7, i_8, i_9, i_10, i_11, i_12, i_16, i_18, i_20, i_24, i_28, i_29, i_30, i_31, i_32, i_33, i_34, i_35, i_37, i_40, i_41, i_42, i_43, i_45, i_46, i_47, i_48, i_57, i_59, i_63, i_64, i_96, i_97, i_98, i_99, i_100, i_101, i_102, i_103, i_104, i_105, i_106, i_107, i_108, i_109, i_110, i_111, i_112, i_113, i_122, i_200, i_255, i_256, i_257, i_258, i_355, i_400, i_999, i_1000, i_1200, i_5680, i_9999, i_10000, i_99999, j_0, j_1, j_2, j_3, j_4, j_5, j_6, j_9, j_10, j_11, j_98, j_99, j_100, j_999, j_1000, j_9999, j_10000, j_99999, j_1000000, h1, u1]
  rcases k1 with e | hg
  · obtain ⟨μ', x1, x2, x3, x4⟩ := run 0 (by rw [e]; rfl)
    refine ⟨μ', ?_, x3, x4⟩
    rw [x1]
    have e2 : offv (K mk) q p l m c = 0 := by rw [e]; rfl
    have e3 : ((0 : Nat) : Int) = 0 := rfl
    rw [e2, e3]
    simp (disch := omega) only [fX9_offOf_133, Int.reduceEq, Int.reduceNe, Int.reduceLT, Int.reduceLE, Int.reduceAdd, Int.reduceSub, Int.reduceMul, Int.reduceNeg, Int.zero_add, Int.add_zero, nm_eq, bd_some, bv_some, aI_ok, aL_ok, aS_ok, dv_ok, dw_ok, I_add, I_sub, I_mul, I_neg, I_lt, I_le, I_eq, I_nat, J_add, J_sub, J_mul, J_neg, J_lt, J_le, J_eq, I_l, J_i, I_div, J_div, b2_0, b2_1, b2_nar, nar_0, nar_1, zr_0, zr_1, zr_b2, cmp_eq, cmp_le, cmp_lt, cmp_gt, cmp_ge, mx_I, mn_I, mx_L, mn_L, az_I, if_true, if_false, not_true_eq_false, not_false_eq_true, Bool.false_eq_true, i_0, i_1, i_2, i_3, i_4, i_5, i_6, i_7, i_8, i_9, i_10, i_11, i_12, i_16, i_18, i_20, i_24, i_28, i_29, i_30, i_31, i_32, i_33, i_34, i_35, i_37, i_40, i_41, i_42, i_43, i_45, i_46, i_47, i_48, i_57, i_59, i_63, i_64, i_96, i_97, i_98, i_99, i_100, i_101, i_102, i_103, i_104, i_105, i_106, i_107, i_108, i_109, i_110, i_111, i_112, i_113, i_122, i_200, i_255, i_256, i_257, i_258, i_355, i_400, i_999, i_1000, i_1200, i_5680, i_9999, i_10000, i_99999, j_0, j_1, j_2, j_3, j_4, j_5, j_6, j_9, j_10, j_11, j_98, j_99, j_100, j_999, j_1000, j_9999, j_10000, j_99999, j_1000000]
  · obtain ⟨μ', x1, x2, x3, x4⟩ := run 1 hg
    refine ⟨μ', ?_, x3, x4⟩
    have hlen := stk_len (E := lv q p l m c) (K mk) (st := []) hg
    obtain ⟨a, ea⟩ := len1 hlen
    unfold offv at ob ⊢
    rw [ea] at x2 ob
    rw [x1, ea]
    have ha : μ'.2.1 (b + 11) 0 = J_ a := x2.1.1
    have e3 : ((1 : Nat) : Int) = 1 := rfl
    have e4 : (0 : Int).toNat = 0 := rfl
    rw [e3]
    show fX9_offOf_133 N (b + 7) (I_ 1) μ' = some (I_ a, μ')
    simp (disch := omega) only [fX9_offOf_133, Int.reduceEq, Int.reduceNe, Int.reduceLT, Int.reduceLE, Int.reduceAdd, Int.reduceSub, Int.reduceMul, Int.reduceNeg, Int.zero_add, Int.add_zero, nm_eq, bd_some, bv_some, aI_ok, aL_ok, aS_ok, dv_ok, dw_ok, I_add, I_sub, I_mul, I_neg, I_lt, I_le, I_eq, I_nat, J_add, J_sub, J_mul, J_neg, J_lt, J_le, J_eq, I_l, J_i, I_div, J_div, b2_0, b2_1, b2_nar, nar_0, nar_1, zr_0, zr_1, zr_b2, cmp_eq, cmp_le, cmp_lt, cmp_gt, cmp_ge, mx_I, mn_I, mx_L, mn_L, az_I, if_true, if_false, not_true_eq_false, not_false_eq_true, Bool.false_eq_true, i_0, i_1, i_2, i_3, i_4, i_5, i_6, i_7, i_8, i_9, i_10, i_11, i_12, i_16, i_18, i_20, i_24, i_28, i_29, i_30, i_31, i_32, i_33, i_34, i_35, i_37, i_40, i_41, i_42, i_43, i_45, i_46, i_47, i_48, i_57, i_59, i_63, i_64, i_96, i_97, i_98, i_99, i_100, i_101, i_102, i_103, i_104, i_105, i_106, i_107, i_108, i_109, i_110, i_111, i_112, i_113, i_122, i_200, i_255, i_256, i_257, i_258, i_355, i_400, i_999, i_1000, i_1200, i_5680, i_9999, i_10000, i_99999, j_0, j_1, j_2, j_3, j_4, j_5, j_6, j_9, j_10, j_11, j_98, j_99, j_100, j_999, j_1000, j_9999, j_10000, j_99999, j_1000000, ha, e4]
end
