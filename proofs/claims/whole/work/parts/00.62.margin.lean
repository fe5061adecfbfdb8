/-! Division that rounds down; SUM, MARGIN, UNDERTAKING of a gathering. -/
theorem xor_sign (x y : Int64) : ((x ^^^ y).toInt < 0) ↔ ¬ ((x.toInt < 0) ↔ (y.toInt < 0)) := by
  have h := BitVec.msb_xor (x := x.toBitVec) (y := y.toBitVec)
  rw [BitVec.msb_eq_toInt, BitVec.msb_eq_toInt, BitVec.msb_eq_toInt] at h
  have e : (x.toBitVec ^^^ y.toBitVec).toInt = (x ^^^ y).toInt := rfl
  have e1 : x.toBitVec.toInt = x.toInt := rfl
  have e2 : y.toBitVec.toInt = y.toInt := rfl
  rw [e, e1, e2] at h
  clear e e1 e2
  by_cases h1 : x.toInt < 0 <;> by_cases h2 : y.toInt < 0 <;> by_cases h3 : (x ^^^ y).toInt < 0 <;> first | (simp_all; done) | (simp_all; omega)
theorem cmp_x (x : Int64) : (I_ 0 ≤ lg_cmp x (J_ 0)) = (0 ≤ x.toInt) := by
  have h1 := Int64.le_toInt x
  have h2 := Int64.toInt_lt x
  have e := cmp_ge (a := x.toInt) (b := 0) (by omega) (by omega) (by omega) (by omega)
  rw [← J_of x] at e
  exact e
/-- a / b, rounded down -/
def fl (a b : Int) : Int := if (a < 0 ↔ b < 0) ∨ a.tdiv b * b = a then a.tdiv b else a.tdiv b - 1
theorem td_0 {a b : Int} (ha : 0 ≤ a) (hb : b ≠ 0) : 0 ≤ a.tdiv b * b ∧ a.tdiv b * b ≤ a := by
  rw [Int.tdiv_eq_ediv_of_nonneg ha]
  refine ⟨?_, Int.ediv_mul_le a hb⟩
  rcases Int.lt_or_gt_of_ne hb with h | h
  · obtain ⟨c, rfl⟩ : ∃ c, b = -c := ⟨-b, by omega⟩
    rw [Int.ediv_neg, Int.neg_mul_neg]
    exact Int.mul_nonneg (Int.ediv_nonneg ha (by omega)) (by omega)
  · exact Int.mul_nonneg (Int.ediv_nonneg ha (by omega)) (by omega)
theorem td_n {a b : Int} (ha : a ≤ 0) (hb : b ≠ 0) : a ≤ a.tdiv b * b ∧ a.tdiv b * b ≤ 0 := by
  obtain ⟨c, rfl⟩ : ∃ c, a = -c := ⟨-a, by omega⟩
  have := td_0 (a := c) (b := b) (by omega) hb
  rw [Int.neg_tdiv, Int.neg_mul]
  omega
theorem td_in {a b A : Int} (h1 : -A ≤ a) (h2 : a ≤ A) : -A ≤ a.tdiv b ∧ a.tdiv b ≤ A := by
  have key : ∀ c d : Int, 0 ≤ c → c ≤ A → -A ≤ c.tdiv d ∧ c.tdiv d ≤ A := by
    intro c d h3 h4
    rw [Int.tdiv_eq_ediv_of_nonneg h3]
    rcases Int.le_total 0 d with h | h
    · have := Int.ediv_nonneg h3 h
      have := Int.ediv_le_self d h3
      omega
    · obtain ⟨e, rfl⟩ : ∃ e, d = -e := ⟨-d, by omega⟩
      rw [Int.ediv_neg]
      have := Int.ediv_nonneg h3 (show 0 ≤ e by omega)
      have := Int.ediv_le_self e h3
      omega
  rcases Int.le_total 0 a with h | h
  · exact key a b h h2
  · obtain ⟨c, rfl⟩ : ∃ c, a = -c := ⟨-a, by omega⟩
    have := key c b (by omega) (by omega)
    rw [Int.neg_tdiv]
    omega
theorem fl_in {a b A : Int} (h1 : -A ≤ a) (h2 : a ≤ A) : -A - 1 ≤ fl a b ∧ fl a b ≤ A := by
  have := td_in (b := b) h1 h2
  unfold fl
  split <;> omega
theorem c_fdiv {N : Nat} {μ : Mem} {a b : Int} (a1 : -9000000000000000000 ≤ a) (a2 : a ≤ 9000000000000000000) (hb : b ≠ 0) (b1 : -9000000000000000000 ≤ b) (b2' : b ≤ 9000000000000000000) : fJ9_floorDiv_f86c9 N (J_ a) (J_ b) μ = some (J_ (fl a b), μ) := by
  have hs := xor_sign (J_ a) (J_ b)
  rw [J_toInt (by omega) (by omega), J_toInt (by omega) (by omega)] at hs
  have hq : -9000000000000000000 ≤ a.tdiv b * b ∧ a.tdiv b * b ≤ 9000000000000000000 := by
    rcases Int.le_total 0 a with h | h
    · have := td_0 h hb; omega
    · have := td_n h hb; omega
  unfold fJ9_floorDiv_f86c9 fl
  by_cases h1 : (J_ a ^^^ J_ b).toInt < 0
  · have h1' : ¬ 0 ≤ (J_ a ^^^ J_ b).toInt := by omega
    have h2 := hs.mp h1
    by_cases h3 : a.tdiv b * b = a
    · rw [if_pos (Or.inr h3)]
      simp (disch := omega) only [Int.reduceEq, Int.reduceNe, Int.reduceLT, Int.reduceLE, Int.reduceAdd, Int.reduceSub, Int.reduceMul, Int.reduceNeg, Int.zero_add, Int.add_zero, nm_eq, bd_some, bv_some, aI_ok, aL_ok, aS_ok, dv_ok, dw_ok, I_add, I_sub, I_mul, I_neg, I_lt, I_le, I_eq, I_nat, J_add, J_sub, J_mul, J_neg, J_lt, J_le, J_eq, I_l, J_i, I_div, J_div, b2_0, b2_1, b2_nar, nar_0, nar_1, zr_0, zr_1, zr_b2, cmp_eq, cmp_le, cmp_lt, cmp_gt, cmp_ge, mx_I, mn_I, mx_L, mn_L, az_I, if_true, if_false, not_true_eq_false, not_false_eq_true, i_0, i_1, i_2, i_3, i_4, i_5, i_6, i_7, i_8, i_9, i_10, i_11, i_12, i_16, i_18, i_20, i_24, i_28, i_29, i_30, i_31, i_32, i_33, i_34, i_35, i_37, i_40, i_41, i_42, i_43, i_45, i_46, i_47, i_48, i_57, i_59, i_63, i_64, i_96, i_97, i_98, i_99, i_100, i_101, i_102, i_103, i_104, i_105, i_106, i_107, i_108, i_109, i_110, i_111, i_112, i_113, i_122, i_200, i_255, i_256, i_257, i_258, i_355, i_400, i_999, i_1000, i_1200, i_5680, i_9999, i_10000, i_99999, j_0, j_1, j_2, j_3, j_4, j_5, j_6, j_9, j_10, j_11, j_98, j_99, j_100, j_999, j_1000, j_9999, j_10000, j_99999, j_1000000, J_tdiv, cmp_x, h1', h3]
    · rw [if_neg (fun q => q.elim h2 h3)]
      simp (disch := omega) only [Int.reduceEq, Int.reduceNe, Int.reduceLT, Int.reduceLE, Int.reduceAdd, Int.reduceSub, Int.reduceMul, Int.reduceNeg, Int.zero_add, Int.add_zero, nm_eq, bd_some, bv_some, aI_ok, aL_ok, aS_ok, dv_ok, dw_ok, I_add, I_sub, I_mul, I_neg, I_lt, I_le, I_eq, I_nat, J_add, J_sub, J_mul, J_neg, J_lt, J_le, J_eq, I_l, J_i, I_div, J_div, b2_0, b2_1, b2_nar, nar_0, nar_1, zr_0, zr_1, zr_b2, cmp_eq, cmp_le, cmp_lt, cmp_gt, cmp_ge, mx_I, mn_I, mx_L, mn_L, az_I, if_true, if_false, not_true_eq_false, not_false_eq_true, i_0, i_1, i_2, i_3, i_4, i_5, i_6, i_7, i_8, i_9, i_10, i_11, i_12, i_16, i_18, i_20, i_24, i_28, i_29, i_30, i_31, i_32, i_33, i_34, i_35, i_37, i_40, i_41, i_42, i_43, i_45, i_46, i_47, i_48, i_57, i_59, i_63, i_64, i_96, i_97, i_98, i_99, i_100, i_101, i_102, i_103, i_104, i_105, i_106, i_107, i_108, i_109, i_110, i_111, i_112, i_113, i_122, i_200, i_255, i_256, i_257, i_258, i_355, i_400, i_999, i_1000, i_1200, i_5680, i_9999, i_10000, i_99999, j_0, j_1, j_2, j_3, j_4, j_5, j_6, j_9, j_10, j_11, j_98, j_99, j_100, j_999, j_1000, j_9999, j_10000, j_99999, j_1000000, J_tdiv, cmp_x, h1', h3]
  · have h1' : 0 ≤ (J_ a ^^^ J_ b).toInt := by omega
    have h2 : a < 0 ↔ b < 0 := by
      by_cases h : a < 0 ↔ b < 0
      · exact h
      · exact absurd (hs.mpr h) h1
    rw [if_pos (Or.inl h2)]
    simp (disch := omega) only [Int.reduceEq, Int.reduceNe, Int.reduceLT, Int.reduceLE, Int.reduceAdd, Int.reduceSub, Int.reduceMul, Int.reduceNeg, Int.zero_add, Int.add_zero, nm_eq, bd_some, bv_some, aI_ok, aL_ok, aS_ok, dv_ok, dw_ok, I_add, I_sub, I_mul, I_neg, I_lt, I_le, I_eq, I_nat, J_add, J_sub, J_mul, J_neg, J_lt, J_le, J_eq, I_l, J_i, I_div, J_div, b2_0, b2_1, b2_nar, nar_0, nar_1, zr_0, zr_1, zr_b2, cmp_eq, cmp_le, cmp_lt, cmp_gt, cmp_ge, mx_I, mn_I, mx_L, mn_L, az_I, if_true, if_false, not_true_eq_false, not_false_eq_true, i_0, i_1, i_2, i_3, i_4, i_5, i_6, i_7, i_8, i_9, i_10, i_11, i_12, i_16, i_18, i_20, i_24, i_28, i_29, i_30, i_31, i_32, i_33, i_34, i_35, i_37, i_40, i_41, i_42, i_43, i_45, i_46, i_47, i_48, i_57, i_59, i_63, i_64, i_96, i_97, i_98, i_99, i_100, i_101, i_102, i_103, i_104, i_105, i_106, i_107, i_108, i_109, i_110, i_111, i_112, i_113, i_122, i_200, i_255, i_256, i_257, i_258, i_355, i_400, i_999, i_1000, i_1200, i_5680, i_9999, i_10000, i_99999, j_0, j_1, j_2, j_3, j_4, j_5, j_6, j_9, j_10, j_11, j_98, j_99, j_100, j_999, j_1000, j_9999, j_10000, j_99999, j_1000000, J_tdiv, cmp_x, h1']
/-- what MARGIN and INJURY are of a sum and a value -/
def mg (s v : Int) : Int := if v ≤ 0 then (if s = 0 then 0 else 99999) else if s < 0 then 0 else min 99999 (10000 * s / v)
theorem mg_in (s v : Int) : 0 ≤ mg s v ∧ mg s v ≤ 99999 := by
  unfold mg
  (repeat' split) <;> first | omega | skip
  have := Int.ediv_nonneg (a := 10000 * s) (b := v) (by omega) (by omega)
  omega
theorem c_mg {N : Nat} {μ : Mem} {s v : Int} (s0 : -600000000000000 ≤ s) (s1 : s ≤ 600000000000000) (v0 : -10000000000000 ≤ v) (v1 : v ≤ 10000000000000) : fX2_marginOf N (J_ s) (J_ v) μ = some (I_ (mg s v), μ) := by
  unfold fX2_marginOf mg
  by_cases hv : v ≤ 0
  · have hv' : ¬ 0 < v := by omega
    rw [if_pos hv]
    by_cases hs : s = 0
    · rw [if_pos hs]
      simp (disch := omega) only [Int.reduceEq, Int.reduceNe, Int.reduceLT, Int.reduceLE, Int.reduceAdd, Int.reduceSub, Int.reduceMul, Int.reduceNeg, Int.zero_add, Int.add_zero, nm_eq, bd_some, bv_some, aI_ok, aL_ok, aS_ok, dv_ok, dw_ok, I_add, I_sub, I_mul, I_neg, I_lt, I_le, I_eq, I_nat, J_add, J_sub, J_mul, J_neg, J_lt, J_le, J_eq, I_l, J_i, I_div, J_div, b2_0, b2_1, b2_nar, nar_0, nar_1, zr_0, zr_1, zr_b2, cmp_eq, cmp_le, cmp_lt, cmp_gt, cmp_ge, mx_I, mn_I, mx_L, mn_L, az_I, if_true, if_false, not_true_eq_false, not_false_eq_true, i_0, i_1, i_2, i_3, i_4, i_5, i_6, i_7, i_8, i_9, i_10, i_11, i_12, i_16, i_18, i_20, i_24, i_28, i_29, i_30, i_31, i_32, i_33, i_34, i_35, i_37, i_40, i_41, i_42, i_43, i_45, i_46, i_47, i_48, i_57, i_59, i_63, i_64, i_96, i_97, i_98, i_99, i_100, i_101, i_102, i_103, i_104, i_105, i_106, i_107, i_108, i_109, i_110, i_111, i_112, i_113, i_122, i_200, i_255, i_256, i_257, i_258, i_355, i_400, i_999, i_1000, i_1200, i_5680, i_9999, i_10000, i_99999, j_0, j_1, j_2, j_3, j_4, j_5, j_6, j_9, j_10, j_11, j_98, j_99, j_100, j_999, j_1000, j_9999, j_10000, j_99999, j_1000000, hv', hs]
    · rw [if_neg hs]
      simp (disch := omega) only [Int.reduceEq, Int.reduceNe, Int.reduceLT, Int.reduceLE, Int.reduceAdd, Int.reduceSub, Int.reduceMul, Int.reduceNeg, Int.zero_add, Int.add_zero, nm_eq, bd_some, bv_some, aI_ok, aL_ok, aS_ok, dv_ok, dw_ok, I_add, I_sub, I_mul, I_neg, I_lt, I_le, I_eq, I_nat, J_add, J_sub, J_mul, J_neg, J_lt, J_le, J_eq, I_l, J_i, I_div, J_div, b2_0, b2_1, b2_nar, nar_0, nar_1, zr_0, zr_1, zr_b2, cmp_eq, cmp_le, cmp_lt, cmp_gt, cmp_ge, mx_I, mn_I, mx_L, mn_L, az_I, if_true, if_false, not_true_eq_false, not_false_eq_true, i_0, i_1, i_2, i_3, i_4, i_5, i_6, i_7, i_8, i_9, i_10, i_11, i_12, i_16, i_18, i_20, i_24, i_28, i_29, i_30, i_31, i_32, i_33, i_34, i_35, i_37, i_40, i_41, i_42, i_43, i_45, i_46, i_47, i_48, i_57, i_59, i_63, i_64, i_96, i_97, i_98, i_99, i_100, i_101, i_102, i_103, i_104, i_105, i_106, i_107, i_108, i_109, i_110, i_111, i_112, i_113, i_122, i_200, i_255, i_256, i_257, i_258, i_355, i_400, i_999, i_1000, i_1200, i_5680, i_9999, i_10000, i_99999, j_0, j_1, j_2, j_3, j_4, j_5, j_6, j_9, j_10, j_11, j_98, j_99, j_100, j_999, j_1000, j_9999, j_10000, j_99999, j_1000000, hv', hs]
  · have hv' : 0 < v := by omega
    rw [if_neg hv]
    have hf := fl_in (a := 10000 * s) (b := v) (A := 6000000000000000000) (by omega) (by omega)
    by_cases hs : s < 0
    · rw [if_pos hs]
      have : fl (10000 * s) v ≤ 0 := by
        have h := td_n (a := 10000 * s) (b := v) (by omega) (by omega)
        have h2 : (10000 * s).tdiv v ≤ 0 := by
          rcases Int.lt_or_le 0 ((10000 * s).tdiv v) with q | q
          · have := Int.mul_pos q hv'; omega
          · exact q
        unfold fl
        split <;> omega
      have e : max 0 (min 99999 (fl (10000 * s) v)) = 0 := by omega
      simp (disch := omega) only [Int.reduceEq, Int.reduceNe, Int.reduceLT, Int.reduceLE, Int.reduceAdd, Int.reduceSub, Int.reduceMul, Int.reduceNeg, Int.zero_add, Int.add_zero, nm_eq, bd_some, bv_some, aI_ok, aL_ok, aS_ok, dv_ok, dw_ok, I_add, I_sub, I_mul, I_neg, I_lt, I_le, I_eq, I_nat, J_add, J_sub, J_mul, J_neg, J_lt, J_le, J_eq, I_l, J_i, I_div, J_div, b2_0, b2_1, b2_nar, nar_0, nar_1, zr_0, zr_1, zr_b2, cmp_eq, cmp_le, cmp_lt, cmp_gt, cmp_ge, mx_I, mn_I, mx_L, mn_L, az_I, if_true, if_false, not_true_eq_false, not_false_eq_true, i_0, i_1, i_2, i_3, i_4, i_5, i_6, i_7, i_8, i_9, i_10, i_11, i_12, i_16, i_18, i_20, i_24, i_28, i_29, i_30, i_31, i_32, i_33, i_34, i_35, i_37, i_40, i_41, i_42, i_43, i_45, i_46, i_47, i_48, i_57, i_59, i_63, i_64, i_96, i_97, i_98, i_99, i_100, i_101, i_102, i_103, i_104, i_105, i_106, i_107, i_108, i_109, i_110, i_111, i_112, i_113, i_122, i_200, i_255, i_256, i_257, i_258, i_355, i_400, i_999, i_1000, i_1200, i_5680, i_9999, i_10000, i_99999, j_0, j_1, j_2, j_3, j_4, j_5, j_6, j_9, j_10, j_11, j_98, j_99, j_100, j_999, j_1000, j_9999, j_10000, j_99999, j_1000000, hv', c_fdiv, e]
    · rw [if_neg hs]
      have e0 : fl (10000 * s) v = 10000 * s / v := by
        unfold fl
        rw [if_pos (Or.inl ⟨fun h => by omega, fun h => by omega⟩), Int.tdiv_eq_ediv_of_nonneg (by omega)]
      have h0 := Int.ediv_nonneg (a := 10000 * s) (b := v) (by omega) (by omega)
      have e : max 0 (min 99999 (fl (10000 * s) v)) = min 99999 (10000 * s / v) := by omega
      simp (disch := omega) only [Int.reduceEq, Int.reduceNe, Int.reduceLT, Int.reduceLE, Int.reduceAdd, Int.reduceSub, Int.reduceMul, Int.reduceNeg, Int.zero_add, Int.add_zero, nm_eq, bd_some, bv_some, aI_ok, aL_ok, aS_ok, dv_ok, dw_ok, I_add, I_sub, I_mul, I_neg, I_lt, I_le, I_eq, I_nat, J_add, J_sub, J_mul, J_neg, J_lt, J_le, J_eq, I_l, J_i, I_div, J_div, b2_0, b2_1, b2_nar, nar_0, nar_1, zr_0, zr_1, zr_b2, cmp_eq, cmp_le, cmp_lt, cmp_gt, cmp_ge, mx_I, mn_I, mx_L, mn_L, az_I, if_true, if_false, not_true_eq_false, not_false_eq_true, i_0, i_1, i_2, i_3, i_4, i_5, i_6, i_7, i_8, i_9, i_10, i_11, i_12, i_16, i_18, i_20, i_24, i_28, i_29, i_30, i_31, i_32, i_33, i_34, i_35, i_37, i_40, i_41, i_42, i_43, i_45, i_46, i_47, i_48, i_57, i_59, i_63, i_64, i_96, i_97, i_98, i_99, i_100, i_101, i_102, i_103, i_104, i_105, i_106, i_107, i_108, i_109, i_110, i_111, i_112, i_113, i_122, i_200, i_255, i_256, i_257, i_258, i_355, i_400, i_999, i_1000, i_1200, i_5680, i_9999, i_10000, i_99999, j_0, j_1, j_2, j_3, j_4, j_5, j_6, j_9, j_10, j_11, j_98, j_99, j_100, j_999, j_1000, j_9999, j_10000, j_99999, j_1000000, hv', c_fdiv, e]
def g_us (V : Vw) (f t r : Int) (Z : Prop) [Decidable Z] (k : Int) : Int := if Z then max 0 (uD V f t r k) else uD V f t r k
def x_us (V : Vw) (f t r : Int) (Z : Prop) [Decidable Z] : Int := sg (uN V f t).toNat 0 (g_us V f t r Z)
section
variable {N : Nat} {b : Nat} {V : Vw} {f t : Int}
theorem uD_in (hV : vB V) {r k : Int} (r0 : 0 ≤ r) (r1 : r ≤ 9999) (k0 : 0 ≤ k) (k1 : k < uN V f t) : -12387600000000 ≤ uD V f t r k ∧ uD V f t r k ≤ 12387600000000 := by
  have a := uW_in hV k0 k1
  have c := uA_in hV f t k
  have d := uM_in hV f t k
  have h := mul_ab (a := uM V f t k) (A := 39960) (b := uW V f t k - uA V f t k - 1000 * r) (B := 310000000) (by omega) (by omega) (by omega) (by omega)
  unfold uD
  rw [Int.mul_comm]
  omega
theorem g_us_in {Z : Prop} [Decidable Z] (hV : vB V) {r k : Int} (r0 : 0 ≤ r) (r1 : r ≤ 9999) (k0 : 0 ≤ k) (k1 : k < uN V f t) : -12387600000000 ≤ g_us V f t r Z k ∧ g_us V f t r Z k ≤ 12387600000000 := by
  have := uD_in hV r0 r1 k0 k1
  unfold g_us
  split <;> omega
theorem x_us_in {Z : Prop} [Decidable Z] (hV : vB V) {r : Int} (r0 : 0 ≤ r) (r1 : r ≤ 9999) : -600000000000000 ≤ x_us V f t r Z ∧ x_us V f t r Z ≤ 600000000000000 := by
  have hn := hV.1
  unfold vN at hn
  have hu := uN_in hV f t
  have := sg_bound (g := g_us V f t r Z) (lo := -12387600000000) (hi := 12387600000000) (uN V f t).toNat 0 (fun z a c => g_us_in hV r0 r1 a (by omega))
  unfold x_us
  omega
theorem c_dAt (hV : vB V) {μ : Mem} (hC : CP V f t μ) {r k : Int} (r0 : 0 ≤ r) (r1 : r ≤ 9999) (k0 : 0 ≤ k) (k1 : k < uN V f t) : fX2_differenceAt N (I_ k) (I_ r) μ = some (J_ (uD V f t r k), μ) := by
  have hn := hV.1
  unfold vN at hn
  have hu := uN_in hV f t
  have d := uM_in hV f t k
  obtain ⟨q1, q2, q3, q4⟩ := hC.2.2.2 k k0 k1
  unfold uD
  simp (disch := omega) only [fX2_differenceAt, Int.reduceEq, Int.reduceNe, Int.reduceLT, Int.reduceLE, Int.reduceAdd, Int.reduceSub, Int.reduceMul, Int.reduceNeg, Int.zero_add, Int.add_zero, nm_eq, bd_some, bv_some, aI_ok, aL_ok, aS_ok, dv_ok, dw_ok, I_add, I_sub, I_mul, I_neg, I_lt, I_le, I_eq, I_nat, J_add, J_sub, J_mul, J_neg, J_lt, J_le, J_eq, I_l, J_i, I_div, J_div, b2_0, b2_1, b2_nar, nar_0, nar_1, zr_0, zr_1, zr_b2, cmp_eq, cmp_le, cmp_lt, cmp_gt, cmp_ge, mx_I, mn_I, mx_L, mn_L, az_I, if_true, if_false, not_true_eq_false, not_false_eq_true, i_0, i_1, i_2, i_3, i_4, i_5, i_6, i_7, i_8, i_9, i_10, i_11, i_12, i_16, i_18, i_20, i_24, i_28, i_29, i_30, i_31, i_32, i_33, i_34, i_35, i_37, i_40, i_41, i_42, i_43, i_45, i_46, i_47, i_48, i_57, i_59, i_63, i_64, i_96, i_97, i_98, i_99, i_100, i_101, i_102, i_103, i_104, i_105, i_106, i_107, i_108, i_109, i_110, i_111, i_112, i_113, i_122, i_200, i_255, i_256, i_257, i_258, i_355, i_400, i_999, i_1000, i_1200, i_5680, i_9999, i_10000, i_99999, j_0, j_1, j_2, j_3, j_4, j_5, j_6, j_9, j_10, j_11, j_98, j_99, j_100, j_999, j_1000, j_9999, j_10000, j_99999, j_1000000, q2, q3, q4]
theorem c_sum_l {Z : Prop} [Decidable Z] (hV : vB V) {μ : Mem} (hC : CP V f t μ) {r : Int} (r0 : 0 ≤ r) (r1 : r ≤ 9999) : ∀ (d n : Nat) (k acc : Int), d < n → 0 ≤ k → k + d = uN V f t → fX2_sumAt_5 N n (I_ (b2 Z)) (I_ r) (J_ acc) (I_ k) μ = some (J_ (acc + sg d k (g_us V f t r Z)), μ) := by
  have hn := hV.1
  unfold vN at hn
  have hu := uN_in hV f t
  intro d
  induction d with
  | zero =>
    intro n k acc h1 h2 h3
    obtain ⟨n, rfl⟩ : ∃ m, n = m + 1 := ⟨n - 1, by omega⟩
    have hle : uN V f t ≤ k := by omega
    simp (disch := omega) only [fX2_sumAt_5, Int.reduceEq, Int.reduceNe, Int.reduceLT, Int.reduceLE, Int.reduceAdd, Int.reduceSub, Int.reduceMul, Int.reduceNeg, Int.zero_add, Int.add_zero, nm_eq, bd_some, bv_some, aI_ok, aL_ok, aS_ok, dv_ok, dw_ok, I_add, I_sub, I_mul, I_neg, I_lt, I_le, I_eq, I_nat, J_add, J_sub, J_mul, J_neg, J_lt, J_le, J_eq, I_l, J_i, I_div, J_div, b2_0, b2_1, b2_nar, nar_0, nar_1, zr_0, zr_1, zr_b2, cmp_eq, cmp_le, cmp_lt, cmp_gt, cmp_ge, mx_I, mn_I, mx_L, mn_L, az_I, if_true, if_false, not_true_eq_false, not_false_eq_true, i_0, i_1, i_2, i_3, i_4, i_5, i_6, i_7, i_8, i_9, i_10, i_11, i_12, i_16, i_18, i_20, i_24, i_28, i_29, i_30, i_31, i_32, i_33, i_34, i_35, i_37, i_40, i_41, i_42, i_43, i_45, i_46, i_47, i_48, i_57, i_59, i_63, i_64, i_96, i_97, i_98, i_99, i_100, i_101, i_102, i_103, i_104, i_105, i_106, i_107, i_108, i_109, i_110, i_111, i_112, i_113, i_122, i_200, i_255, i_256, i_257, i_258, i_355, i_400, i_999, i_1000, i_1200, i_5680, i_9999, i_10000, i_99999, j_0, j_1, j_2, j_3, j_4, j_5, j_6, j_9, j_10, j_11, j_98, j_99, j_100, j_999, j_1000, j_9999, j_10000, j_99999, j_1000000, hC.1, hle, sg]
  | succ d ih =>
    intro n k acc h1 h2 h3
    obtain ⟨n, rfl⟩ : ∃ m, n = m + 1 := ⟨n - 1, by omega⟩
    have hle : ¬ uN V f t ≤ k := by omega
    have hd := uD_in hV (f := f) (t := t) r0 r1 h2 (by omega)
    by_cases hz : Z
    · have e : g_us V f t r Z k = max 0 (uD V f t r k) := by unfold g_us; rw [if_pos hz]
      have hnz : (¬ Z) = False := eq_false (fun q => q hz)
      simp (disch := omega) only [fX2_sumAt_5, Int.reduceEq, Int.reduceNe, Int.reduceLT, Int.reduceLE, Int.reduceAdd, Int.reduceSub, Int.reduceMul, Int.reduceNeg, Int.zero_add, Int.add_zero, nm_eq, bd_some, bv_some, aI_ok, aL_ok, aS_ok, dv_ok, dw_ok, I_add, I_sub, I_mul, I_neg, I_lt, I_le, I_eq, I_nat, J_add, J_sub, J_mul, J_neg, J_lt, J_le, J_eq, I_l, J_i, I_div, J_div, b2_0, b2_1, b2_nar, nar_0, nar_1, zr_0, zr_1, zr_b2, cmp_eq, cmp_le, cmp_lt, cmp_gt, cmp_ge, mx_I, mn_I, mx_L, mn_L, az_I, if_true, if_false, not_true_eq_false, not_false_eq_true, i_0, i_1, i_2, i_3, i_4, i_5, i_6, i_7, i_8, i_9, i_10, i_11, i_12, i_16, i_18, i_20, i_24, i_28, i_29, i_30, i_31, i_32, i_33, i_34, i_35, i_37, i_40, i_41, i_42, i_43, i_45, i_46, i_47, i_48, i_57, i_59, i_63, i_64, i_96, i_97, i_98, i_99, i_100, i_101, i_102, i_103, i_104, i_105, i_106, i_107, i_108, i_109, i_110, i_111, i_112, i_113, i_122, i_200, i_255, i_256, i_257, i_258, i_355, i_400, i_999, i_1000, i_1200, i_5680, i_9999, i_10000, i_99999, j_0, j_1, j_2, j_3, j_4, j_5, j_6, j_9, j_10, j_11, j_98, j_99, j_100, j_999, j_1000, j_9999, j_10000, j_99999, j_1000000, hC.1, hle, c_dAt hV hC, hnz, ih, sg, e, Int.add_assoc]
    · have e : g_us V f t r Z k = uD V f t r k := by unfold g_us; rw [if_neg hz]
      have hnz : (¬ Z) = True := eq_true hz
      simp (disch := omega) only [fX2_sumAt_5, Int.reduceEq, Int.reduceNe, Int.reduceLT, Int.reduceLE, Int.reduceAdd, Int.reduceSub, Int.reduceMul, Int.reduceNeg, Int.zero_add, Int.add_zero, nm_eq, bd_some, bv_some, aI_ok, aL_ok, aS_ok, dv_ok, dw_ok, I_add, I_sub, I_mul, I_neg, I_lt, I_le, I_eq, I_nat, J_add, J_sub, J_mul, J_neg, J_lt, J_le, J_eq, I_l, J_i, I_div, J_div, b2_0, b2_1, b2_nar, nar_0, nar_1, zr_0, zr_1, zr_b2, cmp_eq, cmp_le, cmp_lt, cmp_gt, cmp_ge, mx_I, mn_I, mx_L, mn_L, az_I, if_true, if_false, not_true_eq_false, not_false_eq_true, i_0, i_1, i_2, i_3, i_4, i_5, i_6, i_7, i_8, i_9, i_10, i_11, i_12, i_16, i_18, i_20, i_24, i_28, i_29, i_30, i_31, i_32, i_33, i_34, i_35, i_37, i_40, i_41, i_42, i_43, i_45, i_46, i_47, i_48, i_57, i_59, i_63, i_64, i_96, i_97, i_98, i_99, i_100, i_101, i_102, i_103, i_104, i_105, i_106, i_107, i_108, i_109, i_110, i_111, i_112, i_113, i_122, i_200, i_255, i_256, i_257, i_258, i_355, i_400, i_999, i_1000, i_1200, i_5680, i_9999, i_10000, i_99999, j_0, j_1, j_2, j_3, j_4, j_5, j_6, j_9, j_10, j_11, j_98, j_99, j_100, j_999, j_1000, j_9999, j_10000, j_99999, j_1000000, hC.1, hle, c_dAt hV hC, hnz, ih, sg, e, Int.add_assoc]
theorem c_sum {Z : Prop} [Decidable Z] (hV : vB V) (hN : 100 ≤ N) {μ : Mem} (hC : CP V f t μ) {r : Int} (r0 : 0 ≤ r) (r1 : r ≤ 9999) : fX2_sumAt N (I_ (b2 Z)) (I_ r) μ = some (J_ (x_us V f t r Z), μ) := by
  have hn := hV.1
  unfold vN at hn
  have hu := uN_in hV f t
  have := c_sum_l (N := N) (Z := Z) hV hC r0 r1 (uN V f t).toNat N 0 0 (by omega) (by omega) (by omega)
  rw [Int.zero_add] at this
  simp (disch := omega) only [fX2_sumAt, Int.reduceEq, Int.reduceNe, Int.reduceLT, Int.reduceLE, Int.reduceAdd, Int.reduceSub, Int.reduceMul, Int.reduceNeg, Int.zero_add, Int.add_zero, nm_eq, bd_some, bv_some, aI_ok, aL_ok, aS_ok, dv_ok, dw_ok, I_add, I_sub, I_mul, I_neg, I_lt, I_le, I_eq, I_nat, J_add, J_sub, J_mul, J_neg, J_lt, J_le, J_eq, I_l, J_i, I_div, J_div, b2_0, b2_1, b2_nar, nar_0, nar_1, zr_0, zr_1, zr_b2, cmp_eq, cmp_le, cmp_lt, cmp_gt, cmp_ge, mx_I, mn_I, mx_L, mn_L, az_I, if_true, if_false, not_true_eq_false, not_false_eq_true, i_0, i_1, i_2, i_3, i_4, i_5, i_6, i_7, i_8, i_9, i_10, i_11, i_12, i_16, i_18, i_20, i_24, i_28, i_29, i_30, i_31, i_32, i_33, i_34, i_35, i_37, i_40, i_41, i_42, i_43, i_45, i_46, i_47, i_48, i_57, i_59, i_63, i_64, i_96, i_97, i_98, i_99, i_100, i_101, i_102, i_103, i_104, i_105, i_106, i_107, i_108, i_109, i_110, i_111, i_112, i_113, i_122, i_200, i_255, i_256, i_257, i_258, i_355, i_400, i_999, i_1000, i_1200, i_5680, i_9999, i_10000, i_99999, j_0, j_1, j_2, j_3, j_4, j_5, j_6, j_9, j_10, j_11, j_98, j_99, j_100, j_999, j_1000, j_9999, j_10000, j_99999, j_1000000, this]
  rfl
theorem x_val_in (hV : vB V) (f : Int) : 0 ≤ x_val V f ∧ x_val V f ≤ 99999000 * x_mn V f 1 := sg_val hV (zN_le hV) (fun z _ _ => by
  unfold g_val g_mn; split
  · exact Or.inr ⟨rfl, rfl⟩
  · exact Or.inl ⟨rfl, rfl⟩)
/-- MARGIN with so much put to each NET -/
def x_ma (V : Vw) (f t r : Int) (Z : Prop) [Decidable Z] : Int := mg (x_us V f t r Z) (x_val V f + 1000 * r * x_mn V f 1)
theorem rm_in (hV : vB V) {r : Int} (r0 : 0 ≤ r) (r1 : r ≤ 9999) : 0 ≤ 1000 * r * x_mn V f 1 ∧ 1000 * r * x_mn V f 1 ≤ 399560040000 := by
  have h := x_mn_in hV f 1
  have := mul_in (a := 1000 * r) (A := 9999000) (b := x_mn V f 1) (B := 39960) (by omega) (by omega) h.1 h.2
  omega
theorem c_ma {Z : Prop} [Decidable Z] (hV : vB V) (hN : 100 ≤ N) {μ : Mem} (hC : CP V f t μ) {r : Int} (r0 : 0 ≤ r) (r1 : r ≤ 9999) : fX2_marginAt N (I_ (b2 Z)) (I_ r) μ = some (I_ (x_ma V f t r Z), μ) := by
  have h1 := x_us_in (f := f) (t := t) (Z := Z) hV r0 r1
  have h2 := x_val_in hV f
  have h3 := x_mn_in hV f 1
  have h4 := rm_in (f := f) hV r0 r1
  unfold x_ma
  simp (disch := omega) only [fX2_marginAt, Int.reduceEq, Int.reduceNe, Int.reduceLT, Int.reduceLE, Int.reduceAdd, Int.reduceSub, Int.reduceMul, Int.reduceNeg, Int.zero_add, Int.add_zero, nm_eq, bd_some, bv_some, aI_ok, aL_ok, aS_ok, dv_ok, dw_ok, I_add, I_sub, I_mul, I_neg, I_lt, I_le, I_eq, I_nat, J_add, J_sub, J_mul, J_neg, J_lt, J_le, J_eq, I_l, J_i, I_div, J_div, b2_0, b2_1, b2_nar, nar_0, nar_1, zr_0, zr_1, zr_b2, cmp_eq, cmp_le, cmp_lt, cmp_gt, cmp_ge, mx_I, mn_I, mx_L, mn_L, az_I, if_true, if_false, not_true_eq_false, not_false_eq_true, i_0, i_1, i_2, i_3, i_4, i_5, i_6, i_7, i_8, i_9, i_10, i_11, i_12, i_16, i_18, i_20, i_24, i_28, i_29, i_30, i_31, i_32, i_33, i_34, i_35, i_37, i_40, i_41, i_42, i_43, i_45, i_46, i_47, i_48, i_57, i_59, i_63, i_64, i_96, i_97, i_98, i_99, i_100, i_101, i_102, i_103, i_104, i_105, i_106, i_107, i_108, i_109, i_110, i_111, i_112, i_113, i_122, i_200, i_255, i_256, i_257, i_258, i_355, i_400, i_999, i_1000, i_1200, i_5680, i_9999, i_10000, i_99999, j_0, j_1, j_2, j_3, j_4, j_5, j_6, j_9, j_10, j_11, j_98, j_99, j_100, j_999, j_1000, j_9999, j_10000, j_99999, j_1000000, c_sum hV hN hC, hC.2.1, hC.2.2.1, c_mg]
theorem c_own {Z : Prop} [Decidable Z] (hV : vB V) (hN : 100 ≤ N) (f0 : 0 ≤ f) (f1 : f < 4) (t0 : 0 ≤ t) (t1 : t ≤ 2) {μ : Mem} (hB : CB b V μ) : ∃ μ', fX2_ownMargin N b (I_ f) (I_ t) (I_ (b2 Z)) μ = some (I_ (x_ma V f t 0 Z), μ') ∧ Fr P_cp μ μ' := by
  obtain ⟨μ', e1, e2, e3, e4⟩ := c_gather (N := N) hV hN f0 f1 t0 t1 hB
  refine ⟨μ', ?_, e2⟩
  unfold fX2_ownMargin
  rw [if_pos hB.1]
  simp (disch := omega) only [Int.reduceEq, Int.reduceNe, Int.reduceLT, Int.reduceLE, Int.reduceAdd, Int.reduceSub, Int.reduceMul, Int.reduceNeg, Int.zero_add, Int.add_zero, nm_eq, bd_some, bv_some, aI_ok, aL_ok, aS_ok, dv_ok, dw_ok, I_add, I_sub, I_mul, I_neg, I_lt, I_le, I_eq, I_nat, J_add, J_sub, J_mul, J_neg, J_lt, J_le, J_eq, I_l, J_i, I_div, J_div, b2_0, b2_1, b2_nar, nar_0, nar_1, zr_0, zr_1, zr_b2, cmp_eq, cmp_le, cmp_lt, cmp_gt, cmp_ge, mx_I, mn_I, mx_L, mn_L, az_I, if_true, if_false, not_true_eq_false, not_false_eq_true, i_0, i_1, i_2, i_3, i_4, i_5, i_6, i_7, i_8, i_9, i_10, i_11, i_12, i_16, i_18, i_20, i_24, i_28, i_29, i_30, i_31, i_32, i_33, i_34, i_35, i_37, i_40, i_41, i_42, i_43, i_45, i_46, i_47, i_48, i_57, i_59, i_63, i_64, i_96, i_97, i_98, i_99, i_100, i_101, i_102, i_103, i_104, i_105, i_106, i_107, i_108, i_109, i_110, i_111, i_112, i_113, i_122, i_200, i_255, i_256, i_257, i_258, i_355, i_400, i_999, i_1000, i_1200, i_5680, i_9999, i_10000, i_99999, j_0, j_1, j_2, j_3, j_4, j_5, j_6, j_9, j_10, j_11, j_98, j_99, j_100, j_999, j_1000, j_9999, j_10000, j_99999, j_1000000, e1, c_ma hV hN e3]
theorem c_now (hV : vB V) (hN : 100 ≤ N) (f0 : 0 ≤ f) (f1 : f < 4) {μ : Mem} (hB : CB b V μ) : ∃ μ', fX2_marginNow N b (I_ f) μ = some (I_ (x_ma V f (s_se V 0) 0 (s_se V 1 = 1)), μ') ∧ Fr P_cp μ μ' := by
  have hn := hV.1
  unfold vN at hn
  obtain ⟨μ', e1, e2, e3, e4⟩ := c_gather (N := N) (t := s_se V 0) hV hN f0 f1 (by omega) (by omega) hB
  have hB' := hB.cp e2
  refine ⟨μ', ?_, e2⟩
  unfold fX2_marginNow
  rw [if_pos hB.1]
  simp (disch := omega) only [Int.reduceEq, Int.reduceNe, Int.reduceLT, Int.reduceLE, Int.reduceAdd, Int.reduceSub, Int.reduceMul, Int.reduceNeg, Int.zero_add, Int.add_zero, nm_eq, bd_some, bv_some, aI_ok, aL_ok, aS_ok, dv_ok, dw_ok, I_add, I_sub, I_mul, I_neg, I_lt, I_le, I_eq, I_nat, J_add, J_sub, J_mul, J_neg, J_lt, J_le, J_eq, I_l, J_i, I_div, J_div, b2_0, b2_1, b2_nar, nar_0, nar_1, zr_0, zr_1, zr_b2, cmp_eq, cmp_le, cmp_lt, cmp_gt, cmp_ge, mx_I, mn_I, mx_L, mn_L, az_I, if_true, if_false, not_true_eq_false, not_false_eq_true, i_0, i_1, i_2, i_3, i_4, i_5, i_6, i_7, i_8, i_9, i_10, i_11, i_12, i_16, i_18, i_20, i_24, i_28, i_29, i_30, i_31, i_32, i_33, i_34, i_35, i_37, i_40, i_41, i_42, i_43, i_45, i_46, i_47, i_48, i_57, i_59, i_63, i_64, i_96, i_97, i_98, i_99, i_100, i_101, i_102, i_103, i_104, i_105, i_106, i_107, i_108, i_109, i_110, i_111, i_112, i_113, i_122, i_200, i_255, i_256, i_257, i_258, i_355, i_400, i_999, i_1000, i_1200, i_5680, i_9999, i_10000, i_99999, j_0, j_1, j_2, j_3, j_4, j_5, j_6, j_9, j_10, j_11, j_98, j_99, j_100, j_999, j_1000, j_9999, j_10000, j_99999, j_1000000, CB_m hB, CB_f hB, CB_co hB, CB_lk hB, CB_tg hB, CB_tc hB, CB_si hB, CB_se hB, e1, c_isZ hV hB', c_ma hV hN e3]
end
