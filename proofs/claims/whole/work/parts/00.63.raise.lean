/-! UNDERTAKING; the margin without a sale. -/
def scn (h : Int → Int) : Nat → Int → Int
  | 0, _ => -1
  | d + 1, r => if h r < 200 then r else scn h d (r + 1)
theorem scn_eq {h : Int → Int} {r : Int} (hr : h r < 200) : ∀ (d : Nat) (r0 : Int), (∀ j, r0 ≤ j → j < r → ¬ h j < 200) → r0 ≤ r → r < r0 + d → scn h d r0 = r := by
  intro d
  induction d with
  | zero => intro r0 _ a c; omega
  | succ d ih =>
    intro r0 hj a c
    unfold scn
    by_cases e : r0 = r
    · rw [e, if_pos hr]
    · rw [if_neg (hj r0 (by omega) (by omega))]
      exact ih (r0 + 1) (fun j x y => hj j (by omega) y) (by omega) (by omega)
theorem scn_none {h : Int → Int} : ∀ (d : Nat) (r0 : Int), (∀ j, r0 ≤ j → j < r0 + d → ¬ h j < 200) → scn h d r0 = -1 := by
  intro d
  induction d with
  | zero => intro r0 _; rfl
  | succ d ih =>
    intro r0 hj
    unfold scn
    rw [if_neg (hj r0 (by omega) (by omega))]
    exact ih (r0 + 1) (fun j x y => hj j (by omega) (by omega))
def x_un (V : Vw) (f t : Int) (Z : Prop) [Decidable Z] : Int := scn (fun r => x_ma V f t r Z) 10000 0
theorem mg_low {s v : Int} (hv : 0 ≤ v) : mg s v < 200 ↔ ((0 < v ∧ 10000 * s < 200 * v) ∨ (v = 0 ∧ s = 0)) := by
  unfold mg
  by_cases h : v ≤ 0
  · rw [if_pos h]
    split <;> omega
  · rw [if_neg h]
    by_cases hs : s < 0
    · rw [if_pos hs]; omega
    · rw [if_neg hs]
      have := Int.ediv_lt_iff_lt_mul (a := 10000 * s) (b := 200) (c := v) (by omega)
      omega
section
variable {N : Nat} {b : Nat} {V : Vw} {f t : Int}
theorem x_us_mono {Z : Prop} [Decidable Z] (hV : vB V) {r q : Int} (h : r ≤ q) : x_us V f t q Z ≤ x_us V f t r Z := by
  unfold x_us
  refine sg_le _ _ (fun k k0 k1 => ?_)
  have hu := uN_in hV f t
  have d := uM_in hV f t k
  have h1 : uD V f t q k ≤ uD V f t r k := by
    unfold uD
    exact Int.mul_le_mul_of_nonneg_right (by omega) d.1
  unfold g_us
  split <;> omega
theorem x_ma_mono {Z : Prop} [Decidable Z] (hV : vB V) (hm : 0 < x_mn V f 1) {r q : Int} (r0 : 0 ≤ r) (h : r ≤ q) (q1 : q ≤ 9999) (hl : x_ma V f t r Z < 200) : x_ma V f t q Z < 200 := by
  have hv := x_val_in hV f
  have h1 := rm_in (f := f) hV r0 (by omega)
  have h2 := rm_in (f := f) (r := q) hV (by omega) q1
  have h3 := x_us_mono (f := f) (t := t) (Z := Z) hV h
  have h4 : 1000 * r * x_mn V f 1 ≤ 1000 * q * x_mn V f 1 := Int.mul_le_mul_of_nonneg_right (by omega) (by omega)
  unfold x_ma at hl ⊢
  rw [mg_low (by omega)] at hl ⊢
  rcases hl with a | a
  · left; omega
  · by_cases hz : 0 < x_val V f + 1000 * q * x_mn V f 1
    · left; omega
    · by_cases hq : 0 < q
      · have := Int.mul_pos (show 0 < 1000 * q by omega) hm
        omega
      · have : q = r := by omega
        right; rw [this]; exact a
theorem c_lr_l {Z : Prop} [Decidable Z] (hV : vB V) (hN : 100 ≤ N) {μ : Mem} (hC : CP V f t μ) (hm : 0 < x_mn V f 1) : ∀ (d n : Nat) (low high it : Int), d < n → high - low ≤ d → 0 ≤ low → low ≤ high → high ≤ 9999 → 0 ≤ it → it + (high - low) ≤ 9999 → x_ma V f t high Z < 200 → (∀ j, 0 ≤ j → j < low → ¬ x_ma V f t j Z < 200) → ∃ r, fX2_leastRaise_25 N n (I_ (b2 Z)) (I_ low) (I_ high) (I_ it) μ = some (I_ r, μ) ∧ 0 ≤ r ∧ r ≤ 9999 ∧ x_ma V f t r Z < 200 ∧ ∀ j, 0 ≤ j → j < r → ¬ x_ma V f t j Z < 200 := by
  intro d
  induction d with
  | zero =>
    intro n low high it h1 h2 h3 h4 h5 h6 h7 h8 h9
    obtain ⟨n, rfl⟩ : ∃ m, n = m + 1 := ⟨n - 1, by omega⟩
    have e : low = high := by omega
    subst e
    refine ⟨low, ?_, h3, h5, h8, h9⟩
    by_cases hi : 9999 ≤ it
    · simp (disch := omega) only [fX2_leastRaise_25, Int.reduceEq, Int.reduceNe, Int.reduceLT, Int.reduceLE, Int.reduceAdd, Int.reduceSub, Int.reduceMul, Int.reduceNeg, Int.zero_add, Int.add_zero, nm_eq, bd_some, bv_some, aI_ok, aL_ok, aS_ok, dv_ok, dw_ok, I_add, I_sub, I_mul, I_neg, I_lt, I_le, I_eq, I_nat, J_add, J_sub, J_mul, J_neg, J_lt, J_le, J_eq, I_l, J_i, I_div, J_div, b2_0, b2_1, b2_nar, nar_0, nar_1, zr_0, zr_1, zr_b2, cmp_eq, cmp_le, cmp_lt, cmp_gt, cmp_ge, mx_I, mn_I, mx_L, mn_L, az_I, if_true, if_false, not_true_eq_false, not_false_eq_true, i_0, i_1, i_2, i_3, i_4, i_5, i_6, i_7, i_8, i_9, i_10, i_11, i_12, i_16, i_18, i_20, i_24, i_28, i_29, i_30, i_31, i_32, i_33, i_34, i_35, i_37, i_40, i_41, i_42, i_43, i_45, i_46, i_47, i_48, i_57, i_59, i_63, i_64, i_96, i_97, i_98, i_99, i_100, i_101, i_102, i_103, i_104, i_105, i_106, i_107, i_108, i_109, i_110, i_111, i_112, i_113, i_122, i_200, i_255, i_256, i_257, i_258, i_355, i_400, i_999, i_1000, i_1200, i_5680, i_9999, i_10000, i_99999, j_0, j_1, j_2, j_3, j_4, j_5, j_6, j_9, j_10, j_11, j_98, j_99, j_100, j_999, j_1000, j_9999, j_10000, j_99999, j_1000000, hi]
    · simp (disch := omega) only [fX2_leastRaise_25, Int.reduceEq, Int.reduceNe, Int.reduceLT, Int.reduceLE, Int.reduceAdd, Int.reduceSub, Int.reduceMul, Int.reduceNeg, Int.zero_add, Int.add_zero, nm_eq, bd_some, bv_some, aI_ok, aL_ok, aS_ok, dv_ok, dw_ok, I_add, I_sub, I_mul, I_neg, I_lt, I_le, I_eq, I_nat, J_add, J_sub, J_mul, J_neg, J_lt, J_le, J_eq, I_l, J_i, I_div, J_div, b2_0, b2_1, b2_nar, nar_0, nar_1, zr_0, zr_1, zr_b2, cmp_eq, cmp_le, cmp_lt, cmp_gt, cmp_ge, mx_I, mn_I, mx_L, mn_L, az_I, if_true, if_false, not_true_eq_false, not_false_eq_true, i_0, i_1, i_2, i_3, i_4, i_5, i_6, i_7, i_8, i_9, i_10, i_11, i_12, i_16, i_18, i_20, i_24, i_28, i_29, i_30, i_31, i_32, i_33, i_34, i_35, i_37, i_40, i_41, i_42, i_43, i_45, i_46, i_47, i_48, i_57, i_59, i_63, i_64, i_96, i_97, i_98, i_99, i_100, i_101, i_102, i_103, i_104, i_105, i_106, i_107, i_108, i_109, i_110, i_111, i_112, i_113, i_122, i_200, i_255, i_256, i_257, i_258, i_355, i_400, i_999, i_1000, i_1200, i_5680, i_9999, i_10000, i_99999, j_0, j_1, j_2, j_3, j_4, j_5, j_6, j_9, j_10, j_11, j_98, j_99, j_100, j_999, j_1000, j_9999, j_10000, j_99999, j_1000000, hi, Int.le_refl]
  | succ d ih =>
    intro n low high it h1 h2 h3 h4 h5 h6 h7 h8 h9
    obtain ⟨n, rfl⟩ : ∃ m, n = m + 1 := ⟨n - 1, by omega⟩
    by_cases e : low = high
    · subst e
      refine ⟨low, ?_, h3, h5, h8, h9⟩
      by_cases hi : 9999 ≤ it
      · simp (disch := omega) only [fX2_leastRaise_25, Int.reduceEq, Int.reduceNe, Int.reduceLT, Int.reduceLE, Int.reduceAdd, Int.reduceSub, Int.reduceMul, Int.reduceNeg, Int.zero_add, Int.add_zero, nm_eq, bd_some, bv_some, aI_ok, aL_ok, aS_ok, dv_ok, dw_ok, I_add, I_sub, I_mul, I_neg, I_lt, I_le, I_eq, I_nat, J_add, J_sub, J_mul, J_neg, J_lt, J_le, J_eq, I_l, J_i, I_div, J_div, b2_0, b2_1, b2_nar, nar_0, nar_1, zr_0, zr_1, zr_b2, cmp_eq, cmp_le, cmp_lt, cmp_gt, cmp_ge, mx_I, mn_I, mx_L, mn_L, az_I, if_true, if_false, not_true_eq_false, not_false_eq_true, i_0, i_1, i_2, i_3, i_4, i_5, i_6, i_7, i_8, i_9, i_10, i_11, i_12, i_16, i_18, i_20, i_24, i_28, i_29, i_30, i_31, i_32, i_33, i_34, i_35, i_37, i_40, i_41, i_42, i_43, i_45, i_46, i_47, i_48, i_57, i_59, i_63, i_64, i_96, i_97, i_98, i_99, i_100, i_101, i_102, i_103, i_104, i_105, i_106, i_107, i_108, i_109, i_110, i_111, i_112, i_113, i_122, i_200, i_255, i_256, i_257, i_258, i_355, i_400, i_999, i_1000, i_1200, i_5680, i_9999, i_10000, i_99999, j_0, j_1, j_2, j_3, j_4, j_5, j_6, j_9, j_10, j_11, j_98, j_99, j_100, j_999, j_1000, j_9999, j_10000, j_99999, j_1000000, hi]
      · simp (disch := omega) only [fX2_leastRaise_25, Int.reduceEq, Int.reduceNe, Int.reduceLT, Int.reduceLE, Int.reduceAdd, Int.reduceSub, Int.reduceMul, Int.reduceNeg, Int.zero_add, Int.add_zero, nm_eq, bd_some, bv_some, aI_ok, aL_ok, aS_ok, dv_ok, dw_ok, I_add, I_sub, I_mul, I_neg, I_lt, I_le, I_eq, I_nat, J_add, J_sub, J_mul, J_neg, J_lt, J_le, J_eq, I_l, J_i, I_div, J_div, b2_0, b2_1, b2_nar, nar_0, nar_1, zr_0, zr_1, zr_b2, cmp_eq, cmp_le, cmp_lt, cmp_gt, cmp_ge, mx_I, mn_I, mx_L, mn_L, az_I, if_true, if_false, not_true_eq_false, not_false_eq_true, i_0, i_1, i_2, i_3, i_4, i_5, i_6, i_7, i_8, i_9, i_10, i_11, i_12, i_16, i_18, i_20, i_24, i_28, i_29, i_30, i_31, i_32, i_33, i_34, i_35, i_37, i_40, i_41, i_42, i_43, i_45, i_46, i_47, i_48, i_57, i_59, i_63, i_64, i_96, i_97, i_98, i_99, i_100, i_101, i_102, i_103, i_104, i_105, i_106, i_107, i_108, i_109, i_110, i_111, i_112, i_113, i_122, i_200, i_255, i_256, i_257, i_258, i_355, i_400, i_999, i_1000, i_1200, i_5680, i_9999, i_10000, i_99999, j_0, j_1, j_2, j_3, j_4, j_5, j_6, j_9, j_10, j_11, j_98, j_99, j_100, j_999, j_1000, j_9999, j_10000, j_99999, j_1000000, hi, Int.le_refl]
    · have hi : ¬ 9999 ≤ it := by omega
      have hl : ¬ high ≤ low := by omega
      have hin := mg_in (x_us V f t ((low + high) / 2) Z) (x_val V f + 1000 * ((low + high) / 2) * x_mn V f 1)
      have hin' : 0 ≤ x_ma V f t ((low + high) / 2) Z ∧ x_ma V f t ((low + high) / 2) Z ≤ 99999 := hin
      by_cases hp : x_ma V f t ((low + high) / 2) Z < 200
      · have hp' : ¬ 200 ≤ x_ma V f t ((low + high) / 2) Z := by omega
        obtain ⟨r, e1, e2⟩ := ih n low ((low + high) / 2) (it + 1) (by omega) (by omega) h3 (by omega) (by omega) (by omega) (by omega) hp h9
        refine ⟨r, ?_, e2⟩
        simp (disch := omega) only [fX2_leastRaise_25, Int.reduceEq, Int.reduceNe, Int.reduceLT, Int.reduceLE, Int.reduceAdd, Int.reduceSub, Int.reduceMul, Int.reduceNeg, Int.zero_add, Int.add_zero, nm_eq, bd_some, bv_some, aI_ok, aL_ok, aS_ok, dv_ok, dw_ok, I_add, I_sub, I_mul, I_neg, I_lt, I_le, I_eq, I_nat, J_add, J_sub, J_mul, J_neg, J_lt, J_le, J_eq, I_l, J_i, I_div, J_div, b2_0, b2_1, b2_nar, nar_0, nar_1, zr_0, zr_1, zr_b2, cmp_eq, cmp_le, cmp_lt, cmp_gt, cmp_ge, mx_I, mn_I, mx_L, mn_L, az_I, if_true, if_false, not_true_eq_false, not_false_eq_true, i_0, i_1, i_2, i_3, i_4, i_5, i_6, i_7, i_8, i_9, i_10, i_11, i_12, i_16, i_18, i_20, i_24, i_28, i_29, i_30, i_31, i_32, i_33, i_34, i_35, i_37, i_40, i_41, i_42, i_43, i_45, i_46, i_47, i_48, i_57, i_59, i_63, i_64, i_96, i_97, i_98, i_99, i_100, i_101, i_102, i_103, i_104, i_105, i_106, i_107, i_108, i_109, i_110, i_111, i_112, i_113, i_122, i_200, i_255, i_256, i_257, i_258, i_355, i_400, i_999, i_1000, i_1200, i_5680, i_9999, i_10000, i_99999, j_0, j_1, j_2, j_3, j_4, j_5, j_6, j_9, j_10, j_11, j_98, j_99, j_100, j_999, j_1000, j_9999, j_10000, j_99999, j_1000000, hi, hl, c_ma hV hN hC, hp', e1]
      · have hp' : 200 ≤ x_ma V f t ((low + high) / 2) Z := by omega
        obtain ⟨r, e1, e2⟩ := ih n ((low + high) / 2 + 1) high (it + 1) (by omega) (by omega) (by omega) (by omega) h5 (by omega) (by omega) h8 (fun j j0 j1 hj => hp (x_ma_mono hV hm j0 (by omega) (by omega) hj))
        refine ⟨r, ?_, e2⟩
        simp (disch := omega) only [fX2_leastRaise_25, Int.reduceEq, Int.reduceNe, Int.reduceLT, Int.reduceLE, Int.reduceAdd, Int.reduceSub, Int.reduceMul, Int.reduceNeg, Int.zero_add, Int.add_zero, nm_eq, bd_some, bv_some, aI_ok, aL_ok, aS_ok, dv_ok, dw_ok, I_add, I_sub, I_mul, I_neg, I_lt, I_le, I_eq, I_nat, J_add, J_sub, J_mul, J_neg, J_lt, J_le, J_eq, I_l, J_i, I_div, J_div, b2_0, b2_1, b2_nar, nar_0, nar_1, zr_0, zr_1, zr_b2, cmp_eq, cmp_le, cmp_lt, cmp_gt, cmp_ge, mx_I, mn_I, mx_L, mn_L, az_I, if_true, if_false, not_true_eq_false, not_false_eq_true, i_0, i_1, i_2, i_3, i_4, i_5, i_6, i_7, i_8, i_9, i_10, i_11, i_12, i_16, i_18, i_20, i_24, i_28, i_29, i_30, i_31, i_32, i_33, i_34, i_35, i_37, i_40, i_41, i_42, i_43, i_45, i_46, i_47, i_48, i_57, i_59, i_63, i_64, i_96, i_97, i_98, i_99, i_100, i_101, i_102, i_103, i_104, i_105, i_106, i_107, i_108, i_109, i_110, i_111, i_112, i_113, i_122, i_200, i_255, i_256, i_257, i_258, i_355, i_400, i_999, i_1000, i_1200, i_5680, i_9999, i_10000, i_99999, j_0, j_1, j_2, j_3, j_4, j_5, j_6, j_9, j_10, j_11, j_98, j_99, j_100, j_999, j_1000, j_9999, j_10000, j_99999, j_1000000, hi, hl, c_ma hV hN hC, hp', e1]
theorem c_lr {Z : Prop} [Decidable Z] (hV : vB V) (hN : 20000 ≤ N) {μ : Mem} (hC : CP V f t μ) (hm : 0 < x_mn V f 1) : fX2_leastRaise N (I_ (b2 Z)) μ = some (I_ (x_un V f t Z), μ) := by
  have hin : 0 ≤ x_ma V f t 9999 Z ∧ x_ma V f t 9999 Z ≤ 99999 := mg_in _ _
  unfold x_un
  by_cases hp : x_ma V f t 9999 Z < 200
  · obtain ⟨r, e1, e2, e3, e4, e5⟩ := c_lr_l (N := N) (Z := Z) hV (by omega) hC hm 9999 N 0 9999 0 (by omega) (by omega) (by omega) (by omega) (by omega) (by omega) (by omega) hp (fun j a c => by omega)
    rw [scn_eq (h := fun r => x_ma V f t r Z) (r := r) e4 10000 0 (fun j a c => e5 j a c) e2 (by omega)]
    simp (disch := omega) only [fX2_leastRaise, Int.reduceEq, Int.reduceNe, Int.reduceLT, Int.reduceLE, Int.reduceAdd, Int.reduceSub, Int.reduceMul, Int.reduceNeg, Int.zero_add, Int.add_zero, nm_eq, bd_some, bv_some, aI_ok, aL_ok, aS_ok, dv_ok, dw_ok, I_add, I_sub, I_mul, I_neg, I_lt, I_le, I_eq, I_nat, J_add, J_sub, J_mul, J_neg, J_lt, J_le, J_eq, I_l, J_i, I_div, J_div, b2_0, b2_1, b2_nar, nar_0, nar_1, zr_0, zr_1, zr_b2, cmp_eq, cmp_le, cmp_lt, cmp_gt, cmp_ge, mx_I, mn_I, mx_L, mn_L, az_I, if_true, if_false, not_true_eq_false, not_false_eq_true, i_0, i_1, i_2, i_3, i_4, i_5, i_6, i_7, i_8, i_9, i_10, i_11, i_12, i_16, i_18, i_20, i_24, i_28, i_29, i_30, i_31, i_32, i_33, i_34, i_35, i_37, i_40, i_41, i_42, i_43, i_45, i_46, i_47, i_48, i_57, i_59, i_63, i_64, i_96, i_97, i_98, i_99, i_100, i_101, i_102, i_103, i_104, i_105, i_106, i_107, i_108, i_109, i_110, i_111, i_112, i_113, i_122, i_200, i_255, i_256, i_257, i_258, i_355, i_400, i_999, i_1000, i_1200, i_5680, i_9999, i_10000, i_99999, j_0, j_1, j_2, j_3, j_4, j_5, j_6, j_9, j_10, j_11, j_98, j_99, j_100, j_999, j_1000, j_9999, j_10000, j_99999, j_1000000, c_ma hV (show 100 ≤ N by omega) hC, hp, e1]
  · rw [scn_none (h := fun r => x_ma V f t r Z) 10000 0 (fun j a c hj => hp (x_ma_mono hV hm a (by omega) (by omega) hj))]
    simp (disch := omega) only [fX2_leastRaise, Int.reduceEq, Int.reduceNe, Int.reduceLT, Int.reduceLE, Int.reduceAdd, Int.reduceSub, Int.reduceMul, Int.reduceNeg, Int.zero_add, Int.add_zero, nm_eq, bd_some, bv_some, aI_ok, aL_ok, aS_ok, dv_ok, dw_ok, I_add, I_sub, I_mul, I_neg, I_lt, I_le, I_eq, I_nat, J_add, J_sub, J_mul, J_neg, J_lt, J_le, J_eq, I_l, J_i, I_div, J_div, b2_0, b2_1, b2_nar, nar_0, nar_1, zr_0, zr_1, zr_b2, cmp_eq, cmp_le, cmp_lt, cmp_gt, cmp_ge, mx_I, mn_I, mx_L, mn_L, az_I, if_true, if_false, not_true_eq_false, not_false_eq_true, i_0, i_1, i_2, i_3, i_4, i_5, i_6, i_7, i_8, i_9, i_10, i_11, i_12, i_16, i_18, i_20, i_24, i_28, i_29, i_30, i_31, i_32, i_33, i_34, i_35, i_37, i_40, i_41, i_42, i_43, i_45, i_46, i_47, i_48, i_57, i_59, i_63, i_64, i_96, i_97, i_98, i_99, i_100, i_101, i_102, i_103, i_104, i_105, i_106, i_107, i_108, i_109, i_110, i_111, i_112, i_113, i_122, i_200, i_255, i_256, i_257, i_258, i_355, i_400, i_999, i_1000, i_1200, i_5680, i_9999, i_10000, i_99999, j_0, j_1, j_2, j_3, j_4, j_5, j_6, j_9, j_10, j_11, j_98, j_99, j_100, j_999, j_1000, j_9999, j_10000, j_99999, j_1000000, c_ma hV (show 100 ≤ N by omega) hC, hp]
/-- a view with one number changed -/
def vset (V : Vw) (k z v : Int) : Vw := fun a c => if a = k ∧ c = z then v else V a c
theorem vset_ne {k z v a c : Int} (h : a ≠ k) : vset V k z v a c = V a c := if_neg (fun q => h q.1)
theorem vset_at {k z v c : Int} : vset V k z v k c = if c = z then v else V k c := by
  unfold vset
  by_cases h : c = z
  · rw [if_pos ⟨rfl, h⟩, if_pos h]
  · rw [if_neg (fun q => h q.2), if_neg h]
/-- a sale that doesn't count -/
abbrev v_no (V : Vw) (i : Int) : Vw := vset V 10 i 0
theorem v_no_B (hV : vB V) (i : Int) : vB (v_no V i) := by
  obtain ⟨h1, h2, h3, h4, h5⟩ := hV
  refine ⟨h1, fun z z0 z1 => ?_, h3, h4, h5⟩
  have h := h2 z z0 z1
  unfold vS at h ⊢
  refine ⟨h.1, h.2.1, h.2.2.1, h.2.2.2.1, h.2.2.2.2.1, h.2.2.2.2.2.1, h.2.2.2.2.2.2.1, h.2.2.2.2.2.2.2.1, h.2.2.2.2.2.2.2.2.1, ?_⟩
  have hl := h.2.2.2.2.2.2.2.2.2
  show 0 ≤ vset V 10 i 0 10 z ∧ vset V 10 i 0 10 z ≤ 1
  rw [vset_at]
  unfold s_li at hl
  split <;> omega
theorem CB_li {μ : Mem} (hB : CB b V μ) {i v : Int} (h0 : 0 ≤ i) : CB b (vset V 10 i v) (stI μ (b + 22) i.toNat (I_ v)) := by
  obtain ⟨h1, ⟨s1, s2, s3⟩, h3, h4, h5, h6, h7, h8⟩ := hB
  refine ⟨h1, ⟨s1, ?_, ?_⟩, ?_, ?_, ?_, ?_, ?_, ?_⟩
  · simp (disch := omega) only [st_ne]; exact s2
  · intro z a c
    obtain ⟨q1, q2, q3, q4, q5, q6, q7, q8, q9, q10⟩ := s3 z a c
    refine ⟨?_, ?_, ?_, ?_, ?_, ?_, ?_, ?_, ?_, ?_⟩
    · simp (disch := omega) only [st_ne]; exact q1
    · simp (disch := omega) only [st_ne]; exact q2
    · simp (disch := omega) only [st_ne]; exact q3
    · simp (disch := omega) only [st_ne]; exact q4
    · simp (disch := omega) only [st_ne]; exact q5
    · simp (disch := omega) only [st_ne]; exact q6
    · simp (disch := omega) only [st_ne]; exact q7
    · simp (disch := omega) only [st_ne]; exact q8
    · simp (disch := omega) only [st_ne]; exact q9
    · show (stI μ (b + 22) i.toNat (I_ v)).1 (b + 22) z.toNat = I_ (vset V 10 i v 10 z)
      rw [at_I a h0, vset_at]
      split
      · rfl
      · exact q10
  · simp (disch := omega) only [st_ne]; exact h3
  · simp (disch := omega) only [st_ne]; exact h4
  · intro m a c
    simp (disch := omega) only [st_ne]; exact h5 m a c
  · intro m a c
    simp (disch := omega) only [st_ne]; exact h6 m a c
  · intro m a c
    simp (disch := omega) only [st_ne]; exact h7 m a c
  · intro m a c
    simp (disch := omega) only [st_ne]; exact h8 m a c
theorem c_without (hV : vB V) (hN : 100 ≤ N) {μ : Mem} (hB : CB b V μ) {i : Int} (h0 : 0 ≤ i) (h1 : i < sN V) (hl : s_li V i = 1) : ∃ μ', fX2_marginWithout N b (I_ i) μ = some (I_ (x_ma (v_no V i) (s_fm V i) (s_se V 0) 0 (s_se V 1 = 1)), μ') ∧ Fr P_cp μ μ' := by
  have hn := hV.1
  unfold vN at hn
  have hv := hV.2.1 i h0 h1
  unfold vS at hv
  have hb := kB_ge hB.1
  have hS := hB.2.1
  have hB1 := CB_li (v := 0) hB h0
  obtain ⟨μ1, e1, e2⟩ := c_now (N := N) (V := v_no V i) (f := s_fm V i) (v_no_B hV i) hN (by omega) (by omega) hB1
  have e1 : fX2_marginNow N b (I_ (s_fm V i)) (stI μ (b + 22) i.toNat (I_ 0)) = some (I_ (x_ma (v_no V i) (s_fm V i) (s_se V 0) 0 (s_se V 1 = 1)), μ1) := e1
  refine ⟨stI μ1 (b + 22) i.toNat (I_ 1), ?_, ?_⟩
  · unfold fX2_marginWithout
    rw [if_pos hB.1]
    simp (disch := omega) only [Int.reduceEq, Int.reduceNe, Int.reduceLT, Int.reduceLE, Int.reduceAdd, Int.reduceSub, Int.reduceMul, Int.reduceNeg, Int.zero_add, Int.add_zero, nm_eq, bd_some, bv_some, aI_ok, aL_ok, aS_ok, dv_ok, dw_ok, I_add, I_sub, I_mul, I_neg, I_lt, I_le, I_eq, I_nat, J_add, J_sub, J_mul, J_neg, J_lt, J_le, J_eq, I_l, J_i, I_div, J_div, b2_0, b2_1, b2_nar, nar_0, nar_1, zr_0, zr_1, zr_b2, cmp_eq, cmp_le, cmp_lt, cmp_gt, cmp_ge, mx_I, mn_I, mx_L, mn_L, az_I, if_true, if_false, not_true_eq_false, not_false_eq_true, i_0, i_1, i_2, i_3, i_4, i_5, i_6, i_7, i_8, i_9, i_10, i_11, i_12, i_16, i_18, i_20, i_24, i_28, i_29, i_30, i_31, i_32, i_33, i_34, i_35, i_37, i_40, i_41, i_42, i_43, i_45, i_46, i_47, i_48, i_57, i_59, i_63, i_64, i_96, i_97, i_98, i_99, i_100, i_101, i_102, i_103, i_104, i_105, i_106, i_107, i_108, i_109, i_110, i_111, i_112, i_113, i_122, i_200, i_255, i_256, i_257, i_258, i_355, i_400, i_999, i_1000, i_1200, i_5680, i_9999, i_10000, i_99999, j_0, j_1, j_2, j_3, j_4, j_5, j_6, j_9, j_10, j_11, j_98, j_99, j_100, j_999, j_1000, j_9999, j_10000, j_99999, j_1000000, st_ne, SB_fm hS, e1]
  · intro k j hk
    obtain ⟨q1, q2, q3⟩ := e2 k j hk
    refine ⟨?_, q2, q3⟩
    rw [st_I]
    by_cases hc : k = b + 22 ∧ j = i.toNat
    · rw [if_pos hc, hc.1, hc.2, show b + 22 = b + 12 + 10 from rfl, SB_li hS h0 h1, hl]
    · rw [if_neg hc, q1, st_I, if_neg hc]
end
