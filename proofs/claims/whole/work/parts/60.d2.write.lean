/-! case 37: the report. -/
def P_wc (k j : Nat) : Prop := (k = 6 ∧ j = 1) ∨ k = 31
def P_wr (k j : Nat) : Prop := (k = 0 ∧ j = 47) ∨ k = 29
def cWd (μ0 : Mem) (w : Int) (W : Int → Int) (μ : Mem) : Prop := Fr P_wc μ0 μ ∧ μ.1 6 1 = I_ w ∧ ∀ j, 0 ≤ j → j < w → μ.1 31 j.toNat = I_ (W j)
def rWd (ν0 : Mem) (w : Int) (W : Int → Int) (ν : Mem) : Prop := Fr P_wr ν0 ν ∧ ν.1 0 47 = I_ w ∧ ∀ j, 0 ≤ j → j < w → ν.1 29 j.toNat = I_ (W j)
def apd (W : Int → Int) (w x : Int) (j : Int) : Int := if j < w then W j else x
def wpx (W : Int → Int) (w : Int) (g : Int → Int) (j : Int) : Int := if j < w then W j else g (j - w)
def wch (t : Nat) (j : Int) : Int := (chS t j.toNat).toInt
def dgt (x u : Int) : Int := 48 + (x / u - x / u / 10 * 10)
def wnk (x : Int) : Int := if x < 1000 then 1 else if x < 10000 then 2 else 3
def wnD (W : Int → Int) (w x : Int) : Int → Int := if x < 1000 then apd W w (dgt x 100) else if x < 10000 then apd (apd W w (dgt x 1000)) (w + 1) (dgt x 100) else apd (apd (apd W w (dgt x 10000)) (w + 1) (dgt x 1000)) (w + 1 + 1) (dgt x 100)
def wtl (W : Int → Int) (w x : Int) : Int → Int := apd (apd (apd W w 46) (w + 1) (dgt x 10)) (w + 1 + 1) (dgt x 1)
def wL3 (L x : Int) : Int := L + 1 + wnk x + 1 + 1 + 1 + 1
def wW3 (A : Int → Int) (L x : Int) : Int → Int := apd (wtl (wnD (apd A L 32) (L + 1) x) (L + 1 + wnk x) x) (L + 1 + wnk x + 1 + 1 + 1) 37
def wL4 (L x si : Int) : Int := if si = 0 then wL3 L x else wL3 L x + 7
def wW4 (A : Int → Int) (L x si : Int) : Int → Int := if si = 0 then wW3 A L x else wpx (wW3 A L x) (wL3 L x) (wch 28)
def wL5 (L x si ng : Int) : Int := if ng = 0 then wL4 L x si else wL4 L x si + 11
def wW5 (A : Int → Int) (L x si ng : Int) : Int → Int := if ng = 0 then wW4 A L x si else wpx (wW4 A L x si) (wL4 L x si) (wch 29)
section
variable {N : Nat} {μ μ0 ν ν0 : Mem} {w x : Int} {W g : Int → Int}
theorem nar_w {x : Int} (h0 : 0 ≤ x) (h1 : x ≤ 127) : vp_nar .byte (I_ x).toInt8.toInt32 = I_ x := by
  have q : ∀ k : Fin 128, vp_nar .byte (I_ (k.1 : Int)).toInt8.toInt32 = I_ (k.1 : Int) := by decide +kernel
  have := q ⟨x.toNat, by omega⟩
  rw [show ((x.toNat : Nat) : Int) = x by omega] at this
  exact this
theorem wnk_in : 1 ≤ wnk x ∧ wnk x ≤ 3 := by
  unfold wnk
  (repeat' split) <;> omega
theorem dgt_in {u : Int} : 48 ≤ dgt x u ∧ dgt x u ≤ 57 := by
  unfold dgt
  generalize x / u = y
  omega
theorem cWd.ap (h : cWd μ0 w W μ) (x : Int) : cWd μ0 w (apd W w x) μ := ⟨h.1, h.2.1, fun j j0 j1 => by rw [show apd W w x j = W j from if_pos j1]; exact h.2.2 j j0 j1⟩
theorem rWd.ap (h : rWd ν0 w W ν) (x : Int) : rWd ν0 w (apd W w x) ν := ⟨h.1, h.2.1, fun j j0 j1 => by rw [show apd W w x j = W j from if_pos j1]; exact h.2.2 j j0 j1⟩
theorem cWd.px (h : cWd μ0 w W μ) (g : Int → Int) : cWd μ0 w (wpx W w g) μ := ⟨h.1, h.2.1, fun j j0 j1 => by rw [show wpx W w g j = W j from if_pos j1]; exact h.2.2 j j0 j1⟩
theorem rWd.px (h : rWd ν0 w W ν) (g : Int → Int) : rWd ν0 w (wpx W w g) ν := ⟨h.1, h.2.1, fun j j0 j1 => by rw [show wpx W w g j = W j from if_pos j1]; exact h.2.2 j j0 j1⟩
theorem c_ad0 (h : cWd μ0 w W μ) (w0 : 0 ≤ w) (w1 : w < 60) (x0 : 0 ≤ W w) (x1 : W w ≤ 127) : ∃ μ', fX6_add N (I_ (W w)) μ = some ((), μ') ∧ cWd μ0 (w + 1) W μ' := by
  have hn : ¬ 64 ≤ w := by omega
  have e : ∀ j v, (stI μ 31 j v).1 6 1 = I_ w := fun j v => by rw [st_ne (by omega)]; exact h.2.1
  refine ⟨stI (stI μ 31 w.toNat (I_ (W w))) 6 1 (I_ (w + 1)), ?_, (h.1.stI (Or.inr rfl)).stI (Or.inl ⟨rfl, rfl⟩), at_S, fun j j0 j1 => ?_⟩
  · have en := nar_w x0 x1
    generalize W w = y at en
    simp (disch := omega) only [fX6_add, Int.reduceEq, Int.reduceNe, Int.reduceLT, Int.reduceLE, Int.reduceAdd, Int.reduceSub, Int.reduceMul, Int.reduceNeg, Int.zero_add, Int.add_zero, nm_eq, bd_some, bv_some, aI_ok, aL_ok, aS_ok, dv_ok, dw_ok, I_add, I_sub, I_mul, I_neg, I_lt, I_le, I_eq, I_nat, J_add, J_sub, J_mul, J_neg, J_lt, J_le, J_eq, I_l, J_i, I_div, J_div, b2_0, b2_1, b2_nar, nar_0, nar_1, zr_0, zr_1, zr_b2, cmp_eq, cmp_le, cmp_lt, cmp_gt, cmp_ge, mx_I, mn_I, mx_L, mn_L, az_I, if_true, if_false, not_true_eq_false, not_false_eq_true, Bool.false_eq_true, i_0, i_1, i_2, i_3, i_4, i_5, i_6, i_7, i_8, i_9, i_10, i_11, i_12, i_16, i_18, i_20, i_24, i_28, i_29, i_30, i_31, i_32, i_33, i_34, i_35, i_37, i_40, i_41, i_42, i_43, i_45, i_46, i_47, i_48, i_57, i_59, i_63, i_64, i_96, i_97, i_98, i_99, i_100, i_101, i_102, i_103, i_104, i_105, i_106, i_107, i_108, i_109, i_110, i_111, i_112, i_113, i_122, i_200, i_255, i_256, i_257, i_258, i_355, i_400, i_999, i_1000, i_1200, i_5680, i_9999, i_10000, i_99999, j_0, j_1, j_2, j_3, j_4, j_5, j_6, j_9, j_10, j_11, j_98, j_99, j_100, j_999, j_1000, j_9999, j_10000, j_99999, j_1000000, h.2.1, hn, e, en]
  · rw [st_ne (by omega), st_I]
    by_cases q : j = w
    · subst q; rw [if_pos ⟨rfl, rfl⟩]
    · rw [if_neg (fun r => q (by omega)), h.2.2 j j0 (by omega)]
theorem c_ad {x : Int} (h : cWd μ0 w W μ) (w0 : 0 ≤ w) (w1 : w < 60) (x0 : 0 ≤ x) (x1 : x ≤ 127) : ∃ μ', fX6_add N (I_ x) μ = some ((), μ') ∧ cWd μ0 (w + 1) (apd W w x) μ' := by
  have e : apd W w x w = x := if_neg (by omega)
  have := c_ad0 (N := N) (h.ap x) w0 w1 (by rw [e]; exact x0) (by rw [e]; exact x1)
  rw [e] at this
  exact this
theorem r_ad0 (h : rWd ν0 w W ν) (w0 : 0 ≤ w) (w1 : w < 60) : ∃ ν', fX11_writes N (I_ (W w)) ν = some ((), ν') ∧ rWd ν0 (w + 1) W ν' := by
  have e : ∀ j v, (stI ν 29 j v).1 0 47 = I_ w := fun j v => by rw [st_ne (by omega)]; exact h.2.1
  refine ⟨stI (stI ν 29 w.toNat (I_ (W w))) 0 47 (I_ (w + 1)), ?_, (h.1.stI (Or.inr rfl)).stI (Or.inl ⟨rfl, rfl⟩), at_S, fun j j0 j1 => ?_⟩
  · generalize W w = y
    simp (disch := omega) only [fX11_writes, Int.reduceEq, Int.reduceNe, Int.reduceLT, Int.reduceLE, Int.reduceAdd, Int.reduceSub, Int.reduceMul, Int.reduceNeg, Int.zero_add, Int.add_zero, nm_eq, bd_some, bv_some, aI_ok, aL_ok, aS_ok, dv_ok, dw_ok, I_add, I_sub, I_mul, I_neg, I_lt, I_le, I_eq, I_nat, J_add, J_sub, J_mul, J_neg, J_lt, J_le, J_eq, I_l, J_i, I_div, J_div, b2_0, b2_1, b2_nar, nar_0, nar_1, zr_0, zr_1, zr_b2, cmp_eq, cmp_le, cmp_lt, cmp_gt, cmp_ge, mx_I, mn_I, mx_L, mn_L, az_I, if_true, if_false, not_true_eq_false, not_false_eq_true, Bool.false_eq_true, i_0, i_1, i_2, i_3, i_4, i_5, i_6, i_7, i_8, i_9, i_10, i_11, i_12, i_16, i_18, i_20, i_24, i_28, i_29, i_30, i_31, i_32, i_33, i_34, i_35, i_37, i_40, i_41, i_42, i_43, i_45, i_46, i_47, i_48, i_57, i_59, i_63, i_64, i_96, i_97, i_98, i_99, i_100, i_101, i_102, i_103, i_104, i_105, i_106, i_107, i_108, i_109, i_110, i_111, i_112, i_113, i_122, i_200, i_255, i_256, i_257, i_258, i_355, i_400, i_999, i_1000, i_1200, i_5680, i_9999, i_10000, i_99999, j_0, j_1, j_2, j_3, j_4, j_5, j_6, j_9, j_10, j_11, j_98, j_99, j_100, j_999, j_1000, j_9999, j_10000, j_99999, j_1000000, h.2.1, e]
  · rw [st_ne (by omega), st_I]
    by_cases q : j = w
    · subst q; rw [if_pos ⟨rfl, rfl⟩]
    · rw [if_neg (fun r => q (by omega)), h.2.2 j j0 (by omega)]
theorem r_ad {x : Int} (h : rWd ν0 w W ν) (w0 : 0 ≤ w) (w1 : w < 60) : ∃ ν', fX11_writes N (I_ x) ν = some ((), ν') ∧ rWd ν0 (w + 1) (apd W w x) ν' := by
  have e : apd W w x w = x := if_neg (by omega)
  have := r_ad0 (N := N) (h.ap x) w0 w1
  rw [e] at this
  exact this
/-! numbers: the class -/
theorem c_h1 {m : Nat} {u u' : Int} {μ1 : Mem} (hu : (u = 10000 ∧ u' = 1000) ∨ (u = 1000 ∧ u' = 100) ∨ (u = 100 ∧ u' = 10) ∨ (u = 1 ∧ u' = 0)) (hx : u ≤ 100 ∨ u ≤ x) (x0 : 0 ≤ x) (x1 : x ≤ 99999) (a : fX6_add N (I_ (dgt x u)) μ = some ((), μ1)) : fX6_addHundredths_4 N (m + 1) (I_ x) (I_ u) μ = fX6_addHundredths_4 N m (I_ x) (I_ u') μ1 := by
  unfold dgt at a
  rcases hu with ⟨rfl, rfl⟩ | ⟨rfl, rfl⟩ | ⟨rfl, rfl⟩ | ⟨rfl, rfl⟩
  · have n1 : ¬ x < 10000 := by omega
    simp (disch := omega) only [fX6_addHundredths_4, fX6_addHundredths_20, fX6_addHundredths_31, Int.reduceEq, Int.reduceNe, Int.reduceLT, Int.reduceLE, Int.reduceAdd, Int.reduceSub, Int.reduceMul, Int.reduceNeg, Int.zero_add, Int.add_zero, nm_eq, bd_some, bv_some, aI_ok, aL_ok, aS_ok, dv_ok, dw_ok, I_add, I_sub, I_mul, I_neg, I_lt, I_le, I_eq, I_nat, J_add, J_sub, J_mul, J_neg, J_lt, J_le, J_eq, I_l, J_i, I_div, J_div, b2_0, b2_1, b2_nar, nar_0, nar_1, zr_0, zr_1, zr_b2, cmp_eq, cmp_le, cmp_lt, cmp_gt, cmp_ge, mx_I, mn_I, mx_L, mn_L, az_I, if_true, if_false, not_true_eq_false, not_false_eq_true, Bool.false_eq_true, i_0, i_1, i_2, i_3, i_4, i_5, i_6, i_7, i_8, i_9, i_10, i_11, i_12, i_16, i_18, i_20, i_24, i_28, i_29, i_30, i_31, i_32, i_33, i_34, i_35, i_37, i_40, i_41, i_42, i_43, i_45, i_46, i_47, i_48, i_57, i_59, i_63, i_64, i_96, i_97, i_98, i_99, i_100, i_101, i_102, i_103, i_104, i_105, i_106, i_107, i_108, i_109, i_110, i_111, i_112, i_113, i_122, i_200, i_255, i_256, i_257, i_258, i_355, i_400, i_999, i_1000, i_1200, i_5680, i_9999, i_10000, i_99999, j_0, j_1, j_2, j_3, j_4, j_5, j_6, j_9, j_10, j_11, j_98, j_99, j_100, j_999, j_1000, j_9999, j_10000, j_99999, j_1000000, n1, a, Int.reduceDiv]
  · have n1 : ¬ x < 1000 := by omega
    simp (disch := omega) only [fX6_addHundredths_4, fX6_addHundredths_20, fX6_addHundredths_31, Int.reduceEq, Int.reduceNe, Int.reduceLT, Int.reduceLE, Int.reduceAdd, Int.reduceSub, Int.reduceMul, Int.reduceNeg, Int.zero_add, Int.add_zero, nm_eq, bd_some, bv_some, aI_ok, aL_ok, aS_ok, dv_ok, dw_ok, I_add, I_sub, I_mul, I_neg, I_lt, I_le, I_eq, I_nat, J_add, J_sub, J_mul, J_neg, J_lt, J_le, J_eq, I_l, J_i, I_div, J_div, b2_0, b2_1, b2_nar, nar_0, nar_1, zr_0, zr_1, zr_b2, cmp_eq, cmp_le, cmp_lt, cmp_gt, cmp_ge, mx_I, mn_I, mx_L, mn_L, az_I, if_true, if_false, not_true_eq_false, not_false_eq_true, Bool.false_eq_true, i_0, i_1, i_2, i_3, i_4, i_5, i_6, i_7, i_8, i_9, i_10, i_11, i_12, i_16, i_18, i_20, i_24, i_28, i_29, i_30, i_31, i_32, i_33, i_34, i_35, i_37, i_40, i_41, i_42, i_43, i_45, i_46, i_47, i_48, i_57, i_59, i_63, i_64, i_96, i_97, i_98, i_99, i_100, i_101, i_102, i_103, i_104, i_105, i_106, i_107, i_108, i_109, i_110, i_111, i_112, i_113, i_122, i_200, i_255, i_256, i_257, i_258, i_355, i_400, i_999, i_1000, i_1200, i_5680, i_9999, i_10000, i_99999, j_0, j_1, j_2, j_3, j_4, j_5, j_6, j_9, j_10, j_11, j_98, j_99, j_100, j_999, j_1000, j_9999, j_10000, j_99999, j_1000000, n1, a, Int.reduceDiv]
  · simp (disch := omega) only [fX6_addHundredths_4, fX6_addHundredths_20, fX6_addHundredths_31, Int.reduceEq, Int.reduceNe, Int.reduceLT, Int.reduceLE, Int.reduceAdd, Int.reduceSub, Int.reduceMul, Int.reduceNeg, Int.zero_add, Int.add_zero, nm_eq, bd_some, bv_some, aI_ok, aL_ok, aS_ok, dv_ok, dw_ok, I_add, I_sub, I_mul, I_neg, I_lt, I_le, I_eq, I_nat, J_add, J_sub, J_mul, J_neg, J_lt, J_le, J_eq, I_l, J_i, I_div, J_div, b2_0, b2_1, b2_nar, nar_0, nar_1, zr_0, zr_1, zr_b2, cmp_eq, cmp_le, cmp_lt, cmp_gt, cmp_ge, mx_I, mn_I, mx_L, mn_L, az_I, if_true, if_false, not_true_eq_false, not_false_eq_true, Bool.false_eq_true, i_0, i_1, i_2, i_3, i_4, i_5, i_6, i_7, i_8, i_9, i_10, i_11, i_12, i_16, i_18, i_20, i_24, i_28, i_29, i_30, i_31, i_32, i_33, i_34, i_35, i_37, i_40, i_41, i_42, i_43, i_45, i_46, i_47, i_48, i_57, i_59, i_63, i_64, i_96, i_97, i_98, i_99, i_100, i_101, i_102, i_103, i_104, i_105, i_106, i_107, i_108, i_109, i_110, i_111, i_112, i_113, i_122, i_200, i_255, i_256, i_257, i_258, i_355, i_400, i_999, i_1000, i_1200, i_5680, i_9999, i_10000, i_99999, j_0, j_1, j_2, j_3, j_4, j_5, j_6, j_9, j_10, j_11, j_98, j_99, j_100, j_999, j_1000, j_9999, j_10000, j_99999, j_1000000, a, Int.reduceDiv]
  · simp (disch := omega) only [fX6_addHundredths_4, fX6_addHundredths_20, fX6_addHundredths_31, Int.reduceEq, Int.reduceNe, Int.reduceLT, Int.reduceLE, Int.reduceAdd, Int.reduceSub, Int.reduceMul, Int.reduceNeg, Int.zero_add, Int.add_zero, nm_eq, bd_some, bv_some, aI_ok, aL_ok, aS_ok, dv_ok, dw_ok, I_add, I_sub, I_mul, I_neg, I_lt, I_le, I_eq, I_nat, J_add, J_sub, J_mul, J_neg, J_lt, J_le, J_eq, I_l, J_i, I_div, J_div, b2_0, b2_1, b2_nar, nar_0, nar_1, zr_0, zr_1, zr_b2, cmp_eq, cmp_le, cmp_lt, cmp_gt, cmp_ge, mx_I, mn_I, mx_L, mn_L, az_I, if_true, if_false, not_true_eq_false, not_false_eq_true, Bool.false_eq_true, i_0, i_1, i_2, i_3, i_4, i_5, i_6, i_7, i_8, i_9, i_10, i_11, i_12, i_16, i_18, i_20, i_24, i_28, i_29, i_30, i_31, i_32, i_33, i_34, i_35, i_37, i_40, i_41, i_42, i_43, i_45, i_46, i_47, i_48, i_57, i_59, i_63, i_64, i_96, i_97, i_98, i_99, i_100, i_101, i_102, i_103, i_104, i_105, i_106, i_107, i_108, i_109, i_110, i_111, i_112, i_113, i_122, i_200, i_255, i_256, i_257, i_258, i_355, i_400, i_999, i_1000, i_1200, i_5680, i_9999, i_10000, i_99999, j_0, j_1, j_2, j_3, j_4, j_5, j_6, j_9, j_10, j_11, j_98, j_99, j_100, j_999, j_1000, j_9999, j_10000, j_99999, j_1000000, a, Int.reduceDiv]
theorem c_h10 {m : Nat} {μ1 μ2 : Mem} (x0 : 0 ≤ x) (x1 : x ≤ 99999) (a0 : fX6_add N (I_ 46) μ = some ((), μ1)) (a : fX6_add N (I_ (dgt x 10)) μ1 = some ((), μ2)) : fX6_addHundredths_4 N (m + 1) (I_ x) (I_ 10) μ = fX6_addHundredths_4 N m (I_ x) (I_ 1) μ2 := by
  unfold dgt at a
  simp (disch := omega) only [fX6_addHundredths_4, fX6_addHundredths_20, fX6_addHundredths_31, Int.reduceEq, Int.reduceNe, Int.reduceLT, Int.reduceLE, Int.reduceAdd, Int.reduceSub, Int.reduceMul, Int.reduceNeg, Int.zero_add, Int.add_zero, nm_eq, bd_some, bv_some, aI_ok, aL_ok, aS_ok, dv_ok, dw_ok, I_add, I_sub, I_mul, I_neg, I_lt, I_le, I_eq, I_nat, J_add, J_sub, J_mul, J_neg, J_lt, J_le, J_eq, I_l, J_i, I_div, J_div, b2_0, b2_1, b2_nar, nar_0, nar_1, zr_0, zr_1, zr_b2, cmp_eq, cmp_le, cmp_lt, cmp_gt, cmp_ge, mx_I, mn_I, mx_L, mn_L, az_I, if_true, if_false, not_true_eq_false, not_false_eq_true, Bool.false_eq_true, i_0, i_1, i_2, i_3, i_4, i_5, i_6, i_7, i_8, i_9, i_10, i_11, i_12, i_16, i_18, i_20, i_24, i_28, i_29, i_30, i_31, i_32, i_33, i_34, i_35, i_37, i_40, i_41, i_42, i_43, i_45, i_46, i_47, i_48, i_57, i_59, i_63, i_64, i_96, i_97, i_98, i_99, i_100, i_101, i_102, i_103, i_104, i_105, i_106, i_107, i_108, i_109, i_110, i_111, i_112, i_113, i_122, i_200, i_255, i_256, i_257, i_258, i_355, i_400, i_999, i_1000, i_1200, i_5680, i_9999, i_10000, i_99999, j_0, j_1, j_2, j_3, j_4, j_5, j_6, j_9, j_10, j_11, j_98, j_99, j_100, j_999, j_1000, j_9999, j_10000, j_99999, j_1000000, a0, a, Int.reduceDiv]
theorem c_h0 {m : Nat} {u u' : Int} (hu : (u = 10000 ∧ u' = 1000) ∨ (u = 1000 ∧ u' = 100)) (hx : x < u) (x0 : 0 ≤ x) : fX6_addHundredths_4 N (m + 1) (I_ x) (I_ u) μ = fX6_addHundredths_4 N m (I_ x) (I_ u') μ := by
  rcases hu with ⟨rfl, rfl⟩ | ⟨rfl, rfl⟩
  · simp (disch := omega) only [fX6_addHundredths_4, fX6_addHundredths_20, fX6_addHundredths_31, Int.reduceEq, Int.reduceNe, Int.reduceLT, Int.reduceLE, Int.reduceAdd, Int.reduceSub, Int.reduceMul, Int.reduceNeg, Int.zero_add, Int.add_zero, nm_eq, bd_some, bv_some, aI_ok, aL_ok, aS_ok, dv_ok, dw_ok, I_add, I_sub, I_mul, I_neg, I_lt, I_le, I_eq, I_nat, J_add, J_sub, J_mul, J_neg, J_lt, J_le, J_eq, I_l, J_i, I_div, J_div, b2_0, b2_1, b2_nar, nar_0, nar_1, zr_0, zr_1, zr_b2, cmp_eq, cmp_le, cmp_lt, cmp_gt, cmp_ge, mx_I, mn_I, mx_L, mn_L, az_I, if_true, if_false, not_true_eq_false, not_false_eq_true, Bool.false_eq_true, i_0, i_1, i_2, i_3, i_4, i_5, i_6, i_7, i_8, i_9, i_10, i_11, i_12, i_16, i_18, i_20, i_24, i_28, i_29, i_30, i_31, i_32, i_33, i_34, i_35, i_37, i_40, i_41, i_42, i_43, i_45, i_46, i_47, i_48, i_57, i_59, i_63, i_64, i_96, i_97, i_98, i_99, i_100, i_101, i_102, i_103, i_104, i_105, i_106, i_107, i_108, i_109, i_110, i_111, i_112, i_113, i_122, i_200, i_255, i_256, i_257, i_258, i_355, i_400, i_999, i_1000, i_1200, i_5680, i_9999, i_10000, i_99999, j_0, j_1, j_2, j_3, j_4, j_5, j_6, j_9, j_10, j_11, j_98, j_99, j_100, j_999, j_1000, j_9999, j_10000, j_99999, j_1000000, hx, Int.reduceDiv]
  · simp (disch := omega) only [fX6_addHundredths_4, fX6_addHundredths_20, fX6_addHundredths_31, Int.reduceEq, Int.reduceNe, Int.reduceLT, Int.reduceLE, Int.reduceAdd, Int.reduceSub, Int.reduceMul, Int.reduceNeg, Int.zero_add, Int.add_zero, nm_eq, bd_some, bv_some, aI_ok, aL_ok, aS_ok, dv_ok, dw_ok, I_add, I_sub, I_mul, I_neg, I_lt, I_le, I_eq, I_nat, J_add, J_sub, J_mul, J_neg, J_lt, J_le, J_eq, I_l, J_i, I_div, J_div, b2_0, b2_1, b2_nar, nar_0, nar_1, zr_0, zr_1, zr_b2, cmp_eq, cmp_le, cmp_lt, cmp_gt, cmp_ge, mx_I, mn_I, mx_L, mn_L, az_I, if_true, if_false, not_true_eq_false, not_false_eq_true, Bool.false_eq_true, i_0, i_1, i_2, i_3, i_4, i_5, i_6, i_7, i_8, i_9, i_10, i_11, i_12, i_16, i_18, i_20, i_24, i_28, i_29, i_30, i_31, i_32, i_33, i_34, i_35, i_37, i_40, i_41, i_42, i_43, i_45, i_46, i_47, i_48, i_57, i_59, i_63, i_64, i_96, i_97, i_98, i_99, i_100, i_101, i_102, i_103, i_104, i_105, i_106, i_107, i_108, i_109, i_110, i_111, i_112, i_113, i_122, i_200, i_255, i_256, i_257, i_258, i_355, i_400, i_999, i_1000, i_1200, i_5680, i_9999, i_10000, i_99999, j_0, j_1, j_2, j_3, j_4, j_5, j_6, j_9, j_10, j_11, j_98, j_99, j_100, j_999, j_1000, j_9999, j_10000, j_99999, j_1000000, hx, Int.reduceDiv]
theorem c_he {m : Nat} : fX6_addHundredths_4 N (m + 1) (I_ x) (I_ 0) μ = some ((), μ) := by
  simp (disch := omega) only [fX6_addHundredths_4, Int.reduceEq, Int.reduceNe, Int.reduceLT, Int.reduceLE, Int.reduceAdd, Int.reduceSub, Int.reduceMul, Int.reduceNeg, Int.zero_add, Int.add_zero, nm_eq, bd_some, bv_some, aI_ok, aL_ok, aS_ok, dv_ok, dw_ok, I_add, I_sub, I_mul, I_neg, I_lt, I_le, I_eq, I_nat, J_add, J_sub, J_mul, J_neg, J_lt, J_le, J_eq, I_l, J_i, I_div, J_div, b2_0, b2_1, b2_nar, nar_0, nar_1, zr_0, zr_1, zr_b2, cmp_eq, cmp_le, cmp_lt, cmp_gt, cmp_ge, mx_I, mn_I, mx_L, mn_L, az_I, if_true, if_false, not_true_eq_false, not_false_eq_true, Bool.false_eq_true, i_0, i_1, i_2, i_3, i_4, i_5, i_6, i_7, i_8, i_9, i_10, i_11, i_12, i_16, i_18, i_20, i_24, i_28, i_29, i_30, i_31, i_32, i_33, i_34, i_35, i_37, i_40, i_41, i_42, i_43, i_45, i_46, i_47, i_48, i_57, i_59, i_63, i_64, i_96, i_97, i_98, i_99, i_100, i_101, i_102, i_103, i_104, i_105, i_106, i_107, i_108, i_109, i_110, i_111, i_112, i_113, i_122, i_200, i_255, i_256, i_257, i_258, i_355, i_400, i_999, i_1000, i_1200, i_5680, i_9999, i_10000, i_99999, j_0, j_1, j_2, j_3, j_4, j_5, j_6, j_9, j_10, j_11, j_98, j_99, j_100, j_999, j_1000, j_9999, j_10000, j_99999, j_1000000]
theorem c_tl {m : Nat} (x0 : 0 ≤ x) (x1 : x ≤ 99999) (h : cWd μ0 w W μ) (w0 : 0 ≤ w) (w1 : w < 50) : ∃ μ', fX6_addHundredths_4 N (m + 1 + 1 + 1) (I_ x) (I_ 10) μ = some ((), μ') ∧ cWd μ0 (w + 1 + 1 + 1) (wtl W w x) μ' := by
  have d1 := dgt_in (x := x) (u := 10)
  have d2 := dgt_in (x := x) (u := 1)
  obtain ⟨μ1, a1, h1⟩ := c_ad (N := N) (x := 46) h w0 (by omega) (by omega) (by omega)
  obtain ⟨μ2, a2, h2⟩ := c_ad (N := N) (x := dgt x 10) h1 (by omega) (by omega) (by omega) (by omega)
  obtain ⟨μ3, a3, h3⟩ := c_ad (N := N) (x := dgt x 1) h2 (by omega) (by omega) (by omega) (by omega)
  exact ⟨μ3, (c_h10 x0 x1 a1 a2).trans ((c_h1 (by omega) (by omega) x0 x1 a3).trans c_he), h3⟩
theorem c_nm (hN : 500 ≤ N) (x0 : 0 ≤ x) (x1 : x ≤ 99999) (h : cWd μ0 w W μ) (w0 : 0 ≤ w) (w1 : w < 40) : ∃ μ', fX6_addHundredths N (I_ x) μ = some ((), μ') ∧ cWd μ0 (w + wnk x + 1 + 1 + 1) (wtl (wnD W w x) (w + wnk x) x) μ' := by
  obtain ⟨m, hm⟩ : ∃ m, N = m + 1 + 1 + 1 + 1 + 1 + 1 := ⟨N - 6, by omega⟩
  have d1 := dgt_in (x := x) (u := 100)
  have d2 := dgt_in (x := x) (u := 1000)
  have d3 := dgt_in (x := x) (u := 10000)
  have key : ∃ μ', fX6_addHundredths_4 N (m + 1 + 1 + 1 + 1 + 1 + 1) (I_ x) (I_ 10000) μ = some ((), μ') ∧ cWd μ0 (w + wnk x + 1 + 1 + 1) (wtl (wnD W w x) (w + wnk x) x) μ' := by
    by_cases q1 : x < 1000
    · have e1 : wnk x = 1 := if_pos q1
      have e2 : wnD W w x = apd W w (dgt x 100) := if_pos q1
      rw [e1, e2]
      obtain ⟨μ1, a1, h1⟩ := c_ad (N := N) (x := dgt x 100) h w0 (by omega) (by omega) (by omega)
      obtain ⟨μ2, a2, h2⟩ := c_tl (N := N) (m := m) x0 x1 h1 (by omega) (by omega)
      exact ⟨μ2, (c_h0 (u := 10000) (u' := 1000) (by omega) (by omega) x0).trans ((c_h0 (u := 1000) (u' := 100) (by omega) (by omega) x0).trans ((c_h1 (u := 100) (u' := 10) (by omega) (by omega) x0 x1 a1).trans a2)), h2⟩
    · by_cases q2 : x < 10000
      · have e1 : wnk x = 1 + 1 := by unfold wnk; rw [if_neg q1, if_pos q2]; rfl
        have e2 : wnD W w x = apd (apd W w (dgt x 1000)) (w + 1) (dgt x 100) := by unfold wnD; rw [if_neg q1, if_pos q2]
        rw [e1, e2, ← Int.add_assoc]
        obtain ⟨μ1, a1, h1⟩ := c_ad (N := N) (x := dgt x 1000) h w0 (by omega) (by omega) (by omega)
        obtain ⟨μ2, a2, h2⟩ := c_ad (N := N) (x := dgt x 100) h1 (by omega) (by omega) (by omega) (by omega)
        obtain ⟨μ3, a3, h3⟩ := c_tl (N := N) (m := m) x0 x1 h2 (by omega) (by omega)
        exact ⟨μ3, (c_h0 (u := 10000) (u' := 1000) (by omega) (by omega) x0).trans ((c_h1 (u := 1000) (u' := 100) (by omega) (by omega) x0 x1 a1).trans ((c_h1 (u := 100) (u' := 10) (by omega) (by omega) x0 x1 a2).trans a3)), h3⟩
      · have e1 : wnk x = 1 + 1 + 1 := by unfold wnk; rw [if_neg q1, if_neg q2]; rfl
        have e2 : wnD W w x = apd (apd (apd W w (dgt x 10000)) (w + 1) (dgt x 1000)) (w + 1 + 1) (dgt x 100) := by unfold wnD; rw [if_neg q1, if_neg q2]
        rw [e1, e2, ← Int.add_assoc, ← Int.add_assoc]
        obtain ⟨μ1, a1, h1⟩ := c_ad (N := N) (x := dgt x 10000) h w0 (by omega) (by omega) (by omega)
        obtain ⟨μ2, a2, h2⟩ := c_ad (N := N) (x := dgt x 1000) h1 (by omega) (by omega) (by omega) (by omega)
        obtain ⟨μ3, a3, h3⟩ := c_ad (N := N) (x := dgt x 100) h2 (by omega) (by omega) (by omega) (by omega)
        obtain ⟨μ4, a4, h4⟩ := c_tl (N := N) (m := m) x0 x1 h3 (by omega) (by omega)
        exact ⟨μ4, (c_h1 (u := 10000) (u' := 1000) (by omega) (by omega) x0 x1 a1).trans ((c_h1 (u := 1000) (u' := 100) (by omega) (by omega) x0 x1 a2).trans ((c_h1 (u := 100) (u' := 10) (by omega) (by omega) x0 x1 a3).trans a4)), h4⟩
  rw [← hm] at key
  exact key
/-! numbers: the reference -/
theorem r_h1 {m : Nat} {u u' y : Int} {ν1 : Mem} (hu : (u = 100 ∧ u' = 10) ∨ (u = 10 ∧ u' = 1) ∨ (u = 1 ∧ u' = 0)) (y0 : 0 ≤ y) (y1 : y ≤ 999) (a : fX11_writes N (I_ (48 + (y / u - y / u / 10 * 10))) ν = some ((), ν1)) : fX11_writesNumber_20 N (m + 1) (I_ y) (I_ u) ν = fX11_writesNumber_20 N m (I_ y) (I_ u') ν1 := by
  rcases hu with ⟨rfl, rfl⟩ | ⟨rfl, rfl⟩ | ⟨rfl, rfl⟩
  · simp (disch := omega) only [fX11_writesNumber_20, Int.reduceEq, Int.reduceNe, Int.reduceLT, Int.reduceLE, Int.reduceAdd, Int.reduceSub, Int.reduceMul, Int.reduceNeg, Int.zero_add, Int.add_zero, nm_eq, bd_some, bv_some, aI_ok, aL_ok, aS_ok, dv_ok, dw_ok, I_add, I_sub, I_mul, I_neg, I_lt, I_le, I_eq, I_nat, J_add, J_sub, J_mul, J_neg, J_lt, J_le, J_eq, I_l, J_i, I_div, J_div, b2_0, b2_1, b2_nar, nar_0, nar_1, zr_0, zr_1, zr_b2, cmp_eq, cmp_le, cmp_lt, cmp_gt, cmp_ge, mx_I, mn_I, mx_L, mn_L, az_I, if_true, if_false, not_true_eq_false, not_false_eq_true, Bool.false_eq_true, i_0, i_1, i_2, i_3, i_4, i_5, i_6, i_7, i_8, i_9, i_10, i_11, i_12, i_16, i_18, i_20, i_24, i_28, i_29, i_30, i_31, i_32, i_33, i_34, i_35, i_37, i_40, i_41, i_42, i_43, i_45, i_46, i_47, i_48, i_57, i_59, i_63, i_64, i_96, i_97, i_98, i_99, i_100, i_101, i_102, i_103, i_104, i_105, i_106, i_107, i_108, i_109, i_110, i_111, i_112, i_113, i_122, i_200, i_255, i_256, i_257, i_258, i_355, i_400, i_999, i_1000, i_1200, i_5680, i_9999, i_10000, i_99999, j_0, j_1, j_2, j_3, j_4, j_5, j_6, j_9, j_10, j_11, j_98, j_99, j_100, j_999, j_1000, j_9999, j_10000, j_99999, j_1000000, a, Int.reduceDiv]
  · simp (disch := omega) only [fX11_writesNumber_20, Int.reduceEq, Int.reduceNe, Int.reduceLT, Int.reduceLE, Int.reduceAdd, Int.reduceSub, Int.reduceMul, Int.reduceNeg, Int.zero_add, Int.add_zero, nm_eq, bd_some, bv_some, aI_ok, aL_ok, aS_ok, dv_ok, dw_ok, I_add, I_sub, I_mul, I_neg, I_lt, I_le, I_eq, I_nat, J_add, J_sub, J_mul, J_neg, J_lt, J_le, J_eq, I_l, J_i, I_div, J_div, b2_0, b2_1, b2_nar, nar_0, nar_1, zr_0, zr_1, zr_b2, cmp_eq, cmp_le, cmp_lt, cmp_gt, cmp_ge, mx_I, mn_I, mx_L, mn_L, az_I, if_true, if_false, not_true_eq_false, not_false_eq_true, Bool.false_eq_true, i_0, i_1, i_2, i_3, i_4, i_5, i_6, i_7, i_8, i_9, i_10, i_11, i_12, i_16, i_18, i_20, i_24, i_28, i_29, i_30, i_31, i_32, i_33, i_34, i_35, i_37, i_40, i_41, i_42, i_43, i_45, i_46, i_47, i_48, i_57, i_59, i_63, i_64, i_96, i_97, i_98, i_99, i_100, i_101, i_102, i_103, i_104, i_105, i_106, i_107, i_108, i_109, i_110, i_111, i_112, i_113, i_122, i_200, i_255, i_256, i_257, i_258, i_355, i_400, i_999, i_1000, i_1200, i_5680, i_9999, i_10000, i_99999, j_0, j_1, j_2, j_3, j_4, j_5, j_6, j_9, j_10, j_11, j_98, j_99, j_100, j_999, j_1000, j_9999, j_10000, j_99999, j_1000000, a, Int.reduceDiv]
  · simp (disch := omega) only [fX11_writesNumber_20, Int.reduceEq, Int.reduceNe, Int.reduceLT, Int.reduceLE, Int.reduceAdd, Int.reduceSub, Int.reduceMul, Int.reduceNeg, Int.zero_add, Int.add_zero, nm_eq, bd_some, bv_some, aI_ok, aL_ok, aS_ok, dv_ok, dw_ok, I_add, I_sub, I_mul, I_neg, I_lt, I_le, I_eq, I_nat, J_add, J_sub, J_mul, J_neg, J_lt, J_le, J_eq, I_l, J_i, I_div, J_div, b2_0, b2_1, b2_nar, nar_0, nar_1, zr_0, zr_1, zr_b2, cmp_eq, cmp_le, cmp_lt, cmp_gt, cmp_ge, mx_I, mn_I, mx_L, mn_L, az_I, if_true, if_false, not_true_eq_false, not_false_eq_true, Bool.false_eq_true, i_0, i_1, i_2, i_3, i_4, i_5, i_6, i_7, i_8, i_9, i_10, i_11, i_12, i_16, i_18, i_20, i_24, i_28, i_29, i_30, i_31, i_32, i_33, i_34, i_35, i_37, i_40, i_41, i_42, i_43, i_45, i_46, i_47, i_48, i_57, i_59, i_63, i_64, i_96, i_97, i_98, i_99, i_100, i_101, i_102, i_103, i_104, i_105, i_106, i_107, i_108, i_109, i_110, i_111, i_112, i_113, i_122, i_200, i_255, i_256, i_257, i_258, i_355, i_400, i_999, i_1000, i_1200, i_5680, i_9999, i_10000, i_99999, j_0, j_1, j_2, j_3, j_4, j_5, j_6, j_9, j_10, j_11, j_98, j_99, j_100, j_999, j_1000, j_9999, j_10000, j_99999, j_1000000, a, Int.reduceDiv]
theorem r_he {m : Nat} {y : Int} : fX11_writesNumber_20 N (m + 1) (I_ y) (I_ 0) ν = some ((), ν) := by
  simp (disch := omega) only [fX11_writesNumber_20, Int.reduceEq, Int.reduceNe, Int.reduceLT, Int.reduceLE, Int.reduceAdd, Int.reduceSub, Int.reduceMul, Int.reduceNeg, Int.zero_add, Int.add_zero, nm_eq, bd_some, bv_some, aI_ok, aL_ok, aS_ok, dv_ok, dw_ok, I_add, I_sub, I_mul, I_neg, I_lt, I_le, I_eq, I_nat, J_add, J_sub, J_mul, J_neg, J_lt, J_le, J_eq, I_l, J_i, I_div, J_div, b2_0, b2_1, b2_nar, nar_0, nar_1, zr_0, zr_1, zr_b2, cmp_eq, cmp_le, cmp_lt, cmp_gt, cmp_ge, mx_I, mn_I, mx_L, mn_L, az_I, if_true, if_false, not_true_eq_false, not_false_eq_true, Bool.false_eq_true, i_0, i_1, i_2, i_3, i_4, i_5, i_6, i_7, i_8, i_9, i_10, i_11, i_12, i_16, i_18, i_20, i_24, i_28, i_29, i_30, i_31, i_32, i_33, i_34, i_35, i_37, i_40, i_41, i_42, i_43, i_45, i_46, i_47, i_48, i_57, i_59, i_63, i_64, i_96, i_97, i_98, i_99, i_100, i_101, i_102, i_103, i_104, i_105, i_106, i_107, i_108, i_109, i_110, i_111, i_112, i_113, i_122, i_200, i_255, i_256, i_257, i_258, i_355, i_400, i_999, i_1000, i_1200, i_5680, i_9999, i_10000, i_99999, j_0, j_1, j_2, j_3, j_4, j_5, j_6, j_9, j_10, j_11, j_98, j_99, j_100, j_999, j_1000, j_9999, j_10000, j_99999, j_1000000]
theorem r_h2 {m : Nat} {y : Int} (y0 : 0 ≤ y) (y1 : y ≤ 999) : fX11_writesNumber_2 N (m + 1 + 1 + 1) (I_ y) (I_ 1) ν = fX11_writesNumber_20 N N (I_ y) (I_ (if y ≤ 9 then 1 else if y ≤ 99 then 10 else 100)) ν := by
  by_cases q1 : y ≤ 9
  · have n1 : y / 1 ≤ 9 := by omega
    rw [if_pos q1]
    simp (disch := omega) only [fX11_writesNumber_2, Int.reduceEq, Int.reduceNe, Int.reduceLT, Int.reduceLE, Int.reduceAdd, Int.reduceSub, Int.reduceMul, Int.reduceNeg, Int.zero_add, Int.add_zero, nm_eq, bd_some, bv_some, aI_ok, aL_ok, aS_ok, dv_ok, dw_ok, I_add, I_sub, I_mul, I_neg, I_lt, I_le, I_eq, I_nat, J_add, J_sub, J_mul, J_neg, J_lt, J_le, J_eq, I_l, J_i, I_div, J_div, b2_0, b2_1, b2_nar, nar_0, nar_1, zr_0, zr_1, zr_b2, cmp_eq, cmp_le, cmp_lt, cmp_gt, cmp_ge, mx_I, mn_I, mx_L, mn_L, az_I, if_true, if_false, not_true_eq_false, not_false_eq_true, Bool.false_eq_true, i_0, i_1, i_2, i_3, i_4, i_5, i_6, i_7, i_8, i_9, i_10, i_11, i_12, i_16, i_18, i_20, i_24, i_28, i_29, i_30, i_31, i_32, i_33, i_34, i_35, i_37, i_40, i_41, i_42, i_43, i_45, i_46, i_47, i_48, i_57, i_59, i_63, i_64, i_96, i_97, i_98, i_99, i_100, i_101, i_102, i_103, i_104, i_105, i_106, i_107, i_108, i_109, i_110, i_111, i_112, i_113, i_122, i_200, i_255, i_256, i_257, i_258, i_355, i_400, i_999, i_1000, i_1200, i_5680, i_9999, i_10000, i_99999, j_0, j_1, j_2, j_3, j_4, j_5, j_6, j_9, j_10, j_11, j_98, j_99, j_100, j_999, j_1000, j_9999, j_10000, j_99999, j_1000000, n1]
  · have n1 : ¬ y / 1 ≤ 9 := by omega
    rw [if_neg q1]
    by_cases q2 : y ≤ 99
    · have n2 : y / 10 ≤ 9 := by omega
      rw [if_pos q2]
      simp (disch := omega) only [fX11_writesNumber_2, Int.reduceEq, Int.reduceNe, Int.reduceLT, Int.reduceLE, Int.reduceAdd, Int.reduceSub, Int.reduceMul, Int.reduceNeg, Int.zero_add, Int.add_zero, nm_eq, bd_some, bv_some, aI_ok, aL_ok, aS_ok, dv_ok, dw_ok, I_add, I_sub, I_mul, I_neg, I_lt, I_le, I_eq, I_nat, J_add, J_sub, J_mul, J_neg, J_lt, J_le, J_eq, I_l, J_i, I_div, J_div, b2_0, b2_1, b2_nar, nar_0, nar_1, zr_0, zr_1, zr_b2, cmp_eq, cmp_le, cmp_lt, cmp_gt, cmp_ge, mx_I, mn_I, mx_L, mn_L, az_I, if_true, if_false, not_true_eq_false, not_false_eq_true, Bool.false_eq_true, i_0, i_1, i_2, i_3, i_4, i_5, i_6, i_7, i_8, i_9, i_10, i_11, i_12, i_16, i_18, i_20, i_24, i_28, i_29, i_30, i_31, i_32, i_33, i_34, i_35, i_37, i_40, i_41, i_42, i_43, i_45, i_46, i_47, i_48, i_57, i_59, i_63, i_64, i_96, i_97, i_98, i_99, i_100, i_101, i_102, i_103, i_104, i_105, i_106, i_107, i_108, i_109, i_110, i_111, i_112, i_113, i_122, i_200, i_255, i_256, i_257, i_258, i_355, i_400, i_999, i_1000, i_1200, i_5680, i_9999, i_10000, i_99999, j_0, j_1, j_2, j_3, j_4, j_5, j_6, j_9, j_10, j_11, j_98, j_99, j_100, j_999, j_1000, j_9999, j_10000, j_99999, j_1000000, n1, n2]
    · have n2 : ¬ y / 10 ≤ 9 := by omega
      have n3 : y / 100 ≤ 9 := by omega
      rw [if_neg q2]
      simp (disch := omega) only [fX11_writesNumber_2, Int.reduceEq, Int.reduceNe, Int.reduceLT, Int.reduceLE, Int.reduceAdd, Int.reduceSub, Int.reduceMul, Int.reduceNeg, Int.zero_add, Int.add_zero, nm_eq, bd_some, bv_some, aI_ok, aL_ok, aS_ok, dv_ok, dw_ok, I_add, I_sub, I_mul, I_neg, I_lt, I_le, I_eq, I_nat, J_add, J_sub, J_mul, J_neg, J_lt, J_le, J_eq, I_l, J_i, I_div, J_div, b2_0, b2_1, b2_nar, nar_0, nar_1, zr_0, zr_1, zr_b2, cmp_eq, cmp_le, cmp_lt, cmp_gt, cmp_ge, mx_I, mn_I, mx_L, mn_L, az_I, if_true, if_false, not_true_eq_false, not_false_eq_true, Bool.false_eq_true, i_0, i_1, i_2, i_3, i_4, i_5, i_6, i_7, i_8, i_9, i_10, i_11, i_12, i_16, i_18, i_20, i_24, i_28, i_29, i_30, i_31, i_32, i_33, i_34, i_35, i_37, i_40, i_41, i_42, i_43, i_45, i_46, i_47, i_48, i_57, i_59, i_63, i_64, i_96, i_97, i_98, i_99, i_100, i_101, i_102, i_103, i_104, i_105, i_106, i_107, i_108, i_109, i_110, i_111, i_112, i_113, i_122, i_200, i_255, i_256, i_257, i_258, i_355, i_400, i_999, i_1000, i_1200, i_5680, i_9999, i_10000, i_99999, j_0, j_1, j_2, j_3, j_4, j_5, j_6, j_9, j_10, j_11, j_98, j_99, j_100, j_999, j_1000, j_9999, j_10000, j_99999, j_1000000, n1, n2, n3]
theorem r_nd (hN : 500 ≤ N) (x0 : 0 ≤ x) (x1 : x ≤ 99999) (h : rWd ν0 w W ν) (w0 : 0 ≤ w) (w1 : w < 40) : ∃ ν', fX11_writesNumber N (I_ (x / 100)) ν = some ((), ν') ∧ rWd ν0 (w + wnk x) (wnD W w x) ν' := by
  obtain ⟨m, hm⟩ : ∃ m, N = m + 1 + 1 + 1 + 1 := ⟨N - 4, by omega⟩
  have g1 : 48 + (x / 100 / 1 - x / 100 / 1 / 10 * 10) = dgt x 100 := by unfold dgt; omega
  have g2 : 48 + (x / 100 / 10 - x / 100 / 10 / 10 * 10) = dgt x 1000 := by unfold dgt; omega
  have g3 : 48 + (x / 100 / 100 - x / 100 / 100 / 10 * 10) = dgt x 10000 := by unfold dgt; omega
  have key := r_h2 (N := N) (ν := ν) (m := m + 1) (y := x / 100) (by omega) (by omega)
  rw [← hm] at key
  have k2 : ∀ u, ∃ ν', fX11_writesNumber_20 N (m + 1 + 1 + 1 + 1) (I_ (x / 100)) (I_ u) ν = fX11_writesNumber_20 N N (I_ (x / 100)) (I_ u) ν ∧ ν' = ν := fun u => ⟨ν, by rw [← hm], rfl⟩
  have goal : ∀ ν', fX11_writesNumber_20 N (m + 1 + 1 + 1 + 1) (I_ (x / 100)) (I_ (if x / 100 ≤ 9 then 1 else if x / 100 ≤ 99 then 10 else 100)) ν = some ((), ν') → fX11_writesNumber N (I_ (x / 100)) ν = some ((), ν') := fun ν' h => by
    unfold fX11_writesNumber
    rw [i_1, key, ← h, ← hm]
  by_cases q1 : x < 1000
  · have e1 : wnk x = 1 := if_pos q1
    have e2 : wnD W w x = apd W w (dgt x 100) := if_pos q1
    rw [e1, e2]
    obtain ⟨ν1, a1, h1⟩ := r_ad (N := N) (x := dgt x 100) h w0 (by omega)
    rw [← g1] at a1
    refine ⟨ν1, goal ν1 ?_, h1⟩
    rw [if_pos (by omega)]
    exact (r_h1 (u := 1) (u' := 0) (by omega) (by omega) (by omega) a1).trans r_he
  · by_cases q2 : x < 10000
    · have e1 : wnk x = 1 + 1 := by unfold wnk; rw [if_neg q1, if_pos q2]; rfl
      have e2 : wnD W w x = apd (apd W w (dgt x 1000)) (w + 1) (dgt x 100) := by unfold wnD; rw [if_neg q1, if_pos q2]
      rw [e1, e2, ← Int.add_assoc]
      obtain ⟨ν1, a1, h1⟩ := r_ad (N := N) (x := dgt x 1000) h w0 (by omega)
      obtain ⟨ν2, a2, h2⟩ := r_ad (N := N) (x := dgt x 100) h1 (by omega) (by omega)
      rw [← g2] at a1
      rw [← g1] at a2
      refine ⟨ν2, goal ν2 ?_, h2⟩
      rw [if_neg (by omega), if_pos (by omega)]
      exact (r_h1 (u := 10) (u' := 1) (by omega) (by omega) (by omega) a1).trans ((r_h1 (u := 1) (u' := 0) (by omega) (by omega) (by omega) a2).trans r_he)
    · have e1 : wnk x = 1 + 1 + 1 := by unfold wnk; rw [if_neg q1, if_neg q2]; rfl
      have e2 : wnD W w x = apd (apd (apd W w (dgt x 10000)) (w + 1) (dgt x 1000)) (w + 1 + 1) (dgt x 100) := by unfold wnD; rw [if_neg q1, if_neg q2]
      rw [e1, e2, ← Int.add_assoc, ← Int.add_assoc]
      obtain ⟨ν1, a1, h1⟩ := r_ad (N := N) (x := dgt x 10000) h w0 (by omega)
      obtain ⟨ν2, a2, h2⟩ := r_ad (N := N) (x := dgt x 1000) h1 (by omega) (by omega)
      obtain ⟨ν3, a3, h3⟩ := r_ad (N := N) (x := dgt x 100) h2 (by omega) (by omega)
      rw [← g3] at a1
      rw [← g2] at a2
      rw [← g1] at a3
      refine ⟨ν3, goal ν3 ?_, h3⟩
      rw [if_neg (by omega), if_neg (by omega)]
      exact (r_h1 (u := 100) (u' := 10) (by omega) (by omega) (by omega) a1).trans ((r_h1 (u := 10) (u' := 1) (by omega) (by omega) (by omega) a2).trans ((r_h1 (u := 1) (u' := 0) (by omega) (by omega) (by omega) a3).trans r_he))
/-! texts -/
theorem wch_in {t : Nat} (ht : t = 28 ∨ t = 29) {j : Nat} (hj : j < lw_ t) : chS t j = I_ (wch t j) ∧ 0 ≤ wch t j ∧ wch t j ≤ 127 := by
  have e : wch t j = (chS t j).toInt := by unfold wch; rw [Int.toNat_natCast]
  rw [e]
  refine ⟨(Int32.ofInt_toInt _).symm, ?_⟩
  rcases ht with rfl | rfl
  · have q : ∀ k : Fin 7, 0 ≤ (chS 28 k.1).toInt ∧ (chS 28 k.1).toInt ≤ 127 := by decide +kernel
    exact q ⟨j, hj⟩
  · have q : ∀ k : Fin 11, 0 ≤ (chS 29 k.1).toInt ∧ (chS 29 k.1).toInt ≤ 127 := by decide +kernel
    exact q ⟨j, hj⟩
theorem t_len {k : Nat} (hk : k < 35) : fJ0_length k μ = some (I_ (lw_ k : Int), μ) := by
  have hkT : kT k := hk
  unfold fJ0_length
  rw [if_pos hkT, nI_I]
  rfl
theorem t_ch {k j : Nat} (hk : k < 35) (hj : j < lw_ k) : fJ0_charAt k (I_ j) μ = some (chS k j, μ) := by
  have hkT : kT k := hk
  have ll := lw_in hk
  unfold fJ0_charAt
  rw [if_pos hkT, if_neg, I_nat (by omega) (by omega), Int.toNat_natCast]
  rw [I_nat (by omega) (by omega), Int.toNat_natCast]
  intro q
  rcases q with q | q
  · rw [i_0, I_lt (by omega) (by omega) (by omega) (by omega)] at q
    omega
  · have : lenS.getD k 0 = lw_ k := rfl
    omega
theorem c_tx2 {t : Nat} (ht : t = 28 ∨ t = 29) (w0 : 0 ≤ w) (w1 : w + lw_ t ≤ 60) (hW : ∀ i : Nat, i < lw_ t → W (w + i) = wch t i) : ∀ (d n j : Nat) (μ : Mem), d < n → j + d = lw_ t → cWd μ0 (w + j) W μ → ∃ μ', fX6_addText_2 N n t (I_ j) μ = some ((), μ') ∧ cWd μ0 (w + lw_ t) W μ' := by
  have hk : t < 35 := by omega
  have ll := lw_in hk
  intro d
  induction d with
  | zero =>
    intro n j μ h1 h2 h
    obtain ⟨n, rfl⟩ : ∃ mm, n = mm + 1 := ⟨n - 1, by omega⟩
    have hle : (lw_ t : Int) ≤ j := by omega
    refine ⟨μ, ?_, ?_⟩
    · simp (disch := omega) only [fX6_addText_2, t_len hk, Int.reduceEq, Int.reduceNe, Int.reduceLT, Int.reduceLE, Int.reduceAdd, Int.reduceSub, Int.reduceMul, Int.reduceNeg, Int.zero_add, Int.add_zero, nm_eq, bd_some, bv_some, aI_ok, aL_ok, aS_ok, dv_ok, dw_ok, I_add, I_sub, I_mul, I_neg, I_lt, I_le, I_eq, I_nat, J_add, J_sub, J_mul, J_neg, J_lt, J_le, J_eq, I_l, J_i, I_div, J_div, b2_0, b2_1, b2_nar, nar_0, nar_1, zr_0, zr_1, zr_b2, cmp_eq, cmp_le, cmp_lt, cmp_gt, cmp_ge, mx_I, mn_I, mx_L, mn_L, az_I, if_true, if_false, not_true_eq_false, not_false_eq_true, Bool.false_eq_true, i_0, i_1, i_2, i_3, i_4, i_5, i_6, i_7, i_8, i_9, i_10, i_11, i_12, i_16, i_18, i_20, i_24, i_28, i_29, i_30, i_31, i_32, i_33, i_34, i_35, i_37, i_40, i_41, i_42, i_43, i_45, i_46, i_47, i_48, i_57, i_59, i_63, i_64, i_96, i_97, i_98, i_99, i_100, i_101, i_102, i_103, i_104, i_105, i_106, i_107, i_108, i_109, i_110, i_111, i_112, i_113, i_122, i_200, i_255, i_256, i_257, i_258, i_355, i_400, i_999, i_1000, i_1200, i_5680, i_9999, i_10000, i_99999, j_0, j_1, j_2, j_3, j_4, j_5, j_6, j_9, j_10, j_11, j_98, j_99, j_100, j_999, j_1000, j_9999, j_10000, j_99999, j_1000000, hle]
    · rw [show ((lw_ t : Nat) : Int) = j by omega]; exact h
  | succ d ih =>
    intro n j μ h1 h2 h
    obtain ⟨n, rfl⟩ : ∃ mm, n = mm + 1 := ⟨n - 1, by omega⟩
    have hle : ¬ (lw_ t : Int) ≤ j := by omega
    obtain ⟨c1, c2, c3⟩ := wch_in ht (j := j) (by omega)
    have hj := hW j (by omega)
    obtain ⟨μ1, a1, g1⟩ := c_ad0 (N := N) h (by omega) (by omega) (by rw [hj]; exact c2) (by rw [hj]; exact c3)
    rw [hj, ← c1] at a1
    obtain ⟨μ2, a2, g2⟩ := ih n (j + 1) μ1 (by omega) (by omega) (by rw [show w + ((j + 1 : Nat) : Int) = w + j + 1 by omega]; exact g1)
    rw [show ((j + 1 : Nat) : Int) = (j : Int) + 1 by omega] at a2
    refine ⟨μ2, ?_, g2⟩
    simp (disch := omega) only [fX6_addText_2, t_len hk, Int.reduceEq, Int.reduceNe, Int.reduceLT, Int.reduceLE, Int.reduceAdd, Int.reduceSub, Int.reduceMul, Int.reduceNeg, Int.zero_add, Int.add_zero, nm_eq, bd_some, bv_some, aI_ok, aL_ok, aS_ok, dv_ok, dw_ok, I_add, I_sub, I_mul, I_neg, I_lt, I_le, I_eq, I_nat, J_add, J_sub, J_mul, J_neg, J_lt, J_le, J_eq, I_l, J_i, I_div, J_div, b2_0, b2_1, b2_nar, nar_0, nar_1, zr_0, zr_1, zr_b2, cmp_eq, cmp_le, cmp_lt, cmp_gt, cmp_ge, mx_I, mn_I, mx_L, mn_L, az_I, if_true, if_false, not_true_eq_false, not_false_eq_true, Bool.false_eq_true, i_0, i_1, i_2, i_3, i_4, i_5, i_6, i_7, i_8, i_9, i_10, i_11, i_12, i_16, i_18, i_20, i_24, i_28, i_29, i_30, i_31, i_32, i_33, i_34, i_35, i_37, i_40, i_41, i_42, i_43, i_45, i_46, i_47, i_48, i_57, i_59, i_63, i_64, i_96, i_97, i_98, i_99, i_100, i_101, i_102, i_103, i_104, i_105, i_106, i_107, i_108, i_109, i_110, i_111, i_112, i_113, i_122, i_200, i_255, i_256, i_257, i_258, i_355, i_400, i_999, i_1000, i_1200, i_5680, i_9999, i_10000, i_99999, j_0, j_1, j_2, j_3, j_4, j_5, j_6, j_9, j_10, j_11, j_98, j_99, j_100, j_999, j_1000, j_9999, j_10000, j_99999, j_1000000, hle, t_ch hk (show j < lw_ t by omega), a1, a2]
theorem r_tx2 {t : Nat} (ht : t = 28 ∨ t = 29) (w0 : 0 ≤ w) (w1 : w + lw_ t ≤ 60) (hW : ∀ i : Nat, i < lw_ t → W (w + i) = wch t i) : ∀ (d n j : Nat) (ν : Mem), d < n → j + d = lw_ t → rWd ν0 (w + j) W ν → ∃ ν', fX11_writesText_2 N n t (I_ j) ν = some ((), ν') ∧ rWd ν0 (w + lw_ t) W ν' := by
  have hk : t < 35 := by omega
  have ll := lw_in hk
  intro d
  induction d with
  | zero =>
    intro n j ν h1 h2 h
    obtain ⟨n, rfl⟩ : ∃ mm, n = mm + 1 := ⟨n - 1, by omega⟩
    have hle : (lw_ t : Int) ≤ j := by omega
    refine ⟨ν, ?_, ?_⟩
    · simp (disch := omega) only [fX11_writesText_2, t_len hk, Int.reduceEq, Int.reduceNe, Int.reduceLT, Int.reduceLE, Int.reduceAdd, Int.reduceSub, Int.reduceMul, Int.reduceNeg, Int.zero_add, Int.add_zero, nm_eq, bd_some, bv_some, aI_ok, aL_ok, aS_ok, dv_ok, dw_ok, I_add, I_sub, I_mul, I_neg, I_lt, I_le, I_eq, I_nat, J_add, J_sub, J_mul, J_neg, J_lt, J_le, J_eq, I_l, J_i, I_div, J_div, b2_0, b2_1, b2_nar, nar_0, nar_1, zr_0, zr_1, zr_b2, cmp_eq, cmp_le, cmp_lt, cmp_gt, cmp_ge, mx_I, mn_I, mx_L, mn_L, az_I, if_true, if_false, not_true_eq_false, not_false_eq_true, Bool.false_eq_true, i_0, i_1, i_2, i_3, i_4, i_5, i_6, i_7, i_8, i_9, i_10, i_11, i_12, i_16, i_18, i_20, i_24, i_28, i_29, i_30, i_31, i_32, i_33, i_34, i_35, i_37, i_40, i_41, i_42, i_43, i_45, i_46, i_47, i_48, i_57, i_59, i_63, i_64, i_96, i_97, i_98, i_99, i_100, i_101, i_102, i_103, i_104, i_105, i_106, i_107, i_108, i_109, i_110, i_111, i_112, i_113, i_122, i_200, i_255, i_256, i_257, i_258, i_355, i_400, i_999, i_1000, i_1200, i_5680, i_9999, i_10000, i_99999, j_0, j_1, j_2, j_3, j_4, j_5, j_6, j_9, j_10, j_11, j_98, j_99, j_100, j_999, j_1000, j_9999, j_10000, j_99999, j_1000000, hle]
    · rw [show ((lw_ t : Nat) : Int) = j by omega]; exact h
  | succ d ih =>
    intro n j ν h1 h2 h
    obtain ⟨n, rfl⟩ : ∃ mm, n = mm + 1 := ⟨n - 1, by omega⟩
    have hle : ¬ (lw_ t : Int) ≤ j := by omega
    obtain ⟨c1, c2, c3⟩ := wch_in ht (j := j) (by omega)
    have hj := hW j (by omega)
    obtain ⟨ν1, a1, g1⟩ := r_ad0 (N := N) h (by omega) (by omega)
    rw [hj, ← c1] at a1
    obtain ⟨ν2, a2, g2⟩ := ih n (j + 1) ν1 (by omega) (by omega) (by rw [show w + ((j + 1 : Nat) : Int) = w + j + 1 by omega]; exact g1)
    rw [show ((j + 1 : Nat) : Int) = (j : Int) + 1 by omega] at a2
    refine ⟨ν2, ?_, g2⟩
    simp (disch := omega) only [fX11_writesText_2, t_len hk, Int.reduceEq, Int.reduceNe, Int.reduceLT, Int.reduceLE, Int.reduceAdd, Int.reduceSub, Int.reduceMul, Int.reduceNeg, Int.zero_add, Int.add_zero, nm_eq, bd_some, bv_some, aI_ok, aL_ok, aS_ok, dv_ok, dw_ok, I_add, I_sub, I_mul, I_neg, I_lt, I_le, I_eq, I_nat, J_add, J_sub, J_mul, J_neg, J_lt, J_le, J_eq, I_l, J_i, I_div, J_div, b2_0, b2_1, b2_nar, nar_0, nar_1, zr_0, zr_1, zr_b2, cmp_eq, cmp_le, cmp_lt, cmp_gt, cmp_ge, mx_I, mn_I, mx_L, mn_L, az_I, if_true, if_false, not_true_eq_false, not_false_eq_true, Bool.false_eq_true, i_0, i_1, i_2, i_3, i_4, i_5, i_6, i_7, i_8, i_9, i_10, i_11, i_12, i_16, i_18, i_20, i_24, i_28, i_29, i_30, i_31, i_32, i_33, i_34, i_35, i_37, i_40, i_41, i_42, i_43, i_45, i_46, i_47, i_48, i_57, i_59, i_63, i_64, i_96, i_97, i_98, i_99, i_100, i_101, i_102, i_103, i_104, i_105, i_106, i_107, i_108, i_109, i_110, i_111, i_112, i_113, i_122, i_200, i_255, i_256, i_257, i_258, i_355, i_400, i_999, i_1000, i_1200, i_5680, i_9999, i_10000, i_99999, j_0, j_1, j_2, j_3, j_4, j_5, j_6, j_9, j_10, j_11, j_98, j_99, j_100, j_999, j_1000, j_9999, j_10000, j_99999, j_1000000, hle, t_ch hk (show j < lw_ t by omega), a1, a2]
theorem wpx_at (i : Nat) : wpx W w g (w + i) = g i := by
  unfold wpx
  rw [if_neg (by omega), show w + (i : Int) - w = i by omega]
theorem c_text {t : Nat} (ht : t = 28 ∨ t = 29) (hN : 500 ≤ N) (h : cWd μ0 w W μ) (w0 : 0 ≤ w) (w1 : w < 40) : ∃ μ', fX6_addText N t μ = some ((), μ') ∧ cWd μ0 (w + lw_ t) (wpx W w (wch t)) μ' := by
  have hk : t < 35 := by omega
  have hkT : kT t := hk
  have hl : lw_ t ≤ 11 := by rcases ht with rfl | rfl <;> decide
  obtain ⟨μ1, a1, g1⟩ := c_tx2 (N := N) (μ0 := μ0) (W := wpx W w (wch t)) ht w0 (by omega) (fun i _ => wpx_at i) (lw_ t) N 0 μ (by omega) (by omega) (by rw [show w + ((0 : Nat) : Int) = w by omega]; exact h.px _)
  refine ⟨μ1, ?_, g1⟩
  unfold fX6_addText
  rw [if_pos hkT]
  exact a1
theorem r_text {t : Nat} (ht : t = 28 ∨ t = 29) (hN : 500 ≤ N) (h : rWd ν0 w W ν) (w0 : 0 ≤ w) (w1 : w < 40) : ∃ ν', fX11_writesText N t ν = some ((), ν') ∧ rWd ν0 (w + lw_ t) (wpx W w (wch t)) ν' := by
  have hk : t < 35 := by omega
  have hkT : kT t := hk
  have hl : lw_ t ≤ 11 := by rcases ht with rfl | rfl <;> decide
  obtain ⟨ν1, a1, g1⟩ := r_tx2 (N := N) (ν0 := ν0) (W := wpx W w (wch t)) ht w0 (by omega) (fun i _ => wpx_at i) (lw_ t) N 0 ν (by omega) (by omega) (by rw [show w + ((0 : Nat) : Int) = w by omega]; exact h.px _)
  refine ⟨ν1, ?_, g1⟩
  unfold fX11_writesText
  rw [if_pos hkT]
  exact a1
end
