/-! The reference's primitives. -/
def RR (T : Int → Int) (n s f : Int) (ν : Mem) : Prop := ∃ r, RX T n r f ν ∧ (f = -1 → sk T n r = s)
def P_at (k j : Nat) : Prop := k = 0 ∧ (j = 16 ∨ j = 17)
theorem P_a16 {ν ν1 : Mem} {v : Int32} (h : Fr P_at ν ν1) : Fr P_at ν (stI ν1 0 16 v) := h.stI ⟨rfl, Or.inl rfl⟩
theorem P_a17 {ν ν1 : Mem} {v : Int32} (h : Fr P_at ν ν1) : Fr P_at ν (stI ν1 0 17 v) := h.stI ⟨rfl, Or.inr rfl⟩
section
variable {T : Int → Int} {n s f r : Int} {N : Nat} {ν : Mem}
theorem RR.F {P : Nat → Nat → Prop} {ν' : Mem} (h : RR T n s f ν) (g : Fr P ν ν') (hp : ∀ k j, P k j → k ≠ 10 ∧ ¬ (k = 0 ∧ 15 ≤ j ∧ j ≤ 17)) : RR T n s f ν' := by
  obtain ⟨r, h1, h2⟩ := h
  exact ⟨r, h1.F g hp, h2⟩
theorem r_wq (hX : RX T n r f ν) : fX11_isWrong N ν = some (I_ (b2 (¬ f = -1)), ν) := by
  have h6 := hX.2.2.2.2.2
  by_cases hf : f = -1
  · rw [b2_f (fun q => q hf)]
    simp (disch := omega) only [fX11_isWrong, Int.reduceEq, Int.reduceNe, Int.reduceLT, Int.reduceLE, Int.reduceAdd, Int.reduceSub, Int.reduceMul, Int.reduceNeg, Int.zero_add, Int.add_zero, nm_eq, bd_some, bv_some, aI_ok, aL_ok, aS_ok, dv_ok, dw_ok, I_add, I_sub, I_mul, I_neg, I_lt, I_le, I_eq, I_nat, J_add, J_sub, J_mul, J_neg, J_lt, J_le, J_eq, I_l, J_i, I_div, J_div, b2_0, b2_1, b2_nar, nar_0, nar_1, zr_0, zr_1, zr_b2, cmp_eq, cmp_le, cmp_lt, cmp_gt, cmp_ge, mx_I, mn_I, mx_L, mn_L, az_I, if_true, if_false, not_true_eq_false, not_false_eq_true, Bool.false_eq_true, i_0, i_1, i_2, i_3, i_4, i_5, i_6, i_7, i_8, i_9, i_10, i_11, i_12, i_16, i_18, i_20, i_24, i_28, i_29, i_30, i_31, i_32, i_33, i_34, i_35, i_37, i_40, i_41, i_42, i_43, i_45, i_46, i_47, i_48, i_57, i_59, i_63, i_64, i_96, i_97, i_98, i_99, i_100, i_101, i_102, i_103, i_104, i_105, i_106, i_107, i_108, i_109, i_110, i_111, i_112, i_113, i_122, i_200, i_255, i_256, i_257, i_258, i_355, i_400, i_999, i_1000, i_1200, i_5680, i_9999, i_10000, i_99999, j_0, j_1, j_2, j_3, j_4, j_5, j_6, j_9, j_10, j_11, j_98, j_99, j_100, j_999, j_1000, j_9999, j_10000, j_99999, j_1000000, hX.2.1, hf]
  · rw [b2_t hf]
    simp (disch := omega) only [fX11_isWrong, Int.reduceEq, Int.reduceNe, Int.reduceLT, Int.reduceLE, Int.reduceAdd, Int.reduceSub, Int.reduceMul, Int.reduceNeg, Int.zero_add, Int.add_zero, nm_eq, bd_some, bv_some, aI_ok, aL_ok, aS_ok, dv_ok, dw_ok, I_add, I_sub, I_mul, I_neg, I_lt, I_le, I_eq, I_nat, J_add, J_sub, J_mul, J_neg, J_lt, J_le, J_eq, I_l, J_i, I_div, J_div, b2_0, b2_1, b2_nar, nar_0, nar_1, zr_0, zr_1, zr_b2, cmp_eq, cmp_le, cmp_lt, cmp_gt, cmp_ge, mx_I, mn_I, mx_L, mn_L, az_I, if_true, if_false, not_true_eq_false, not_false_eq_true, Bool.false_eq_true, i_0, i_1, i_2, i_3, i_4, i_5, i_6, i_7, i_8, i_9, i_10, i_11, i_12, i_16, i_18, i_20, i_24, i_28, i_29, i_30, i_31, i_32, i_33, i_34, i_35, i_37, i_40, i_41, i_42, i_43, i_45, i_46, i_47, i_48, i_57, i_59, i_63, i_64, i_96, i_97, i_98, i_99, i_100, i_101, i_102, i_103, i_104, i_105, i_106, i_107, i_108, i_109, i_110, i_111, i_112, i_113, i_122, i_200, i_255, i_256, i_257, i_258, i_355, i_400, i_999, i_1000, i_1200, i_5680, i_9999, i_10000, i_99999, j_0, j_1, j_2, j_3, j_4, j_5, j_6, j_9, j_10, j_11, j_98, j_99, j_100, j_999, j_1000, j_9999, j_10000, j_99999, j_1000000, hX.2.1, hf]
theorem RR.wq (h : RR T n s f ν) : fX11_isWrong N ν = some (I_ (b2 (¬ f = -1)), ν) := by
  obtain ⟨r, h1, h2⟩ := h
  exact r_wq h1
theorem r_wrAt (hX : RX T n r f ν) (i : Int) : fX11_wrongAt N (I_ i) ν = some ((), stI ν 0 17 (I_ (if f = -1 then i else f))) := by
  have h6 := hX.2.2.2.2.2
  by_cases hf : f = -1
  · rw [if_pos hf]
    simp (disch := omega) only [fX11_wrongAt, Int.reduceEq, Int.reduceNe, Int.reduceLT, Int.reduceLE, Int.reduceAdd, Int.reduceSub, Int.reduceMul, Int.reduceNeg, Int.zero_add, Int.add_zero, nm_eq, bd_some, bv_some, aI_ok, aL_ok, aS_ok, dv_ok, dw_ok, I_add, I_sub, I_mul, I_neg, I_lt, I_le, I_eq, I_nat, J_add, J_sub, J_mul, J_neg, J_lt, J_le, J_eq, I_l, J_i, I_div, J_div, b2_0, b2_1, b2_nar, nar_0, nar_1, zr_0, zr_1, zr_b2, cmp_eq, cmp_le, cmp_lt, cmp_gt, cmp_ge, mx_I, mn_I, mx_L, mn_L, az_I, if_true, if_false, not_true_eq_false, not_false_eq_true, Bool.false_eq_true, i_0, i_1, i_2, i_3, i_4, i_5, i_6, i_7, i_8, i_9, i_10, i_11, i_12, i_16, i_18, i_20, i_24, i_28, i_29, i_30, i_31, i_32, i_33, i_34, i_35, i_37, i_40, i_41, i_42, i_43, i_45, i_46, i_47, i_48, i_57, i_59, i_63, i_64, i_96, i_97, i_98, i_99, i_100, i_101, i_102, i_103, i_104, i_105, i_106, i_107, i_108, i_109, i_110, i_111, i_112, i_113, i_122, i_200, i_255, i_256, i_257, i_258, i_355, i_400, i_999, i_1000, i_1200, i_5680, i_9999, i_10000, i_99999, j_0, j_1, j_2, j_3, j_4, j_5, j_6, j_9, j_10, j_11, j_98, j_99, j_100, j_999, j_1000, j_9999, j_10000, j_99999, j_1000000, hX.2.1, hf]
  · rw [if_neg hf]
    simp (disch := omega) only [fX11_wrongAt, Int.reduceEq, Int.reduceNe, Int.reduceLT, Int.reduceLE, Int.reduceAdd, Int.reduceSub, Int.reduceMul, Int.reduceNeg, Int.zero_add, Int.add_zero, nm_eq, bd_some, bv_some, aI_ok, aL_ok, aS_ok, dv_ok, dw_ok, I_add, I_sub, I_mul, I_neg, I_lt, I_le, I_eq, I_nat, J_add, J_sub, J_mul, J_neg, J_lt, J_le, J_eq, I_l, J_i, I_div, J_div, b2_0, b2_1, b2_nar, nar_0, nar_1, zr_0, zr_1, zr_b2, cmp_eq, cmp_le, cmp_lt, cmp_gt, cmp_ge, mx_I, mn_I, mx_L, mn_L, az_I, if_true, if_false, not_true_eq_false, not_false_eq_true, Bool.false_eq_true, i_0, i_1, i_2, i_3, i_4, i_5, i_6, i_7, i_8, i_9, i_10, i_11, i_12, i_16, i_18, i_20, i_24, i_28, i_29, i_30, i_31, i_32, i_33, i_34, i_35, i_37, i_40, i_41, i_42, i_43, i_45, i_46, i_47, i_48, i_57, i_59, i_63, i_64, i_96, i_97, i_98, i_99, i_100, i_101, i_102, i_103, i_104, i_105, i_106, i_107, i_108, i_109, i_110, i_111, i_112, i_113, i_122, i_200, i_255, i_256, i_257, i_258, i_355, i_400, i_999, i_1000, i_1200, i_5680, i_9999, i_10000, i_99999, j_0, j_1, j_2, j_3, j_4, j_5, j_6, j_9, j_10, j_11, j_98, j_99, j_100, j_999, j_1000, j_9999, j_10000, j_99999, j_1000000, hX.2.1, hf]
theorem r_wr (hX : RX T n r f ν) : fX11_wrong N ν = some ((), stI ν 0 17 (I_ (if f = -1 then r else f))) := by
  simp (disch := omega) only [fX11_wrong, Int.reduceEq, Int.reduceNe, Int.reduceLT, Int.reduceLE, Int.reduceAdd, Int.reduceSub, Int.reduceMul, Int.reduceNeg, Int.zero_add, Int.add_zero, nm_eq, bd_some, bv_some, aI_ok, aL_ok, aS_ok, dv_ok, dw_ok, I_add, I_sub, I_mul, I_neg, I_lt, I_le, I_eq, I_nat, J_add, J_sub, J_mul, J_neg, J_lt, J_le, J_eq, I_l, J_i, I_div, J_div, b2_0, b2_1, b2_nar, nar_0, nar_1, zr_0, zr_1, zr_b2, cmp_eq, cmp_le, cmp_lt, cmp_gt, cmp_ge, mx_I, mn_I, mx_L, mn_L, az_I, if_true, if_false, not_true_eq_false, not_false_eq_true, Bool.false_eq_true, i_0, i_1, i_2, i_3, i_4, i_5, i_6, i_7, i_8, i_9, i_10, i_11, i_12, i_16, i_18, i_20, i_24, i_28, i_29, i_30, i_31, i_32, i_33, i_34, i_35, i_37, i_40, i_41, i_42, i_43, i_45, i_46, i_47, i_48, i_57, i_59, i_63, i_64, i_96, i_97, i_98, i_99, i_100, i_101, i_102, i_103, i_104, i_105, i_106, i_107, i_108, i_109, i_110, i_111, i_112, i_113, i_122, i_200, i_255, i_256, i_257, i_258, i_355, i_400, i_999, i_1000, i_1200, i_5680, i_9999, i_10000, i_99999, j_0, j_1, j_2, j_3, j_4, j_5, j_6, j_9, j_10, j_11, j_98, j_99, j_100, j_999, j_1000, j_9999, j_10000, j_99999, j_1000000, hX.2.2.1, r_wrAt hX]
/-- a sign stands at s -/
theorem kd_c (hT : tB T n) {c : Int} (c0 : 0 ≤ c) (c1 : c ≤ 127) (cl : ¬ (97 ≤ c ∧ c ≤ 122)) (cd : ¬ (48 ≤ c ∧ c ≤ 57)) : (hb T n s = c ↔ kd T n s = c) ∧ (kd T n s = c → s < n ∧ te T n s = s + 1) := by
  have bs := hT.2.2 s
  unfold hb kd te
  by_cases hs : s < n
  · rw [if_pos hs, if_pos hs, if_pos hs]
    by_cases hl : cLe (T s) = true
    · rw [if_pos hl]
      rw [cLe_y] at hl
      exact ⟨by omega, by omega⟩
    · rw [if_neg hl, if_neg hl]
      by_cases hd : cDi (T s) = true
      · rw [if_pos hd]
        rw [cDi_y] at hd
        exact ⟨by omega, by omega⟩
      · rw [if_neg hd, if_neg hd]
        exact ⟨by omega, fun _ => ⟨hs, rfl⟩⟩
  · rw [if_neg hs, if_neg hs, if_neg hs]
    exact ⟨by omega, by omega⟩
theorem hb_in (hT : tB T n) (s : Int) : -1 ≤ hb T n s ∧ hb T n s ≤ 255 := by
  unfold hb
  split <;> omega
theorem r_sign (hT : tB T n) (hN : 500 ≤ N) {c : Int} (c0 : 0 ≤ c) (c1 : c ≤ 127) (cl : ¬ (97 ≤ c ∧ c ≤ 122)) (cd : ¬ (48 ≤ c ∧ c ≤ 57)) (h : RR T n s f ν) : ∃ ν', fX11_sign N (I_ c) ν = some ((), ν') ∧ RR T n (oS T n (kd T n s = c) s f) (oF (kd T n s = c) s f) ν' ∧ Fr P_at ν ν' := by
  obtain ⟨r, hX, hr⟩ := h
  have i0 := hX.2.2.2.2.1
  have h6 := hX.2.2.2.2.2
  by_cases hf : f = -1
  · subst hf
    have hr := hr rfl
    have hi := sk_in (T := T) i0.2
    have hh := r_here hT hN hX
    rw [hr] at hh hi
    have hY := hX.at (i := s) (by omega) (by omega)
    have hb' := hb_in hT s
    obtain ⟨k1, k2⟩ := kd_c (s := s) hT c0 c1 cl cd
    by_cases ho : kd T n s = c
    · have hq : hb T n s = c := k1.mpr ho
      have k3 := k2 ho
      rw [oS_y ho, oF_y ho]
      refine ⟨stI (stI ν 0 16 (I_ s)) 0 16 (I_ (s + 1)), ?_, ⟨s + 1, hY.at (by omega) (by omega), fun _ => ?_⟩, P_a16 (P_a16 Fr.rf)⟩
      · simp (disch := omega) only [fX11_sign, Int.reduceEq, Int.reduceNe, Int.reduceLT, Int.reduceLE, Int.reduceAdd, Int.reduceSub, Int.reduceMul, Int.reduceNeg, Int.zero_add, Int.add_zero, nm_eq, bd_some, bv_some, aI_ok, aL_ok, aS_ok, dv_ok, dw_ok, I_add, I_sub, I_mul, I_neg, I_lt, I_le, I_eq, I_nat, J_add, J_sub, J_mul, J_neg, J_lt, J_le, J_eq, I_l, J_i, I_div, J_div, b2_0, b2_1, b2_nar, nar_0, nar_1, zr_0, zr_1, zr_b2, cmp_eq, cmp_le, cmp_lt, cmp_gt, cmp_ge, mx_I, mn_I, mx_L, mn_L, az_I, if_true, if_false, not_true_eq_false, not_false_eq_true, Bool.false_eq_true, i_0, i_1, i_2, i_3, i_4, i_5, i_6, i_7, i_8, i_9, i_10, i_11, i_12, i_16, i_18, i_20, i_24, i_28, i_29, i_30, i_31, i_32, i_33, i_34, i_35, i_37, i_40, i_41, i_42, i_43, i_45, i_46, i_47, i_48, i_57, i_59, i_63, i_64, i_96, i_97, i_98, i_99, i_100, i_101, i_102, i_103, i_104, i_105, i_106, i_107, i_108, i_109, i_110, i_111, i_112, i_113, i_122, i_200, i_255, i_256, i_257, i_258, i_355, i_400, i_999, i_1000, i_1200, i_5680, i_9999, i_10000, i_99999, j_0, j_1, j_2, j_3, j_4, j_5, j_6, j_9, j_10, j_11, j_98, j_99, j_100, j_999, j_1000, j_9999, j_10000, j_99999, j_1000000, r_wq hX, hh, hq, hY.2.2.1]
      · unfold nx
        rw [k3.2]
    · have hq : ¬ hb T n s = c := fun q => ho (k1.mp q)
      rw [oS_n ho, oF_n ho]
      refine ⟨stI (stI ν 0 16 (I_ s)) 0 17 (I_ s), ?_, ⟨s, hY.wr (by omega) (by have := hT.2.1; omega), fun q => ?_⟩, P_a17 (P_a16 Fr.rf)⟩
      · have hw := r_wr (N := N) hY
        rw [if_pos rfl] at hw
        simp (disch := omega) only [fX11_sign, Int.reduceEq, Int.reduceNe, Int.reduceLT, Int.reduceLE, Int.reduceAdd, Int.reduceSub, Int.reduceMul, Int.reduceNeg, Int.zero_add, Int.add_zero, nm_eq, bd_some, bv_some, aI_ok, aL_ok, aS_ok, dv_ok, dw_ok, I_add, I_sub, I_mul, I_neg, I_lt, I_le, I_eq, I_nat, J_add, J_sub, J_mul, J_neg, J_lt, J_le, J_eq, I_l, J_i, I_div, J_div, b2_0, b2_1, b2_nar, nar_0, nar_1, zr_0, zr_1, zr_b2, cmp_eq, cmp_le, cmp_lt, cmp_gt, cmp_ge, mx_I, mn_I, mx_L, mn_L, az_I, if_true, if_false, not_true_eq_false, not_false_eq_true, Bool.false_eq_true, i_0, i_1, i_2, i_3, i_4, i_5, i_6, i_7, i_8, i_9, i_10, i_11, i_12, i_16, i_18, i_20, i_24, i_28, i_29, i_30, i_31, i_32, i_33, i_34, i_35, i_37, i_40, i_41, i_42, i_43, i_45, i_46, i_47, i_48, i_57, i_59, i_63, i_64, i_96, i_97, i_98, i_99, i_100, i_101, i_102, i_103, i_104, i_105, i_106, i_107, i_108, i_109, i_110, i_111, i_112, i_113, i_122, i_200, i_255, i_256, i_257, i_258, i_355, i_400, i_999, i_1000, i_1200, i_5680, i_9999, i_10000, i_99999, j_0, j_1, j_2, j_3, j_4, j_5, j_6, j_9, j_10, j_11, j_98, j_99, j_100, j_999, j_1000, j_9999, j_10000, j_99999, j_1000000, r_wq hX, hh, hq, hw]
      · omega
  · rw [oS_f hf, oF_f hf]
    refine ⟨ν, ?_, ⟨r, hX, hr⟩, Fr.rf⟩
    simp (disch := omega) only [fX11_sign, Int.reduceEq, Int.reduceNe, Int.reduceLT, Int.reduceLE, Int.reduceAdd, Int.reduceSub, Int.reduceMul, Int.reduceNeg, Int.zero_add, Int.add_zero, nm_eq, bd_some, bv_some, aI_ok, aL_ok, aS_ok, dv_ok, dw_ok, I_add, I_sub, I_mul, I_neg, I_lt, I_le, I_eq, I_nat, J_add, J_sub, J_mul, J_neg, J_lt, J_le, J_eq, I_l, J_i, I_div, J_div, b2_0, b2_1, b2_nar, nar_0, nar_1, zr_0, zr_1, zr_b2, cmp_eq, cmp_le, cmp_lt, cmp_gt, cmp_ge, mx_I, mn_I, mx_L, mn_L, az_I, if_true, if_false, not_true_eq_false, not_false_eq_true, Bool.false_eq_true, i_0, i_1, i_2, i_3, i_4, i_5, i_6, i_7, i_8, i_9, i_10, i_11, i_12, i_16, i_18, i_20, i_24, i_28, i_29, i_30, i_31, i_32, i_33, i_34, i_35, i_37, i_40, i_41, i_42, i_43, i_45, i_46, i_47, i_48, i_57, i_59, i_63, i_64, i_96, i_97, i_98, i_99, i_100, i_101, i_102, i_103, i_104, i_105, i_106, i_107, i_108, i_109, i_110, i_111, i_112, i_113, i_122, i_200, i_255, i_256, i_257, i_258, i_355, i_400, i_999, i_1000, i_1200, i_5680, i_9999, i_10000, i_99999, j_0, j_1, j_2, j_3, j_4, j_5, j_6, j_9, j_10, j_11, j_98, j_99, j_100, j_999, j_1000, j_9999, j_10000, j_99999, j_1000000, r_wq hX, hf]
/-! numbers -/
def rdg (T : Int → Int) (s : Int) : Nat → Int → Int → Int
  | 0, _, v => v
  | d + 1, i, v => rdg T s d (i + 1) (if 5 ≤ i - s then v else 10 * v + T i - 48)
theorem rdg_dg : ∀ (d : Nat) (i v : Int), i - s + d ≤ 5 → rdg T s d i v = dg T d i v := by
  intro d
  induction d with
  | zero => intro i v _; rfl
  | succ d ih =>
    intro i v h
    show rdg T s d (i + 1) (if 5 ≤ i - s then v else 10 * v + T i - 48) = dg T d (i + 1) (v * 10 + (T i - 48))
    rw [if_neg (by omega), ih (i + 1) _ (by omega)]
    congr 1
    omega
theorem r_di (hT : tB T n) (hX : RX T n r f ν) {i : Int} (h0 : 0 ≤ i) (h1 : i ≤ n) : fX11_isDigitAt N (I_ i) ν = some (I_ (b2 (i < n ∧ cDi (T i) = true)), ν) := by
  have n1 := hT.2.1
  by_cases hi : i < n
  · have hle : ¬ n ≤ i := by omega
    have hv := hX.2.2.2.1 i h0 hi
    have bi := hT.2.2 i
    by_cases hd : cDi (T i) = true
    · rw [b2_t ⟨hi, hd⟩]
      rw [cDi_y] at hd
      have q1 : ¬ T i < 48 := by omega
      have q2 : ¬ 57 < T i := by omega
      simp (disch := omega) only [fX11_isDigitAt, Int.reduceEq, Int.reduceNe, Int.reduceLT, Int.reduceLE, Int.reduceAdd, Int.reduceSub, Int.reduceMul, Int.reduceNeg, Int.zero_add, Int.add_zero, nm_eq, bd_some, bv_some, aI_ok, aL_ok, aS_ok, dv_ok, dw_ok, I_add, I_sub, I_mul, I_neg, I_lt, I_le, I_eq, I_nat, J_add, J_sub, J_mul, J_neg, J_lt, J_le, J_eq, I_l, J_i, I_div, J_div, b2_0, b2_1, b2_nar, nar_0, nar_1, zr_0, zr_1, zr_b2, cmp_eq, cmp_le, cmp_lt, cmp_gt, cmp_ge, mx_I, mn_I, mx_L, mn_L, az_I, if_true, if_false, not_true_eq_false, not_false_eq_true, Bool.false_eq_true, i_0, i_1, i_2, i_3, i_4, i_5, i_6, i_7, i_8, i_9, i_10, i_11, i_12, i_16, i_18, i_20, i_24, i_28, i_29, i_30, i_31, i_32, i_33, i_34, i_35, i_37, i_40, i_41, i_42, i_43, i_45, i_46, i_47, i_48, i_57, i_59, i_63, i_64, i_96, i_97, i_98, i_99, i_100, i_101, i_102, i_103, i_104, i_105, i_106, i_107, i_108, i_109, i_110, i_111, i_112, i_113, i_122, i_200, i_255, i_256, i_257, i_258, i_355, i_400, i_999, i_1000, i_1200, i_5680, i_9999, i_10000, i_99999, j_0, j_1, j_2, j_3, j_4, j_5, j_6, j_9, j_10, j_11, j_98, j_99, j_100, j_999, j_1000, j_9999, j_10000, j_99999, j_1000000, hX.1, hle, hv, q1, q2]
    · rw [b2_f (fun q => hd q.2)]
      rw [cDi_y] at hd
      by_cases q1 : T i < 48
      · simp (disch := omega) only [fX11_isDigitAt, Int.reduceEq, Int.reduceNe, Int.reduceLT, Int.reduceLE, Int.reduceAdd, Int.reduceSub, Int.reduceMul, Int.reduceNeg, Int.zero_add, Int.add_zero, nm_eq, bd_some, bv_some, aI_ok, aL_ok, aS_ok, dv_ok, dw_ok, I_add, I_sub, I_mul, I_neg, I_lt, I_le, I_eq, I_nat, J_add, J_sub, J_mul, J_neg, J_lt, J_le, J_eq, I_l, J_i, I_div, J_div, b2_0, b2_1, b2_nar, nar_0, nar_1, zr_0, zr_1, zr_b2, cmp_eq, cmp_le, cmp_lt, cmp_gt, cmp_ge, mx_I, mn_I, mx_L, mn_L, az_I, if_true, if_false, not_true_eq_false, not_false_eq_true, Bool.false_eq_true, i_0, i_1, i_2, i_3, i_4, i_5, i_6, i_7, i_8, i_9, i_10, i_11, i_12, i_16, i_18, i_20, i_24, i_28, i_29, i_30, i_31, i_32, i_33, i_34, i_35, i_37, i_40, i_41, i_42, i_43, i_45, i_46, i_47, i_48, i_57, i_59, i_63, i_64, i_96, i_97, i_98, i_99, i_100, i_101, i_102, i_103, i_104, i_105, i_106, i_107, i_108, i_109, i_110, i_111, i_112, i_113, i_122, i_200, i_255, i_256, i_257, i_258, i_355, i_400, i_999, i_1000, i_1200, i_5680, i_9999, i_10000, i_99999, j_0, j_1, j_2, j_3, j_4, j_5, j_6, j_9, j_10, j_11, j_98, j_99, j_100, j_999, j_1000, j_9999, j_10000, j_99999, j_1000000, hX.1, hle, hv, q1]
      · have q2 : 57 < T i := by omega
        simp (disch := omega) only [fX11_isDigitAt, Int.reduceEq, Int.reduceNe, Int.reduceLT, Int.reduceLE, Int.reduceAdd, Int.reduceSub, Int.reduceMul, Int.reduceNeg, Int.zero_add, Int.add_zero, nm_eq, bd_some, bv_some, aI_ok, aL_ok, aS_ok, dv_ok, dw_ok, I_add, I_sub, I_mul, I_neg, I_lt, I_le, I_eq, I_nat, J_add, J_sub, J_mul, J_neg, J_lt, J_le, J_eq, I_l, J_i, I_div, J_div, b2_0, b2_1, b2_nar, nar_0, nar_1, zr_0, zr_1, zr_b2, cmp_eq, cmp_le, cmp_lt, cmp_gt, cmp_ge, mx_I, mn_I, mx_L, mn_L, az_I, if_true, if_false, not_true_eq_false, not_false_eq_true, Bool.false_eq_true, i_0, i_1, i_2, i_3, i_4, i_5, i_6, i_7, i_8, i_9, i_10, i_11, i_12, i_16, i_18, i_20, i_24, i_28, i_29, i_30, i_31, i_32, i_33, i_34, i_35, i_37, i_40, i_41, i_42, i_43, i_45, i_46, i_47, i_48, i_57, i_59, i_63, i_64, i_96, i_97, i_98, i_99, i_100, i_101, i_102, i_103, i_104, i_105, i_106, i_107, i_108, i_109, i_110, i_111, i_112, i_113, i_122, i_200, i_255, i_256, i_257, i_258, i_355, i_400, i_999, i_1000, i_1200, i_5680, i_9999, i_10000, i_99999, j_0, j_1, j_2, j_3, j_4, j_5, j_6, j_9, j_10, j_11, j_98, j_99, j_100, j_999, j_1000, j_9999, j_10000, j_99999, j_1000000, hX.1, hle, hv, q1, q2]
  · rw [b2_f (fun q => hi q.1)]
    have hle : n ≤ i := by omega
    simp (disch := omega) only [fX11_isDigitAt, Int.reduceEq, Int.reduceNe, Int.reduceLT, Int.reduceLE, Int.reduceAdd, Int.reduceSub, Int.reduceMul, Int.reduceNeg, Int.zero_add, Int.add_zero, nm_eq, bd_some, bv_some, aI_ok, aL_ok, aS_ok, dv_ok, dw_ok, I_add, I_sub, I_mul, I_neg, I_lt, I_le, I_eq, I_nat, J_add, J_sub, J_mul, J_neg, J_lt, J_le, J_eq, I_l, J_i, I_div, J_div, b2_0, b2_1, b2_nar, nar_0, nar_1, zr_0, zr_1, zr_b2, cmp_eq, cmp_le, cmp_lt, cmp_gt, cmp_ge, mx_I, mn_I, mx_L, mn_L, az_I, if_true, if_false, not_true_eq_false, not_false_eq_true, Bool.false_eq_true, i_0, i_1, i_2, i_3, i_4, i_5, i_6, i_7, i_8, i_9, i_10, i_11, i_12, i_16, i_18, i_20, i_24, i_28, i_29, i_30, i_31, i_32, i_33, i_34, i_35, i_37, i_40, i_41, i_42, i_43, i_45, i_46, i_47, i_48, i_57, i_59, i_63, i_64, i_96, i_97, i_98, i_99, i_100, i_101, i_102, i_103, i_104, i_105, i_106, i_107, i_108, i_109, i_110, i_111, i_112, i_113, i_122, i_200, i_255, i_256, i_257, i_258, i_355, i_400, i_999, i_1000, i_1200, i_5680, i_9999, i_10000, i_99999, j_0, j_1, j_2, j_3, j_4, j_5, j_6, j_9, j_10, j_11, j_98, j_99, j_100, j_999, j_1000, j_9999, j_10000, j_99999, j_1000000, hX.1, hle]
theorem r_num23 (hT : tB T n) (s0 : 0 ≤ s) {dl lo hi : Int32} {kk : Int32 → Mem → Option (Int32 × Mem)} (hk : ∀ v ν, fX11_number_83 N dl lo hi (I_ s) v ν = kk v ν) : ∀ (d m : Nat) (i v : Int) (ν : Mem), d < m → s ≤ i → i + d = de T n i → RX T n i f ν → fX11_number_23 N m dl lo hi (I_ s) (I_ v) ν = kk (I_ (rdg T s d i v)) (stI ν 0 16 (I_ (i + d))) := by
  have n1 := hT.2.1
  intro d
  induction d with
  | zero =>
    intro m i v ν h1 h2 h3 hX
    obtain ⟨m, rfl⟩ : ∃ mm, m = mm + 1 := ⟨m - 1, by omega⟩
    have i0 := hX.2.2.2.2.1
    have hno : ¬ (i < n ∧ cDi (T i) = true) := fun q => by
      have e : de T n i = de T n (i + 1) := sca_y q.1 q.2
      have := de_in (T := T) (n := n) (i := i + 1) (by omega)
      omega
    have e : i + ((0 : Nat) : Int) = i := by omega
    rw [e, st_id hX.2.2.1, ← hk]
    simp (disch := omega) only [fX11_number_23, Int.reduceEq, Int.reduceNe, Int.reduceLT, Int.reduceLE, Int.reduceAdd, Int.reduceSub, Int.reduceMul, Int.reduceNeg, Int.zero_add, Int.add_zero, nm_eq, bd_some, bv_some, aI_ok, aL_ok, aS_ok, dv_ok, dw_ok, I_add, I_sub, I_mul, I_neg, I_lt, I_le, I_eq, I_nat, J_add, J_sub, J_mul, J_neg, J_lt, J_le, J_eq, I_l, J_i, I_div, J_div, b2_0, b2_1, b2_nar, nar_0, nar_1, zr_0, zr_1, zr_b2, cmp_eq, cmp_le, cmp_lt, cmp_gt, cmp_ge, mx_I, mn_I, mx_L, mn_L, az_I, if_true, if_false, not_true_eq_false, not_false_eq_true, Bool.false_eq_true, i_0, i_1, i_2, i_3, i_4, i_5, i_6, i_7, i_8, i_9, i_10, i_11, i_12, i_16, i_18, i_20, i_24, i_28, i_29, i_30, i_31, i_32, i_33, i_34, i_35, i_37, i_40, i_41, i_42, i_43, i_45, i_46, i_47, i_48, i_57, i_59, i_63, i_64, i_96, i_97, i_98, i_99, i_100, i_101, i_102, i_103, i_104, i_105, i_106, i_107, i_108, i_109, i_110, i_111, i_112, i_113, i_122, i_200, i_255, i_256, i_257, i_258, i_355, i_400, i_999, i_1000, i_1200, i_5680, i_9999, i_10000, i_99999, j_0, j_1, j_2, j_3, j_4, j_5, j_6, j_9, j_10, j_11, j_98, j_99, j_100, j_999, j_1000, j_9999, j_10000, j_99999, j_1000000, hX.2.2.1, r_di hT hX i0.1 i0.2, hno]
    rfl
  | succ d ih =>
    intro m i v ν h1 h2 h3 hX
    obtain ⟨m, rfl⟩ : ∃ mm, m = mm + 1 := ⟨m - 1, by omega⟩
    have i0 := hX.2.2.2.2.1
    have hyes : i < n ∧ cDi (T i) = true := by
      by_cases hi : i < n
      · refine ⟨hi, ?_⟩
        by_cases hd : cDi (T i) = true
        · exact hd
        · have e : de T n i = i := sca_n hi hd
          omega
      · have e : de T n i = i := sca_0 (by omega)
        omega
    have e : de T n i = de T n (i + 1) := sca_y hyes.1 hyes.2
    have hv := hX.2.2.2.1 i (by omega) hyes.1
    have hY := hX.at (i := i + 1) (by omega) (by omega)
    by_cases h5 : 5 ≤ i - s
    · have hi := ih m (i + 1) v (stI ν 0 16 (I_ (i + 1))) (by omega) (by omega) (by omega) hY
      rw [st_st] at hi
      have e1 : rdg T s (d + 1) i v = rdg T s d (i + 1) v := by
        show rdg T s d (i + 1) (if 5 ≤ i - s then v else 10 * v + T i - 48) = _
        rw [if_pos h5]
      rw [e1, show i + ((d + 1 : Nat) : Int) = i + 1 + d by omega, ← hi]
      simp (disch := omega) only [fX11_number_23, Int.reduceEq, Int.reduceNe, Int.reduceLT, Int.reduceLE, Int.reduceAdd, Int.reduceSub, Int.reduceMul, Int.reduceNeg, Int.zero_add, Int.add_zero, nm_eq, bd_some, bv_some, aI_ok, aL_ok, aS_ok, dv_ok, dw_ok, I_add, I_sub, I_mul, I_neg, I_lt, I_le, I_eq, I_nat, J_add, J_sub, J_mul, J_neg, J_lt, J_le, J_eq, I_l, J_i, I_div, J_div, b2_0, b2_1, b2_nar, nar_0, nar_1, zr_0, zr_1, zr_b2, cmp_eq, cmp_le, cmp_lt, cmp_gt, cmp_ge, mx_I, mn_I, mx_L, mn_L, az_I, if_true, if_false, not_true_eq_false, not_false_eq_true, Bool.false_eq_true, i_0, i_1, i_2, i_3, i_4, i_5, i_6, i_7, i_8, i_9, i_10, i_11, i_12, i_16, i_18, i_20, i_24, i_28, i_29, i_30, i_31, i_32, i_33, i_34, i_35, i_37, i_40, i_41, i_42, i_43, i_45, i_46, i_47, i_48, i_57, i_59, i_63, i_64, i_96, i_97, i_98, i_99, i_100, i_101, i_102, i_103, i_104, i_105, i_106, i_107, i_108, i_109, i_110, i_111, i_112, i_113, i_122, i_200, i_255, i_256, i_257, i_258, i_355, i_400, i_999, i_1000, i_1200, i_5680, i_9999, i_10000, i_99999, j_0, j_1, j_2, j_3, j_4, j_5, j_6, j_9, j_10, j_11, j_98, j_99, j_100, j_999, j_1000, j_9999, j_10000, j_99999, j_1000000, hX.2.2.1, r_di hT hX i0.1 i0.2, hyes, and_self, h5]
    · have hi := ih m (i + 1) (10 * v + T i - 48) (stI ν 0 16 (I_ (i + 1))) (by omega) (by omega) (by omega) hY
      rw [st_st] at hi
      have e1 : rdg T s (d + 1) i v = rdg T s d (i + 1) (10 * v + T i - 48) := by
        show rdg T s d (i + 1) (if 5 ≤ i - s then v else 10 * v + T i - 48) = _
        rw [if_neg h5]
      rw [e1, show i + ((d + 1 : Nat) : Int) = i + 1 + d by omega, ← hi]
      simp (disch := omega) only [fX11_number_23, Int.reduceEq, Int.reduceNe, Int.reduceLT, Int.reduceLE, Int.reduceAdd, Int.reduceSub, Int.reduceMul, Int.reduceNeg, Int.zero_add, Int.add_zero, nm_eq, bd_some, bv_some, aI_ok, aL_ok, aS_ok, dv_ok, dw_ok, I_add, I_sub, I_mul, I_neg, I_lt, I_le, I_eq, I_nat, J_add, J_sub, J_mul, J_neg, J_lt, J_le, J_eq, I_l, J_i, I_div, J_div, b2_0, b2_1, b2_nar, nar_0, nar_1, zr_0, zr_1, zr_b2, cmp_eq, cmp_le, cmp_lt, cmp_gt, cmp_ge, mx_I, mn_I, mx_L, mn_L, az_I, if_true, if_false, not_true_eq_false, not_false_eq_true, Bool.false_eq_true, i_0, i_1, i_2, i_3, i_4, i_5, i_6, i_7, i_8, i_9, i_10, i_11, i_12, i_16, i_18, i_20, i_24, i_28, i_29, i_30, i_31, i_32, i_33, i_34, i_35, i_37, i_40, i_41, i_42, i_43, i_45, i_46, i_47, i_48, i_57, i_59, i_63, i_64, i_96, i_97, i_98, i_99, i_100, i_101, i_102, i_103, i_104, i_105, i_106, i_107, i_108, i_109, i_110, i_111, i_112, i_113, i_122, i_200, i_255, i_256, i_257, i_258, i_355, i_400, i_999, i_1000, i_1200, i_5680, i_9999, i_10000, i_99999, j_0, j_1, j_2, j_3, j_4, j_5, j_6, j_9, j_10, j_11, j_98, j_99, j_100, j_999, j_1000, j_9999, j_10000, j_99999, j_1000000, hX.2.2.1, r_di hT hX i0.1 i0.2, hyes, and_self, h5, hv]
theorem de_de {i : Int} (h0 : s ≤ i) (h1 : i ≤ de T n s) (hs : s ≤ n) : de T n i = de T n s := by
  obtain ⟨d, rfl⟩ : ∃ d : Nat, i = s + d := ⟨(i - s).toNat, by omega⟩
  clear h0
  induction d with
  | zero => rw [show s + ((0 : Nat) : Int) = s by omega]
  | succ d ih =>
    have hd := de_in (T := T) hs
    have h2 := ih (by omega)
    have := sca_all (p := cDi) (T := T) (n - s).toNat s (s + d) (by omega) (show s + d < de T n s by omega)
    have e : de T n (s + d) = de T n (s + d + 1) := sca_y (by omega) this
    rw [show s + ((d + 1 : Nat) : Int) = s + d + 1 by omega, ← e]
    exact h2
theorem r_number (hT : tB T n) (hN : 500 ≤ N) {dl lo hi : Int} (d0 : 1 ≤ dl) (d5 : dl ≤ 5) (l0 : 0 ≤ lo) (l1 : lo ≤ hi) (l2 : hi ≤ 99999) (h : RR T n s f ν) : ∃ ν', fX11_number N (I_ dl) (I_ lo) (I_ hi) ν = some (I_ (if f = -1 ∧ nOK T n s dl lo hi = true then nv T n s else lo), ν') ∧ RR T n (oS T n (nOK T n s dl lo hi = true) s f) (oF (nOK T n s dl lo hi = true) s f) ν' ∧ Fr P_at ν ν' := by
  obtain ⟨r, hX, hr⟩ := h
  have i0 := hX.2.2.2.2.1
  have h6 := hX.2.2.2.2.2
  have n1 := hT.2.1
  by_cases hf : f = -1
  · subst hf
    have hr := hr rfl
    have hi' := sk_in (T := T) i0.2
    have hh := r_here hT hN hX
    rw [hr] at hh hi'
    have hY := hX.at (i := s) (by omega) (by omega)
    have hd := de_in (T := T) (n := n) (i := s) (by omega)
    have l23 := r_num23 (N := N) (f := -1) (s := s) hT (by omega) (dl := I_ dl) (lo := I_ lo) (hi := I_ hi) (fun _ _ => rfl) (de T n s - s).toNat N s 0 (stI ν 0 16 (I_ s)) (by omega) (by omega) (by omega) hY
    rw [st_st, show s + (((de T n s - s).toNat : Nat) : Int) = de T n s by omega] at l23
    have hZ := hX.at (i := de T n s) (by omega) (by omega)
    have e0 : fX11_number N (I_ dl) (I_ lo) (I_ hi) ν = fX11_number_83 N (I_ dl) (I_ lo) (I_ hi) (I_ s) (I_ (rdg T s (de T n s - s).toNat s 0)) (stI ν 0 16 (I_ (de T n s))) := by
      rw [← l23]
      simp (disch := omega) only [fX11_number, Int.reduceEq, Int.reduceNe, Int.reduceLT, Int.reduceLE, Int.reduceAdd, Int.reduceSub, Int.reduceMul, Int.reduceNeg, Int.zero_add, Int.add_zero, nm_eq, bd_some, bv_some, aI_ok, aL_ok, aS_ok, dv_ok, dw_ok, I_add, I_sub, I_mul, I_neg, I_lt, I_le, I_eq, I_nat, J_add, J_sub, J_mul, J_neg, J_lt, J_le, J_eq, I_l, J_i, I_div, J_div, b2_0, b2_1, b2_nar, nar_0, nar_1, zr_0, zr_1, zr_b2, cmp_eq, cmp_le, cmp_lt, cmp_gt, cmp_ge, mx_I, mn_I, mx_L, mn_L, az_I, if_true, if_false, not_true_eq_false, not_false_eq_true, Bool.false_eq_true, i_0, i_1, i_2, i_3, i_4, i_5, i_6, i_7, i_8, i_9, i_10, i_11, i_12, i_16, i_18, i_20, i_24, i_28, i_29, i_30, i_31, i_32, i_33, i_34, i_35, i_37, i_40, i_41, i_42, i_43, i_45, i_46, i_47, i_48, i_57, i_59, i_63, i_64, i_96, i_97, i_98, i_99, i_100, i_101, i_102, i_103, i_104, i_105, i_106, i_107, i_108, i_109, i_110, i_111, i_112, i_113, i_122, i_200, i_255, i_256, i_257, i_258, i_355, i_400, i_999, i_1000, i_1200, i_5680, i_9999, i_10000, i_99999, j_0, j_1, j_2, j_3, j_4, j_5, j_6, j_9, j_10, j_11, j_98, j_99, j_100, j_999, j_1000, j_9999, j_10000, j_99999, j_1000000, r_wq hX, hh, hY.2.2.1]
    rw [e0]
    have hw := r_wrAt (N := N) hZ s
    rw [if_pos rfl] at hw
    have bad : ¬ nOK T n s dl lo hi = true → fX11_number_83 N (I_ dl) (I_ lo) (I_ hi) (I_ s) (I_ (rdg T s (de T n s - s).toNat s 0)) (stI ν 0 16 (I_ (de T n s))) = some (I_ lo, stI (stI ν 0 16 (I_ (de T n s))) 0 17 (I_ s)) → ∃ ν', fX11_number_83 N (I_ dl) (I_ lo) (I_ hi) (I_ s) (I_ (rdg T s (de T n s - s).toNat s 0)) (stI ν 0 16 (I_ (de T n s))) = some (I_ (if (-1 : Int) = -1 ∧ nOK T n s dl lo hi = true then nv T n s else lo), ν') ∧ RR T n (oS T n (nOK T n s dl lo hi = true) s (-1)) (oF (nOK T n s dl lo hi = true) s (-1)) ν' ∧ Fr P_at ν ν' := fun ho e => by
      rw [oS_n ho, oF_n ho, if_neg (fun q => ho q.2)]
      exact ⟨_, e, ⟨de T n s, hZ.wr (by omega) (by omega), fun q => by omega⟩, P_a17 (P_a16 Fr.rf)⟩
    by_cases q0 : de T n s - s = 0
    · refine bad ?_ ?_
      · rw [nOK_y]
        intro q
        have := kd_257 q.1 hT
        have := te_in (T := T) (n := n) (s := s) (by omega)
        omega
      · simp (disch := omega) only [fX11_number_83, Int.reduceEq, Int.reduceNe, Int.reduceLT, Int.reduceLE, Int.reduceAdd, Int.reduceSub, Int.reduceMul, Int.reduceNeg, Int.zero_add, Int.add_zero, nm_eq, bd_some, bv_some, aI_ok, aL_ok, aS_ok, dv_ok, dw_ok, I_add, I_sub, I_mul, I_neg, I_lt, I_le, I_eq, I_nat, J_add, J_sub, J_mul, J_neg, J_lt, J_le, J_eq, I_l, J_i, I_div, J_div, b2_0, b2_1, b2_nar, nar_0, nar_1, zr_0, zr_1, zr_b2, cmp_eq, cmp_le, cmp_lt, cmp_gt, cmp_ge, mx_I, mn_I, mx_L, mn_L, az_I, if_true, if_false, not_true_eq_false, not_false_eq_true, Bool.false_eq_true, i_0, i_1, i_2, i_3, i_4, i_5, i_6, i_7, i_8, i_9, i_10, i_11, i_12, i_16, i_18, i_20, i_24, i_28, i_29, i_30, i_31, i_32, i_33, i_34, i_35, i_37, i_40, i_41, i_42, i_43, i_45, i_46, i_47, i_48, i_57, i_59, i_63, i_64, i_96, i_97, i_98, i_99, i_100, i_101, i_102, i_103, i_104, i_105, i_106, i_107, i_108, i_109, i_110, i_111, i_112, i_113, i_122, i_200, i_255, i_256, i_257, i_258, i_355, i_400, i_999, i_1000, i_1200, i_5680, i_9999, i_10000, i_99999, j_0, j_1, j_2, j_3, j_4, j_5, j_6, j_9, j_10, j_11, j_98, j_99, j_100, j_999, j_1000, j_9999, j_10000, j_99999, j_1000000, hZ.2.2.1, q0, hw]
    · have hds : s < n ∧ cDi (T s) = true := by
        by_cases hi : s < n
        · refine ⟨hi, ?_⟩
          by_cases hd : cDi (T s) = true
          · exact hd
          · have e : de T n s = s := sca_n hi hd
            omega
        · have e : de T n s = s := sca_0 (by omega)
          omega
      have nl : ¬ cLe (T s) = true := by
        have := hds.2
        rw [cDi_y] at this
        rw [cLe_y]
        omega
      have k7 : kd T n s = 257 := by unfold kd; rw [if_pos hds.1, if_neg nl, if_pos hds.2]
      have t7 : te T n s = de T n s := by unfold te; rw [if_pos hds.1, if_neg nl, if_pos hds.2]
      by_cases qd : dl < de T n s - s
      · refine bad ?_ ?_
        · rw [nOK_y]
          intro q
          omega
        · simp (disch := omega) only [fX11_number_83, Int.reduceEq, Int.reduceNe, Int.reduceLT, Int.reduceLE, Int.reduceAdd, Int.reduceSub, Int.reduceMul, Int.reduceNeg, Int.zero_add, Int.add_zero, nm_eq, bd_some, bv_some, aI_ok, aL_ok, aS_ok, dv_ok, dw_ok, I_add, I_sub, I_mul, I_neg, I_lt, I_le, I_eq, I_nat, J_add, J_sub, J_mul, J_neg, J_lt, J_le, J_eq, I_l, J_i, I_div, J_div, b2_0, b2_1, b2_nar, nar_0, nar_1, zr_0, zr_1, zr_b2, cmp_eq, cmp_le, cmp_lt, cmp_gt, cmp_ge, mx_I, mn_I, mx_L, mn_L, az_I, if_true, if_false, not_true_eq_false, not_false_eq_true, Bool.false_eq_true, i_0, i_1, i_2, i_3, i_4, i_5, i_6, i_7, i_8, i_9, i_10, i_11, i_12, i_16, i_18, i_20, i_24, i_28, i_29, i_30, i_31, i_32, i_33, i_34, i_35, i_37, i_40, i_41, i_42, i_43, i_45, i_46, i_47, i_48, i_57, i_59, i_63, i_64, i_96, i_97, i_98, i_99, i_100, i_101, i_102, i_103, i_104, i_105, i_106, i_107, i_108, i_109, i_110, i_111, i_112, i_113, i_122, i_200, i_255, i_256, i_257, i_258, i_355, i_400, i_999, i_1000, i_1200, i_5680, i_9999, i_10000, i_99999, j_0, j_1, j_2, j_3, j_4, j_5, j_6, j_9, j_10, j_11, j_98, j_99, j_100, j_999, j_1000, j_9999, j_10000, j_99999, j_1000000, hZ.2.2.1, q0, qd, hw]
      · have ev : rdg T s (de T n s - s).toNat s 0 = nv T n s := by
          unfold nv
          rw [rdg_dg _ _ _ (by omega), t7]
        have hv := nv_in hT k7 (by omega)
        rw [ev] at bad ⊢
        by_cases qlo : nv T n s < lo
        · refine bad ?_ ?_
          · rw [nOK_y]
            intro q
            omega
          · simp (disch := omega) only [fX11_number_83, Int.reduceEq, Int.reduceNe, Int.reduceLT, Int.reduceLE, Int.reduceAdd, Int.reduceSub, Int.reduceMul, Int.reduceNeg, Int.zero_add, Int.add_zero, nm_eq, bd_some, bv_some, aI_ok, aL_ok, aS_ok, dv_ok, dw_ok, I_add, I_sub, I_mul, I_neg, I_lt, I_le, I_eq, I_nat, J_add, J_sub, J_mul, J_neg, J_lt, J_le, J_eq, I_l, J_i, I_div, J_div, b2_0, b2_1, b2_nar, nar_0, nar_1, zr_0, zr_1, zr_b2, cmp_eq, cmp_le, cmp_lt, cmp_gt, cmp_ge, mx_I, mn_I, mx_L, mn_L, az_I, if_true, if_false, not_true_eq_false, not_false_eq_true, Bool.false_eq_true, i_0, i_1, i_2, i_3, i_4, i_5, i_6, i_7, i_8, i_9, i_10, i_11, i_12, i_16, i_18, i_20, i_24, i_28, i_29, i_30, i_31, i_32, i_33, i_34, i_35, i_37, i_40, i_41, i_42, i_43, i_45, i_46, i_47, i_48, i_57, i_59, i_63, i_64, i_96, i_97, i_98, i_99, i_100, i_101, i_102, i_103, i_104, i_105, i_106, i_107, i_108, i_109, i_110, i_111, i_112, i_113, i_122, i_200, i_255, i_256, i_257, i_258, i_355, i_400, i_999, i_1000, i_1200, i_5680, i_9999, i_10000, i_99999, j_0, j_1, j_2, j_3, j_4, j_5, j_6, j_9, j_10, j_11, j_98, j_99, j_100, j_999, j_1000, j_9999, j_10000, j_99999, j_1000000, hZ.2.2.1, q0, qd, qlo, hw]
        · by_cases qhi : nv T n s ≤ hi
          · have ho : nOK T n s dl lo hi = true := by rw [nOK_y]; exact ⟨k7, by omega, by omega, qhi⟩
            rw [oS_y ho, oF_y ho, if_pos ⟨rfl, ho⟩]
            refine ⟨_, ?_, ⟨de T n s, hZ, fun _ => ?_⟩, P_a16 Fr.rf⟩
            · simp (disch := omega) only [fX11_number_83, Int.reduceEq, Int.reduceNe, Int.reduceLT, Int.reduceLE, Int.reduceAdd, Int.reduceSub, Int.reduceMul, Int.reduceNeg, Int.zero_add, Int.add_zero, nm_eq, bd_some, bv_some, aI_ok, aL_ok, aS_ok, dv_ok, dw_ok, I_add, I_sub, I_mul, I_neg, I_lt, I_le, I_eq, I_nat, J_add, J_sub, J_mul, J_neg, J_lt, J_le, J_eq, I_l, J_i, I_div, J_div, b2_0, b2_1, b2_nar, nar_0, nar_1, zr_0, zr_1, zr_b2, cmp_eq, cmp_le, cmp_lt, cmp_gt, cmp_ge, mx_I, mn_I, mx_L, mn_L, az_I, if_true, if_false, not_true_eq_false, not_false_eq_true, Bool.false_eq_true, i_0, i_1, i_2, i_3, i_4, i_5, i_6, i_7, i_8, i_9, i_10, i_11, i_12, i_16, i_18, i_20, i_24, i_28, i_29, i_30, i_31, i_32, i_33, i_34, i_35, i_37, i_40, i_41, i_42, i_43, i_45, i_46, i_47, i_48, i_57, i_59, i_63, i_64, i_96, i_97, i_98, i_99, i_100, i_101, i_102, i_103, i_104, i_105, i_106, i_107, i_108, i_109, i_110, i_111, i_112, i_113, i_122, i_200, i_255, i_256, i_257, i_258, i_355, i_400, i_999, i_1000, i_1200, i_5680, i_9999, i_10000, i_99999, j_0, j_1, j_2, j_3, j_4, j_5, j_6, j_9, j_10, j_11, j_98, j_99, j_100, j_999, j_1000, j_9999, j_10000, j_99999, j_1000000, hZ.2.2.1, q0, qd, qlo, qhi]
            · unfold nx
              rw [t7]
          · refine bad ?_ ?_
            · rw [nOK_y]
              intro q
              omega
            · simp (disch := omega) only [fX11_number_83, Int.reduceEq, Int.reduceNe, Int.reduceLT, Int.reduceLE, Int.reduceAdd, Int.reduceSub, Int.reduceMul, Int.reduceNeg, Int.zero_add, Int.add_zero, nm_eq, bd_some, bv_some, aI_ok, aL_ok, aS_ok, dv_ok, dw_ok, I_add, I_sub, I_mul, I_neg, I_lt, I_le, I_eq, I_nat, J_add, J_sub, J_mul, J_neg, J_lt, J_le, J_eq, I_l, J_i, I_div, J_div, b2_0, b2_1, b2_nar, nar_0, nar_1, zr_0, zr_1, zr_b2, cmp_eq, cmp_le, cmp_lt, cmp_gt, cmp_ge, mx_I, mn_I, mx_L, mn_L, az_I, if_true, if_false, not_true_eq_false, not_false_eq_true, Bool.false_eq_true, i_0, i_1, i_2, i_3, i_4, i_5, i_6, i_7, i_8, i_9, i_10, i_11, i_12, i_16, i_18, i_20, i_24, i_28, i_29, i_30, i_31, i_32, i_33, i_34, i_35, i_37, i_40, i_41, i_42, i_43, i_45, i_46, i_47, i_48, i_57, i_59, i_63, i_64, i_96, i_97, i_98, i_99, i_100, i_101, i_102, i_103, i_104, i_105, i_106, i_107, i_108, i_109, i_110, i_111, i_112, i_113, i_122, i_200, i_255, i_256, i_257, i_258, i_355, i_400, i_999, i_1000, i_1200, i_5680, i_9999, i_10000, i_99999, j_0, j_1, j_2, j_3, j_4, j_5, j_6, j_9, j_10, j_11, j_98, j_99, j_100, j_999, j_1000, j_9999, j_10000, j_99999, j_1000000, hZ.2.2.1, q0, qd, qlo, qhi, hw]
  · rw [oS_f hf, oF_f hf, if_neg (fun q => hf q.1)]
    refine ⟨ν, ?_, ⟨r, hX, hr⟩, Fr.rf⟩
    simp (disch := omega) only [fX11_number, Int.reduceEq, Int.reduceNe, Int.reduceLT, Int.reduceLE, Int.reduceAdd, Int.reduceSub, Int.reduceMul, Int.reduceNeg, Int.zero_add, Int.add_zero, nm_eq, bd_some, bv_some, aI_ok, aL_ok, aS_ok, dv_ok, dw_ok, I_add, I_sub, I_mul, I_neg, I_lt, I_le, I_eq, I_nat, J_add, J_sub, J_mul, J_neg, J_lt, J_le, J_eq, I_l, J_i, I_div, J_div, b2_0, b2_1, b2_nar, nar_0, nar_1, zr_0, zr_1, zr_b2, cmp_eq, cmp_le, cmp_lt, cmp_gt, cmp_ge, mx_I, mn_I, mx_L, mn_L, az_I, if_true, if_false, not_true_eq_false, not_false_eq_true, Bool.false_eq_true, i_0, i_1, i_2, i_3, i_4, i_5, i_6, i_7, i_8, i_9, i_10, i_11, i_12, i_16, i_18, i_20, i_24, i_28, i_29, i_30, i_31, i_32, i_33, i_34, i_35, i_37, i_40, i_41, i_42, i_43, i_45, i_46, i_47, i_48, i_57, i_59, i_63, i_64, i_96, i_97, i_98, i_99, i_100, i_101, i_102, i_103, i_104, i_105, i_106, i_107, i_108, i_109, i_110, i_111, i_112, i_113, i_122, i_200, i_255, i_256, i_257, i_258, i_355, i_400, i_999, i_1000, i_1200, i_5680, i_9999, i_10000, i_99999, j_0, j_1, j_2, j_3, j_4, j_5, j_6, j_9, j_10, j_11, j_98, j_99, j_100, j_999, j_1000, j_9999, j_10000, j_99999, j_1000000, r_wq hX, hf]
theorem r_numberIn (hT : tB T n) (hN : 500 ≤ N) {lo hi : Int} (l0 : 0 ≤ lo) (l1 : lo ≤ hi) (l2 : hi ≤ 99999) (h : RR T n s f ν) : ∃ ν', fX11_numberIn N (I_ lo) (I_ hi) ν = some (I_ (if f = -1 ∧ nOK T n s 5 lo hi = true then nv T n s else lo), ν') ∧ RR T n (oS T n (nOK T n s 5 lo hi = true) s f) (oF (nOK T n s 5 lo hi = true) s f) ν' ∧ Fr P_at ν ν' := by
  obtain ⟨ν', e1, e2, e3⟩ := r_number (dl := 5) hT hN (by omega) (by omega) l0 l1 l2 h
  refine ⟨ν', ?_, e2, e3⟩
  unfold fX11_numberIn
  rw [i_5, e1]
  rfl
/-! words -/
theorem r_isWs (hT : tB T n) (hN : 500 ≤ N) (hX : RX T n s f ν) (hs : sk T n s = s) {k : Nat} (hk : k < 35) : fX11_isWord N k ν = some (I_ (b2 (isW T n s k = true)), ν) := by
  have := r_isW hT hN hX hk
  rw [hs, st_id hX.2.2.1] at this
  exact this
theorem r_mkt (hT : tB T n) (hN : 500 ≤ N) (hX : RX T n s f ν) (hs : sk T n s = s) : fX11_market N ν = some (I_ (mkt T n s), ν) := by
  unfold fX11_market mkt
  simp only [bd_some, r_isWs hT hN hX hs (k := 8) (by omega), r_isWs hT hN hX hs (k := 9) (by omega), r_isWs hT hN hX hs (k := 10) (by omega), i_0, b2_0, ite_not]
  by_cases h8 : isW T n s 8 = true
  · rw [if_pos h8, if_pos h8]
  rw [if_neg h8, if_neg h8]
  by_cases h9 : isW T n s 9 = true
  · rw [if_pos h9, if_pos h9]; rfl
  rw [if_neg h9, if_neg h9]
  by_cases h10 : isW T n s 10 = true
  · rw [if_pos h10, if_pos h10]; rfl
  rw [if_neg h10, if_neg h10]
  rfl
theorem r_mkt0 (hT : tB T n) (hN : 500 ≤ N) (hX : RX T n r f ν) : fX11_market N ν = some (I_ (mkt T n (sk T n r)), stI ν 0 16 (I_ (sk T n r))) := by
  have i0 := hX.2.2.2.2.1
  have hi := sk_in (T := T) i0.2
  have hid := sk_id (T := T) i0.2
  have hY := hX.at (i := sk T n r) (by omega) (by omega)
  unfold fX11_market mkt
  simp only [bd_some, r_isW hT hN hX (k := 8) (by omega), r_isWs hT hN hY hid (k := 9) (by omega), r_isWs hT hN hY hid (k := 10) (by omega), i_0, b2_0, ite_not]
  by_cases h8 : isW T n (sk T n r) 8 = true
  · rw [if_pos h8, if_pos h8]
  rw [if_neg h8, if_neg h8]
  by_cases h9 : isW T n (sk T n r) 9 = true
  · rw [if_pos h9, if_pos h9]; rfl
  rw [if_neg h9, if_neg h9]
  by_cases h10 : isW T n (sk T n r) 10 = true
  · rw [if_pos h10, if_pos h10]; rfl
  rw [if_neg h10, if_neg h10]
  rfl
theorem r_keyw (hT : tB T n) (hN : 500 ≤ N) (hX : RX T n s f ν) (hs : sk T n s = s) : fX11_isKeyword N ν = some (I_ (b2 (¬ kwd T n s = -1)), ν) := by
  have hm := kwd_mkt T n s
  have hm2 := mkt_in T n s
  have w : ∀ {k : Nat}, k < 35 → fX11_isWord N k ν = some (I_ (b2 (isW T n s k = true)), ν) := fun h => r_isWs hT hN hX hs h
  unfold fX11_isKeyword
  simp only [bd_some, w (k := 0) (by omega), w (k := 1) (by omega), w (k := 2) (by omega), w (k := 3) (by omega), w (k := 4) (by omega), w (k := 5) (by omega), w (k := 6) (by omega), w (k := 7) (by omega), r_mkt hT hN hX hs, i_0, b2_0, ite_not]
  have y : ∀ {k : Nat}, k < 11 → isW T n s k = true → (some (I_ 1, ν) : Option (Int32 × Mem)) = some (I_ (b2 (¬ kwd T n s = -1)), ν) := fun hk h => by rw [b2_t (w_kwd hk h)]
  by_cases h0 : isW T n s 0 = true
  · rw [if_pos h0]; exact y (by omega) h0
  rw [if_neg h0]
  by_cases h1 : isW T n s 1 = true
  · rw [if_pos h1]; exact y (by omega) h1
  rw [if_neg h1]
  by_cases h2 : isW T n s 2 = true
  · rw [if_pos h2]; exact y (by omega) h2
  rw [if_neg h2]
  by_cases h3 : isW T n s 3 = true
  · rw [if_pos h3]; exact y (by omega) h3
  rw [if_neg h3]
  by_cases h4 : isW T n s 4 = true
  · rw [if_pos h4]; exact y (by omega) h4
  rw [if_neg h4]
  by_cases h5 : isW T n s 5 = true
  · rw [if_pos h5]; exact y (by omega) h5
  rw [if_neg h5]
  by_cases h6 : isW T n s 6 = true
  · rw [if_pos h6]; exact y (by omega) h6
  rw [if_neg h6]
  by_cases h7 : isW T n s 7 = true
  · rw [if_pos h7]; exact y (by omega) h7
  rw [if_neg h7]
  by_cases hq : mkt T n s = -1
  · have hk : kwd T n s = -1 := by
      by_cases q : kwd T n s = -1
      · exact q
      · exfalso
        unfold kwd at q
        rw [if_neg h0, if_neg h1, if_neg h2, if_neg h3, if_neg h4, if_neg h5, if_neg h6, if_neg h7] at q
        unfold mkt at hq
        by_cases h8 : isW T n s 8 = true
        · rw [if_pos h8] at hq; omega
        rw [if_neg h8] at hq q
        by_cases h9 : isW T n s 9 = true
        · rw [if_pos h9] at hq; omega
        rw [if_neg h9] at hq q
        by_cases h10 : isW T n s 10 = true
        · rw [if_pos h10] at hq; omega
        rw [if_neg h10] at q
        exact q rfl
    rw [b2_f (fun q => q hk)]
    simp (disch := omega) only [Int.reduceEq, Int.reduceNe, Int.reduceLT, Int.reduceLE, Int.reduceAdd, Int.reduceSub, Int.reduceMul, Int.reduceNeg, Int.zero_add, Int.add_zero, nm_eq, bd_some, bv_some, aI_ok, aL_ok, aS_ok, dv_ok, dw_ok, I_add, I_sub, I_mul, I_neg, I_lt, I_le, I_eq, I_nat, J_add, J_sub, J_mul, J_neg, J_lt, J_le, J_eq, I_l, J_i, I_div, J_div, b2_0, b2_1, b2_nar, nar_0, nar_1, zr_0, zr_1, zr_b2, cmp_eq, cmp_le, cmp_lt, cmp_gt, cmp_ge, mx_I, mn_I, mx_L, mn_L, az_I, if_true, if_false, not_true_eq_false, not_false_eq_true, Bool.false_eq_true, i_0, i_1, i_2, i_3, i_4, i_5, i_6, i_7, i_8, i_9, i_10, i_11, i_12, i_16, i_18, i_20, i_24, i_28, i_29, i_30, i_31, i_32, i_33, i_34, i_35, i_37, i_40, i_41, i_42, i_43, i_45, i_46, i_47, i_48, i_57, i_59, i_63, i_64, i_96, i_97, i_98, i_99, i_100, i_101, i_102, i_103, i_104, i_105, i_106, i_107, i_108, i_109, i_110, i_111, i_112, i_113, i_122, i_200, i_255, i_256, i_257, i_258, i_355, i_400, i_999, i_1000, i_1200, i_5680, i_9999, i_10000, i_99999, j_0, j_1, j_2, j_3, j_4, j_5, j_6, j_9, j_10, j_11, j_98, j_99, j_100, j_999, j_1000, j_9999, j_10000, j_99999, j_1000000, hq]
  · have hk : ¬ kwd T n s = -1 := by omega
    rw [b2_t hk]
    simp (disch := omega) only [Int.reduceEq, Int.reduceNe, Int.reduceLT, Int.reduceLE, Int.reduceAdd, Int.reduceSub, Int.reduceMul, Int.reduceNeg, Int.zero_add, Int.add_zero, nm_eq, bd_some, bv_some, aI_ok, aL_ok, aS_ok, dv_ok, dw_ok, I_add, I_sub, I_mul, I_neg, I_lt, I_le, I_eq, I_nat, J_add, J_sub, J_mul, J_neg, J_lt, J_le, J_eq, I_l, J_i, I_div, J_div, b2_0, b2_1, b2_nar, nar_0, nar_1, zr_0, zr_1, zr_b2, cmp_eq, cmp_le, cmp_lt, cmp_gt, cmp_ge, mx_I, mn_I, mx_L, mn_L, az_I, if_true, if_false, not_true_eq_false, not_false_eq_true, Bool.false_eq_true, i_0, i_1, i_2, i_3, i_4, i_5, i_6, i_7, i_8, i_9, i_10, i_11, i_12, i_16, i_18, i_20, i_24, i_28, i_29, i_30, i_31, i_32, i_33, i_34, i_35, i_37, i_40, i_41, i_42, i_43, i_45, i_46, i_47, i_48, i_57, i_59, i_63, i_64, i_96, i_97, i_98, i_99, i_100, i_101, i_102, i_103, i_104, i_105, i_106, i_107, i_108, i_109, i_110, i_111, i_112, i_113, i_122, i_200, i_255, i_256, i_257, i_258, i_355, i_400, i_999, i_1000, i_1200, i_5680, i_9999, i_10000, i_99999, j_0, j_1, j_2, j_3, j_4, j_5, j_6, j_9, j_10, j_11, j_98, j_99, j_100, j_999, j_1000, j_9999, j_10000, j_99999, j_1000000, hq]
theorem r_marketHere (hT : tB T n) (hN : 500 ≤ N) (h : RR T n s f ν) : ∃ ν', fX11_marketHere N ν = some (I_ (if f = -1 ∧ 0 ≤ mkt T n s then mkt T n s else 0), ν') ∧ RR T n (oS T n (0 ≤ mkt T n s) s f) (oF (0 ≤ mkt T n s) s f) ν' ∧ Fr P_at ν ν' := by
  obtain ⟨r, hX, hr⟩ := h
  have i0 := hX.2.2.2.2.1
  have h6 := hX.2.2.2.2.2
  have n1 := hT.2.1
  have hi := sk_in (T := T) i0.2
  have hid := sk_id (T := T) i0.2
  have hY := hX.at (i := sk T n r) (by omega) (by omega)
  have hm := r_mkt0 hT hN hX
  have m2 := mkt_in T n (sk T n r)
  have hw := r_wr (N := N) hY
  by_cases hf : f = -1
  · subst hf
    rw [hr rfl] at hm hi hid hY hw m2
    rw [if_pos rfl] at hw
    by_cases ho : 0 ≤ mkt T n s
    · rw [oS_y ho, oF_y ho, if_pos ⟨rfl, ho⟩]
      have hl := r_wl hT hN hY
      rw [hid, st_id hY.2.2.1] at hl
      have hwe := we_in (T := T) (n := n) (i := s) (by omega)
      have e : s + (we T n s - s) = we T n s := by omega
      have hk : kd T n s = 256 := by
        have hq := kwd_mkt T n s
        obtain ⟨k, k1, k2⟩ := kwd_w (T := T) (n := n) (s := s) (by omega)
        by_cases q : s < n ∧ cLe (T s) = true
        · exact kd_y q.1 q.2
        · exact absurd k2 (isW_nl (by omega) q)
      have q : ¬ mkt T n s = -1 := by omega
      refine ⟨stI (stI ν 0 16 (I_ s)) 0 16 (I_ (we T n s)), ?_, ⟨we T n s, hY.at (by omega) (by omega), fun _ => ?_⟩, P_a16 (P_a16 Fr.rf)⟩
      · simp (disch := omega) only [fX11_marketHere, Int.reduceEq, Int.reduceNe, Int.reduceLT, Int.reduceLE, Int.reduceAdd, Int.reduceSub, Int.reduceMul, Int.reduceNeg, Int.zero_add, Int.add_zero, nm_eq, bd_some, bv_some, aI_ok, aL_ok, aS_ok, dv_ok, dw_ok, I_add, I_sub, I_mul, I_neg, I_lt, I_le, I_eq, I_nat, J_add, J_sub, J_mul, J_neg, J_lt, J_le, J_eq, I_l, J_i, I_div, J_div, b2_0, b2_1, b2_nar, nar_0, nar_1, zr_0, zr_1, zr_b2, cmp_eq, cmp_le, cmp_lt, cmp_gt, cmp_ge, mx_I, mn_I, mx_L, mn_L, az_I, if_true, if_false, not_true_eq_false, not_false_eq_true, Bool.false_eq_true, i_0, i_1, i_2, i_3, i_4, i_5, i_6, i_7, i_8, i_9, i_10, i_11, i_12, i_16, i_18, i_20, i_24, i_28, i_29, i_30, i_31, i_32, i_33, i_34, i_35, i_37, i_40, i_41, i_42, i_43, i_45, i_46, i_47, i_48, i_57, i_59, i_63, i_64, i_96, i_97, i_98, i_99, i_100, i_101, i_102, i_103, i_104, i_105, i_106, i_107, i_108, i_109, i_110, i_111, i_112, i_113, i_122, i_200, i_255, i_256, i_257, i_258, i_355, i_400, i_999, i_1000, i_1200, i_5680, i_9999, i_10000, i_99999, j_0, j_1, j_2, j_3, j_4, j_5, j_6, j_9, j_10, j_11, j_98, j_99, j_100, j_999, j_1000, j_9999, j_10000, j_99999, j_1000000, hm, q, r_wq hY, hY.2.2.1, hl, e]
      · unfold nx
        rw [(kd_256 hk hT).2.2]
    · rw [oS_n ho, oF_n ho, if_neg (fun q => ho q.2)]
      have q : mkt T n s = -1 := by omega
      refine ⟨stI (stI ν 0 16 (I_ s)) 0 17 (I_ s), ?_, ⟨s, hY.wr (by omega) (by omega), fun q => by omega⟩, P_a17 (P_a16 Fr.rf)⟩
      simp (disch := omega) only [fX11_marketHere, Int.reduceEq, Int.reduceNe, Int.reduceLT, Int.reduceLE, Int.reduceAdd, Int.reduceSub, Int.reduceMul, Int.reduceNeg, Int.zero_add, Int.add_zero, nm_eq, bd_some, bv_some, aI_ok, aL_ok, aS_ok, dv_ok, dw_ok, I_add, I_sub, I_mul, I_neg, I_lt, I_le, I_eq, I_nat, J_add, J_sub, J_mul, J_neg, J_lt, J_le, J_eq, I_l, J_i, I_div, J_div, b2_0, b2_1, b2_nar, nar_0, nar_1, zr_0, zr_1, zr_b2, cmp_eq, cmp_le, cmp_lt, cmp_gt, cmp_ge, mx_I, mn_I, mx_L, mn_L, az_I, if_true, if_false, not_true_eq_false, not_false_eq_true, Bool.false_eq_true, i_0, i_1, i_2, i_3, i_4, i_5, i_6, i_7, i_8, i_9, i_10, i_11, i_12, i_16, i_18, i_20, i_24, i_28, i_29, i_30, i_31, i_32, i_33, i_34, i_35, i_37, i_40, i_41, i_42, i_43, i_45, i_46, i_47, i_48, i_57, i_59, i_63, i_64, i_96, i_97, i_98, i_99, i_100, i_101, i_102, i_103, i_104, i_105, i_106, i_107, i_108, i_109, i_110, i_111, i_112, i_113, i_122, i_200, i_255, i_256, i_257, i_258, i_355, i_400, i_999, i_1000, i_1200, i_5680, i_9999, i_10000, i_99999, j_0, j_1, j_2, j_3, j_4, j_5, j_6, j_9, j_10, j_11, j_98, j_99, j_100, j_999, j_1000, j_9999, j_10000, j_99999, j_1000000, hm, q, hw]
  · rw [oS_f hf, oF_f hf, if_neg (fun q => hf q.1)]
    rw [if_neg hf] at hw
    refine ⟨stI (stI ν 0 16 (I_ (sk T n r))) 0 17 (I_ f), ?_, ⟨sk T n r, hY.wr (by omega) (by omega), fun q => absurd q hf⟩, P_a17 (P_a16 Fr.rf)⟩
    by_cases q : mkt T n (sk T n r) = -1
    · simp (disch := omega) only [fX11_marketHere, Int.reduceEq, Int.reduceNe, Int.reduceLT, Int.reduceLE, Int.reduceAdd, Int.reduceSub, Int.reduceMul, Int.reduceNeg, Int.zero_add, Int.add_zero, nm_eq, bd_some, bv_some, aI_ok, aL_ok, aS_ok, dv_ok, dw_ok, I_add, I_sub, I_mul, I_neg, I_lt, I_le, I_eq, I_nat, J_add, J_sub, J_mul, J_neg, J_lt, J_le, J_eq, I_l, J_i, I_div, J_div, b2_0, b2_1, b2_nar, nar_0, nar_1, zr_0, zr_1, zr_b2, cmp_eq, cmp_le, cmp_lt, cmp_gt, cmp_ge, mx_I, mn_I, mx_L, mn_L, az_I, if_true, if_false, not_true_eq_false, not_false_eq_true, Bool.false_eq_true, i_0, i_1, i_2, i_3, i_4, i_5, i_6, i_7, i_8, i_9, i_10, i_11, i_12, i_16, i_18, i_20, i_24, i_28, i_29, i_30, i_31, i_32, i_33, i_34, i_35, i_37, i_40, i_41, i_42, i_43, i_45, i_46, i_47, i_48, i_57, i_59, i_63, i_64, i_96, i_97, i_98, i_99, i_100, i_101, i_102, i_103, i_104, i_105, i_106, i_107, i_108, i_109, i_110, i_111, i_112, i_113, i_122, i_200, i_255, i_256, i_257, i_258, i_355, i_400, i_999, i_1000, i_1200, i_5680, i_9999, i_10000, i_99999, j_0, j_1, j_2, j_3, j_4, j_5, j_6, j_9, j_10, j_11, j_98, j_99, j_100, j_999, j_1000, j_9999, j_10000, j_99999, j_1000000, hm, q, hw]
    · simp (disch := omega) only [fX11_marketHere, Int.reduceEq, Int.reduceNe, Int.reduceLT, Int.reduceLE, Int.reduceAdd, Int.reduceSub, Int.reduceMul, Int.reduceNeg, Int.zero_add, Int.add_zero, nm_eq, bd_some, bv_some, aI_ok, aL_ok, aS_ok, dv_ok, dw_ok, I_add, I_sub, I_mul, I_neg, I_lt, I_le, I_eq, I_nat, J_add, J_sub, J_mul, J_neg, J_lt, J_le, J_eq, I_l, J_i, I_div, J_div, b2_0, b2_1, b2_nar, nar_0, nar_1, zr_0, zr_1, zr_b2, cmp_eq, cmp_le, cmp_lt, cmp_gt, cmp_ge, mx_I, mn_I, mx_L, mn_L, az_I, if_true, if_false, not_true_eq_false, not_false_eq_true, Bool.false_eq_true, i_0, i_1, i_2, i_3, i_4, i_5, i_6, i_7, i_8, i_9, i_10, i_11, i_12, i_16, i_18, i_20, i_24, i_28, i_29, i_30, i_31, i_32, i_33, i_34, i_35, i_37, i_40, i_41, i_42, i_43, i_45, i_46, i_47, i_48, i_57, i_59, i_63, i_64, i_96, i_97, i_98, i_99, i_100, i_101, i_102, i_103, i_104, i_105, i_106, i_107, i_108, i_109, i_110, i_111, i_112, i_113, i_122, i_200, i_255, i_256, i_257, i_258, i_355, i_400, i_999, i_1000, i_1200, i_5680, i_9999, i_10000, i_99999, j_0, j_1, j_2, j_3, j_4, j_5, j_6, j_9, j_10, j_11, j_98, j_99, j_100, j_999, j_1000, j_9999, j_10000, j_99999, j_1000000, hm, q, r_wq hY, hf, hw]
end
