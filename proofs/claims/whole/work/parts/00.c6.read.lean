/-! feed, end, read, fault. -/
section
variable {N b : Nat} {μ μ' ν ν' : Mem} {V : Vw} {Lm Lf : Int → Int} {Am Af : Int → Int → Int} {K : Int → List Int} {fo : Int → Int} {q nx : Int} {G : Nat → Vw} {a : Nat}
theorem LF.fr (h : LF V ν) (g : ∀ k j, (k = 0 ∧ j = 30) ∨ (18 ≤ k ∧ k ≤ 22) → ν'.1 k j = ν.1 k j) : LF V ν' := by
  rcases h with h | ⟨h1, h2, h3⟩
  · exact Or.inl (by rw [g _ _ (by omega)]; exact h)
  · refine Or.inr ⟨by rw [g _ _ (by omega)]; exact h1, fun f a c => by rw [g _ _ (by omega)]; exact h2 f a c, fun z a c => ?_⟩
    rw [g _ _ (by omega), g _ _ (by omega), g _ _ (by omega), g _ _ (by omega)]
    exact h3 z a c
/-- only the tape, the reader and the book that is not in use change -/
theorem Rl_t {b' : Nat} (hbb : kB b' ∧ b' ≠ b) (hA : FA b (G 0) Lm Am Lf Af K fo q μ ν) (hB : FB K G a nx μ ν) (hC : FC b μ) (hR : FR μ ν) (gc : Fr (fun k _ => k = 1 ∨ k = 7 ∨ (b' ≤ k ∧ k ≤ b' + 28)) μ μ') (gr : Fr (fun k j => (k = 0 ∧ (j = 0 ∨ (14 ≤ j ∧ j ≤ 29))) ∨ k = 2 ∨ (10 ≤ k ∧ k ≤ 17)) ν ν') (hT : FT μ' ν') : Rl μ' ν' := by
  obtain ⟨h1, h2, h3, h4, h5, h6, h7, h8, h9⟩ := hA
  have hd : (b = 32 ∧ b' = 61) ∨ (b = 61 ∧ b' = 32) := by
    obtain ⟨x, y⟩ := hbb
    rcases h4 with e | e <;> rcases x with e' | e' <;> omega
  refine ⟨b, Lm, Am, Lf, Af, K, fo, q, G, a, nx, ⟨h1, h2, h3, h4, h5.fr (fun k j c d => (gc k j (by omega)).1), fun y y0 y1 => ?_, ?_, h8.fr h1.1 (fun k j hk => (gr k j (by omega)).1), h9.fr (fun k j hk => (gr k j (by omega)).1)⟩, ⟨hB.1.fr (fun k j hk => (gc k j (by omega)).1), hB.2.1.fr (fun k j hk => (gr k j (by omega)).1), hB.2.2⟩, hC.fr (gc 0 7 (by omega)).2.2, hT, hR.fr (fun k j hk => (gc k j (by omega)).1) (fun k j hk => (gr k j (by omega)).1)⟩
  · rw [(gc _ _ (by omega)).1, (gc _ _ (by omega)).1]; exact h6 y y0 y1
  · rw [(gc 0 6 (by omega)).2.2]; exact h7
theorem A3 (hN : 20000 ≤ N) (v : Nat → Int32) (h : Rl μ ν) : ∃ z, lawC3 N v μ ν = some z ∧ Rl z.1 z.2 := by
  obtain ⟨b, Lm, Am, Lf, Af, K, fo, q, G, a, nx, hA, hB, hC, hT, hR⟩ := h
  obtain ⟨T, n, ft, t1, t2, t3, t4, t5, t6, t7, t8⟩ := hT
  refine ⟨(μ, stI ν 0 0 (I_ 0)), ?_, hA.refuse (N := N) (z := (μ, μ)) (by omega) hB hC ⟨T, n, ft, t1, t2, t3, t4, t5, t6, t7, t8⟩ hR (I_ 0)⟩
  simp (disch := omega) only [lawC3, fX10_fault, fX11_fault, Int.reduceEq, Int.reduceNe, Int.reduceLT, Int.reduceLE, Int.reduceAdd, Int.reduceSub, Int.reduceMul, Int.reduceNeg, Int.zero_add, Int.add_zero, nm_eq, bd_some, bv_some, aI_ok, aL_ok, aS_ok, dv_ok, dw_ok, I_add, I_sub, I_mul, I_neg, I_lt, I_le, I_eq, I_nat, J_add, J_sub, J_mul, J_neg, J_lt, J_le, J_eq, I_l, J_i, I_div, J_div, b2_0, b2_1, b2_nar, nar_0, nar_1, zr_0, zr_1, zr_b2, cmp_eq, cmp_le, cmp_lt, cmp_gt, cmp_ge, mx_I, mn_I, mx_L, mn_L, az_I, if_true, if_false, not_true_eq_false, not_false_eq_true, Bool.false_eq_true, i_0, i_1, i_2, i_3, i_4, i_5, i_6, i_7, i_8, i_9, i_10, i_11, i_12, i_16, i_18, i_20, i_24, i_28, i_29, i_30, i_31, i_32, i_33, i_34, i_35, i_37, i_40, i_41, i_42, i_43, i_45, i_46, i_47, i_48, i_57, i_59, i_63, i_64, i_96, i_97, i_98, i_99, i_100, i_101, i_102, i_103, i_104, i_105, i_106, i_107, i_108, i_109, i_110, i_111, i_112, i_113, i_122, i_200, i_255, i_256, i_257, i_258, i_355, i_400, i_999, i_1000, i_1200, i_5680, i_9999, i_10000, i_99999, j_0, j_1, j_2, j_3, j_4, j_5, j_6, j_9, j_10, j_11, j_98, j_99, j_100, j_999, j_1000, j_9999, j_10000, j_99999, j_1000000, t6, st_I, st_I2, st_L1, st_L2, st_R1, st_R2, Nat.reduceEqDiff, Nat.reduceAdd, and_true, true_and, and_false, false_and, and_self, if_false, if_true, t7]
theorem A1 (hN : 20000 ≤ N) (v : Nat → Int32) (h : Rl μ ν) : ∃ z, lawC1 N v μ ν = some z ∧ Rl z.1 z.2 := by
  obtain ⟨b, Lm, Am, Lf, Af, K, fo, q, G, a, nx, hA, hB, hC, hT, hR⟩ := h
  have hT' := hT
  obtain ⟨T, n, ft, t1, t2, t3, t4, t5, t6, t7, t8⟩ := hT'
  have n01 := t1.1
  have n02 := t1.2.1
  obtain ⟨p, e, p0, p1⟩ := I_ex (v 1)
  have no : fX10_end N (I_ p) μ = some (I_ 0, μ) → fX11_end N (I_ p) ν = some (I_ 0, stI ν 0 0 (I_ 0)) → ∃ z, lawC1 N v μ ν = some z ∧ Rl z.1 z.2 := fun hc hr => by
    refine ⟨(μ, stI ν 0 0 (I_ 0)), ?_, hA.refuse (N := N) (z := (μ, μ)) (by omega) hB hC hT hR (I_ 0)⟩
    simp (disch := omega) only [lawC1, Int.reduceEq, Int.reduceNe, Int.reduceLT, Int.reduceLE, Int.reduceAdd, Int.reduceSub, Int.reduceMul, Int.reduceNeg, Int.zero_add, Int.add_zero, nm_eq, bd_some, bv_some, aI_ok, aL_ok, aS_ok, dv_ok, dw_ok, I_add, I_sub, I_mul, I_neg, I_lt, I_le, I_eq, I_nat, J_add, J_sub, J_mul, J_neg, J_lt, J_le, J_eq, I_l, J_i, I_div, J_div, b2_0, b2_1, b2_nar, nar_0, nar_1, zr_0, zr_1, zr_b2, cmp_eq, cmp_le, cmp_lt, cmp_gt, cmp_ge, mx_I, mn_I, mx_L, mn_L, az_I, if_true, if_false, not_true_eq_false, not_false_eq_true, Bool.false_eq_true, i_0, i_1, i_2, i_3, i_4, i_5, i_6, i_7, i_8, i_9, i_10, i_11, i_12, i_16, i_18, i_20, i_24, i_28, i_29, i_30, i_31, i_32, i_33, i_34, i_35, i_37, i_40, i_41, i_42, i_43, i_45, i_46, i_47, i_48, i_57, i_59, i_63, i_64, i_96, i_97, i_98, i_99, i_100, i_101, i_102, i_103, i_104, i_105, i_106, i_107, i_108, i_109, i_110, i_111, i_112, i_113, i_122, i_200, i_255, i_256, i_257, i_258, i_355, i_400, i_999, i_1000, i_1200, i_5680, i_9999, i_10000, i_99999, j_0, j_1, j_2, j_3, j_4, j_5, j_6, j_9, j_10, j_11, j_98, j_99, j_100, j_999, j_1000, j_9999, j_10000, j_99999, j_1000000, e, hc, hr]
  by_cases pn : p < 0
  · refine no ?_ ?_
    · simp (disch := omega) only [fX10_end, Int.reduceEq, Int.reduceNe, Int.reduceLT, Int.reduceLE, Int.reduceAdd, Int.reduceSub, Int.reduceMul, Int.reduceNeg, Int.zero_add, Int.add_zero, nm_eq, bd_some, bv_some, aI_ok, aL_ok, aS_ok, dv_ok, dw_ok, I_add, I_sub, I_mul, I_neg, I_lt, I_le, I_eq, I_nat, J_add, J_sub, J_mul, J_neg, J_lt, J_le, J_eq, I_l, J_i, I_div, J_div, b2_0, b2_1, b2_nar, nar_0, nar_1, zr_0, zr_1, zr_b2, cmp_eq, cmp_le, cmp_lt, cmp_gt, cmp_ge, mx_I, mn_I, mx_L, mn_L, az_I, if_true, if_false, not_true_eq_false, not_false_eq_true, Bool.false_eq_true, i_0, i_1, i_2, i_3, i_4, i_5, i_6, i_7, i_8, i_9, i_10, i_11, i_12, i_16, i_18, i_20, i_24, i_28, i_29, i_30, i_31, i_32, i_33, i_34, i_35, i_37, i_40, i_41, i_42, i_43, i_45, i_46, i_47, i_48, i_57, i_59, i_63, i_64, i_96, i_97, i_98, i_99, i_100, i_101, i_102, i_103, i_104, i_105, i_106, i_107, i_108, i_109, i_110, i_111, i_112, i_113, i_122, i_200, i_255, i_256, i_257, i_258, i_355, i_400, i_999, i_1000, i_1200, i_5680, i_9999, i_10000, i_99999, j_0, j_1, j_2, j_3, j_4, j_5, j_6, j_9, j_10, j_11, j_98, j_99, j_100, j_999, j_1000, j_9999, j_10000, j_99999, j_1000000, pn]
    · simp (disch := omega) only [fX11_end, Int.reduceEq, Int.reduceNe, Int.reduceLT, Int.reduceLE, Int.reduceAdd, Int.reduceSub, Int.reduceMul, Int.reduceNeg, Int.zero_add, Int.add_zero, nm_eq, bd_some, bv_some, aI_ok, aL_ok, aS_ok, dv_ok, dw_ok, I_add, I_sub, I_mul, I_neg, I_lt, I_le, I_eq, I_nat, J_add, J_sub, J_mul, J_neg, J_lt, J_le, J_eq, I_l, J_i, I_div, J_div, b2_0, b2_1, b2_nar, nar_0, nar_1, zr_0, zr_1, zr_b2, cmp_eq, cmp_le, cmp_lt, cmp_gt, cmp_ge, mx_I, mn_I, mx_L, mn_L, az_I, if_true, if_false, not_true_eq_false, not_false_eq_true, Bool.false_eq_true, i_0, i_1, i_2, i_3, i_4, i_5, i_6, i_7, i_8, i_9, i_10, i_11, i_12, i_16, i_18, i_20, i_24, i_28, i_29, i_30, i_31, i_32, i_33, i_34, i_35, i_37, i_40, i_41, i_42, i_43, i_45, i_46, i_47, i_48, i_57, i_59, i_63, i_64, i_96, i_97, i_98, i_99, i_100, i_101, i_102, i_103, i_104, i_105, i_106, i_107, i_108, i_109, i_110, i_111, i_112, i_113, i_122, i_200, i_255, i_256, i_257, i_258, i_355, i_400, i_999, i_1000, i_1200, i_5680, i_9999, i_10000, i_99999, j_0, j_1, j_2, j_3, j_4, j_5, j_6, j_9, j_10, j_11, j_98, j_99, j_100, j_999, j_1000, j_9999, j_10000, j_99999, j_1000000, pn]
  · by_cases pl : p ≤ n
    · obtain ⟨b', hb1, hb2, hb3⟩ := hC
      have hC : FC b μ := ⟨b', hb1, hb2, hb3⟩
      refine ⟨(stI μ 1 1 (I_ p), stI (stI ν 0 0 (I_ 0)) 0 14 (I_ p)), ?_, Rl_t ⟨hb1, hb2⟩ hA hB hC hR (Fr.rf.stI (Or.inl rfl)) ((Fr.rf.stI (Or.inl ⟨rfl, by omega⟩)).stI (Or.inl ⟨rfl, by omega⟩)) ⟨T, p, ft, ⟨by omega, by omega, t1.2.2⟩, at_S, at_S, fun j j0 j1 => ?_, fun j j0 j1 => ?_, ?_, ?_, t8⟩⟩
      · have hc : fX10_end N (I_ p) μ = some (I_ 1, stI μ 1 1 (I_ p)) := by
          simp (disch := omega) only [fX10_end, Int.reduceEq, Int.reduceNe, Int.reduceLT, Int.reduceLE, Int.reduceAdd, Int.reduceSub, Int.reduceMul, Int.reduceNeg, Int.zero_add, Int.add_zero, nm_eq, bd_some, bv_some, aI_ok, aL_ok, aS_ok, dv_ok, dw_ok, I_add, I_sub, I_mul, I_neg, I_lt, I_le, I_eq, I_nat, J_add, J_sub, J_mul, J_neg, J_lt, J_le, J_eq, I_l, J_i, I_div, J_div, b2_0, b2_1, b2_nar, nar_0, nar_1, zr_0, zr_1, zr_b2, cmp_eq, cmp_le, cmp_lt, cmp_gt, cmp_ge, mx_I, mn_I, mx_L, mn_L, az_I, if_true, if_false, not_true_eq_false, not_false_eq_true, Bool.false_eq_true, i_0, i_1, i_2, i_3, i_4, i_5, i_6, i_7, i_8, i_9, i_10, i_11, i_12, i_16, i_18, i_20, i_24, i_28, i_29, i_30, i_31, i_32, i_33, i_34, i_35, i_37, i_40, i_41, i_42, i_43, i_45, i_46, i_47, i_48, i_57, i_59, i_63, i_64, i_96, i_97, i_98, i_99, i_100, i_101, i_102, i_103, i_104, i_105, i_106, i_107, i_108, i_109, i_110, i_111, i_112, i_113, i_122, i_200, i_255, i_256, i_257, i_258, i_355, i_400, i_999, i_1000, i_1200, i_5680, i_9999, i_10000, i_99999, j_0, j_1, j_2, j_3, j_4, j_5, j_6, j_9, j_10, j_11, j_98, j_99, j_100, j_999, j_1000, j_9999, j_10000, j_99999, j_1000000, pn, t2, pl]
        have hr : fX11_end N (I_ p) ν = some (I_ 1, stI (stI ν 0 0 (I_ 0)) 0 14 (I_ p)) := by
          simp (disch := omega) only [fX11_end, Int.reduceEq, Int.reduceNe, Int.reduceLT, Int.reduceLE, Int.reduceAdd, Int.reduceSub, Int.reduceMul, Int.reduceNeg, Int.zero_add, Int.add_zero, nm_eq, bd_some, bv_some, aI_ok, aL_ok, aS_ok, dv_ok, dw_ok, I_add, I_sub, I_mul, I_neg, I_lt, I_le, I_eq, I_nat, J_add, J_sub, J_mul, J_neg, J_lt, J_le, J_eq, I_l, J_i, I_div, J_div, b2_0, b2_1, b2_nar, nar_0, nar_1, zr_0, zr_1, zr_b2, cmp_eq, cmp_le, cmp_lt, cmp_gt, cmp_ge, mx_I, mn_I, mx_L, mn_L, az_I, if_true, if_false, not_true_eq_false, not_false_eq_true, Bool.false_eq_true, i_0, i_1, i_2, i_3, i_4, i_5, i_6, i_7, i_8, i_9, i_10, i_11, i_12, i_16, i_18, i_20, i_24, i_28, i_29, i_30, i_31, i_32, i_33, i_34, i_35, i_37, i_40, i_41, i_42, i_43, i_45, i_46, i_47, i_48, i_57, i_59, i_63, i_64, i_96, i_97, i_98, i_99, i_100, i_101, i_102, i_103, i_104, i_105, i_106, i_107, i_108, i_109, i_110, i_111, i_112, i_113, i_122, i_200, i_255, i_256, i_257, i_258, i_355, i_400, i_999, i_1000, i_1200, i_5680, i_9999, i_10000, i_99999, j_0, j_1, j_2, j_3, j_4, j_5, j_6, j_9, j_10, j_11, j_98, j_99, j_100, j_999, j_1000, j_9999, j_10000, j_99999, j_1000000, pn, st_I, st_I2, st_L1, st_L2, st_R1, st_R2, Nat.reduceEqDiff, Nat.reduceAdd, and_true, true_and, and_false, false_and, and_self, if_false, if_true, t3, pl]
        simp (disch := omega) only [lawC1, Int.reduceEq, Int.reduceNe, Int.reduceLT, Int.reduceLE, Int.reduceAdd, Int.reduceSub, Int.reduceMul, Int.reduceNeg, Int.zero_add, Int.add_zero, nm_eq, bd_some, bv_some, aI_ok, aL_ok, aS_ok, dv_ok, dw_ok, I_add, I_sub, I_mul, I_neg, I_lt, I_le, I_eq, I_nat, J_add, J_sub, J_mul, J_neg, J_lt, J_le, J_eq, I_l, J_i, I_div, J_div, b2_0, b2_1, b2_nar, nar_0, nar_1, zr_0, zr_1, zr_b2, cmp_eq, cmp_le, cmp_lt, cmp_gt, cmp_ge, mx_I, mn_I, mx_L, mn_L, az_I, if_true, if_false, not_true_eq_false, not_false_eq_true, Bool.false_eq_true, i_0, i_1, i_2, i_3, i_4, i_5, i_6, i_7, i_8, i_9, i_10, i_11, i_12, i_16, i_18, i_20, i_24, i_28, i_29, i_30, i_31, i_32, i_33, i_34, i_35, i_37, i_40, i_41, i_42, i_43, i_45, i_46, i_47, i_48, i_57, i_59, i_63, i_64, i_96, i_97, i_98, i_99, i_100, i_101, i_102, i_103, i_104, i_105, i_106, i_107, i_108, i_109, i_110, i_111, i_112, i_113, i_122, i_200, i_255, i_256, i_257, i_258, i_355, i_400, i_999, i_1000, i_1200, i_5680, i_9999, i_10000, i_99999, j_0, j_1, j_2, j_3, j_4, j_5, j_6, j_9, j_10, j_11, j_98, j_99, j_100, j_999, j_1000, j_9999, j_10000, j_99999, j_1000000, e, hc, hr]
      · rw [st_ne (by omega)]; exact t4 j j0 (by omega)
      · rw [st_ne (by omega), st_ne (by omega)]; exact t5 j j0 (by omega)
      · simp (disch := omega) only [st_I, st_I2, st_L1, st_L2, st_R1, st_R2, Nat.reduceEqDiff, Nat.reduceAdd, and_true, true_and, and_false, false_and, and_self, if_false, if_true]; exact t6
      · simp (disch := omega) only [st_I, st_I2, st_L1, st_L2, st_R1, st_R2, Nat.reduceEqDiff, Nat.reduceAdd, and_true, true_and, and_false, false_and, and_self, if_false, if_true]; exact t7
    · refine no ?_ ?_
      · simp (disch := omega) only [fX10_end, Int.reduceEq, Int.reduceNe, Int.reduceLT, Int.reduceLE, Int.reduceAdd, Int.reduceSub, Int.reduceMul, Int.reduceNeg, Int.zero_add, Int.add_zero, nm_eq, bd_some, bv_some, aI_ok, aL_ok, aS_ok, dv_ok, dw_ok, I_add, I_sub, I_mul, I_neg, I_lt, I_le, I_eq, I_nat, J_add, J_sub, J_mul, J_neg, J_lt, J_le, J_eq, I_l, J_i, I_div, J_div, b2_0, b2_1, b2_nar, nar_0, nar_1, zr_0, zr_1, zr_b2, cmp_eq, cmp_le, cmp_lt, cmp_gt, cmp_ge, mx_I, mn_I, mx_L, mn_L, az_I, if_true, if_false, not_true_eq_false, not_false_eq_true, Bool.false_eq_true, i_0, i_1, i_2, i_3, i_4, i_5, i_6, i_7, i_8, i_9, i_10, i_11, i_12, i_16, i_18, i_20, i_24, i_28, i_29, i_30, i_31, i_32, i_33, i_34, i_35, i_37, i_40, i_41, i_42, i_43, i_45, i_46, i_47, i_48, i_57, i_59, i_63, i_64, i_96, i_97, i_98, i_99, i_100, i_101, i_102, i_103, i_104, i_105, i_106, i_107, i_108, i_109, i_110, i_111, i_112, i_113, i_122, i_200, i_255, i_256, i_257, i_258, i_355, i_400, i_999, i_1000, i_1200, i_5680, i_9999, i_10000, i_99999, j_0, j_1, j_2, j_3, j_4, j_5, j_6, j_9, j_10, j_11, j_98, j_99, j_100, j_999, j_1000, j_9999, j_10000, j_99999, j_1000000, pn, t2, pl]
      · simp (disch := omega) only [fX11_end, Int.reduceEq, Int.reduceNe, Int.reduceLT, Int.reduceLE, Int.reduceAdd, Int.reduceSub, Int.reduceMul, Int.reduceNeg, Int.zero_add, Int.add_zero, nm_eq, bd_some, bv_some, aI_ok, aL_ok, aS_ok, dv_ok, dw_ok, I_add, I_sub, I_mul, I_neg, I_lt, I_le, I_eq, I_nat, J_add, J_sub, J_mul, J_neg, J_lt, J_le, J_eq, I_l, J_i, I_div, J_div, b2_0, b2_1, b2_nar, nar_0, nar_1, zr_0, zr_1, zr_b2, cmp_eq, cmp_le, cmp_lt, cmp_gt, cmp_ge, mx_I, mn_I, mx_L, mn_L, az_I, if_true, if_false, not_true_eq_false, not_false_eq_true, Bool.false_eq_true, i_0, i_1, i_2, i_3, i_4, i_5, i_6, i_7, i_8, i_9, i_10, i_11, i_12, i_16, i_18, i_20, i_24, i_28, i_29, i_30, i_31, i_32, i_33, i_34, i_35, i_37, i_40, i_41, i_42, i_43, i_45, i_46, i_47, i_48, i_57, i_59, i_63, i_64, i_96, i_97, i_98, i_99, i_100, i_101, i_102, i_103, i_104, i_105, i_106, i_107, i_108, i_109, i_110, i_111, i_112, i_113, i_122, i_200, i_255, i_256, i_257, i_258, i_355, i_400, i_999, i_1000, i_1200, i_5680, i_9999, i_10000, i_99999, j_0, j_1, j_2, j_3, j_4, j_5, j_6, j_9, j_10, j_11, j_98, j_99, j_100, j_999, j_1000, j_9999, j_10000, j_99999, j_1000000, pn, st_I, st_I2, st_L1, st_L2, st_R1, st_R2, Nat.reduceEqDiff, Nat.reduceAdd, and_true, true_and, and_false, false_and, and_self, if_false, if_true, t3, pl]
/-! bytes that are fed -/
def bB (x : Int32) (i : Int) : Int32 := vp_nar .byte ((x >>> (I_ (24 - 8 * i) &&& 31)).toInt8.toInt32)
theorem bB_ex (x : Int32) (i : Int) : ∃ c, bB x i = I_ c ∧ -128 ≤ c ∧ c ≤ 127 := by
  unfold bB
  generalize (x >>> (I_ (24 - 8 * i) &&& 31)).toInt8 = w
  have h1 := Int8.le_toInt w
  have h2 := Int8.toInt_lt w
  have e : w.toInt32 = I_ w.toInt := by
    rw [I_of w.toInt32, Int8.toInt_toInt32]
  refine ⟨w.toInt, ?_, by omega, by omega⟩
  rw [e]
  exact nar_b (by omega) (by omega)
theorem c_append {n : Int} {x : Int32} (hN : 500 ≤ N) (n0 : 0 ≤ n) (n1 : n + 4 ≤ 400) (h : μ.1 1 1 = I_ n) : ∃ μ', fX5_append N x μ = some ((), μ') ∧ μ'.1 1 1 = I_ (n + 4) ∧ (∀ i, 0 ≤ i → i < 4 → μ'.1 7 (n + i).toNat = bB x i) ∧ Fr (fun k j => (k = 1 ∧ j = 1) ∨ (k = 7 ∧ n.toNat ≤ j ∧ j < (n + 4).toNat)) μ μ' := by
  have st : ∀ (m : Nat) (c i : Int) (μ : Mem), 0 ≤ i → i < 4 → 0 ≤ c → c < 400 → μ.1 1 1 = I_ c → fX5_append_3 N (m + 1) x (I_ (24 - 8 * i)) μ = fX5_append_3 N m x (I_ (24 - 8 * (i + 1))) (stI (stI μ 7 c.toNat (bB x i)) 1 1 (I_ (c + 1))) := fun m c i μ i0 i1 c0 c1 hc => by
    have h1 : ¬ 24 - 8 * i < 0 := by omega
    have h2 : ¬ 400 ≤ c := by omega
    have e1 : 24 - 8 * i + -8 = 24 - 8 * (i + 1) := by omega
    have e31 : (31 : Int32) = I_ 31 := rfl
    unfold bB
    simp (disch := omega) only [fX5_append_3, Int.reduceEq, Int.reduceNe, Int.reduceLT, Int.reduceLE, Int.reduceAdd, Int.reduceSub, Int.reduceMul, Int.reduceNeg, Int.zero_add, Int.add_zero, nm_eq, bd_some, bv_some, aI_ok, aL_ok, aS_ok, dv_ok, dw_ok, I_add, I_sub, I_mul, I_neg, I_lt, I_le, I_eq, I_nat, J_add, J_sub, J_mul, J_neg, J_lt, J_le, J_eq, I_l, J_i, I_div, J_div, b2_0, b2_1, b2_nar, nar_0, nar_1, zr_0, zr_1, zr_b2, cmp_eq, cmp_le, cmp_lt, cmp_gt, cmp_ge, mx_I, mn_I, mx_L, mn_L, az_I, if_true, if_false, not_true_eq_false, not_false_eq_true, Bool.false_eq_true, i_0, i_1, i_2, i_3, i_4, i_5, i_6, i_7, i_8, i_9, i_10, i_11, i_12, i_16, i_18, i_20, i_24, i_28, i_29, i_30, i_31, i_32, i_33, i_34, i_35, i_37, i_40, i_41, i_42, i_43, i_45, i_46, i_47, i_48, i_57, i_59, i_63, i_64, i_96, i_97, i_98, i_99, i_100, i_101, i_102, i_103, i_104, i_105, i_106, i_107, i_108, i_109, i_110, i_111, i_112, i_113, i_122, i_200, i_255, i_256, i_257, i_258, i_355, i_400, i_999, i_1000, i_1200, i_5680, i_9999, i_10000, i_99999, j_0, j_1, j_2, j_3, j_4, j_5, j_6, j_9, j_10, j_11, j_98, j_99, j_100, j_999, j_1000, j_9999, j_10000, j_99999, j_1000000, h1, hc, h2, e1, st_ne, e31]
  obtain ⟨m, hm⟩ : ∃ m, N = m + 5 := ⟨N - 5, by omega⟩
  have a1 : (stI (stI μ 7 n.toNat (bB x 0)) 1 1 (I_ (n + 1))).1 1 1 = I_ (n + 1) := at_S
  have a2 : (stI (stI (stI (stI μ 7 n.toNat (bB x 0)) 1 1 (I_ (n + 1))) 7 (n + 1).toNat (bB x 1)) 1 1 (I_ (n + 1 + 1))).1 1 1 = I_ (n + 1 + 1) := at_S
  have a3 : (stI (stI (stI (stI (stI (stI μ 7 n.toNat (bB x 0)) 1 1 (I_ (n + 1))) 7 (n + 1).toNat (bB x 1)) 1 1 (I_ (n + 1 + 1))) 7 (n + 1 + 1).toNat (bB x 2)) 1 1 (I_ (n + 1 + 1 + 1))).1 1 1 = I_ (n + 1 + 1 + 1) := at_S
  refine ⟨stI (stI (stI (stI (stI (stI (stI (stI μ 7 n.toNat (bB x 0)) 1 1 (I_ (n + 1))) 7 (n + 1).toNat (bB x 1)) 1 1 (I_ (n + 1 + 1))) 7 (n + 1 + 1).toNat (bB x 2)) 1 1 (I_ (n + 1 + 1 + 1))) 7 (n + 1 + 1 + 1).toNat (bB x 3)) 1 1 (I_ (n + 1 + 1 + 1 + 1)), ?_, ?_, fun i i0 i1 => ?_, ?_⟩
  · have s0 := st (m + 4) n 0 μ (by omega) (by omega) n0 (by omega) h
    have s1 := st (m + 3) (n + 1) 1 _ (by omega) (by omega) (by omega) (by omega) a1
    have s2 := st (m + 2) (n + 1 + 1) 2 _ (by omega) (by omega) (by omega) (by omega) a2
    have s3 := st (m + 1) (n + 1 + 1 + 1) 3 _ (by omega) (by omega) (by omega) (by omega) a3
    have s4 : ∀ μ : Mem, fX5_append_3 N (m + 1) x (I_ (24 - 8 * (3 + 1))) μ = some ((), μ) := fun μ => by
      simp (disch := omega) only [fX5_append_3, Int.reduceEq, Int.reduceNe, Int.reduceLT, Int.reduceLE, Int.reduceAdd, Int.reduceSub, Int.reduceMul, Int.reduceNeg, Int.zero_add, Int.add_zero, nm_eq, bd_some, bv_some, aI_ok, aL_ok, aS_ok, dv_ok, dw_ok, I_add, I_sub, I_mul, I_neg, I_lt, I_le, I_eq, I_nat, J_add, J_sub, J_mul, J_neg, J_lt, J_le, J_eq, I_l, J_i, I_div, J_div, b2_0, b2_1, b2_nar, nar_0, nar_1, zr_0, zr_1, zr_b2, cmp_eq, cmp_le, cmp_lt, cmp_gt, cmp_ge, mx_I, mn_I, mx_L, mn_L, az_I, if_true, if_false, not_true_eq_false, not_false_eq_true, Bool.false_eq_true, i_0, i_1, i_2, i_3, i_4, i_5, i_6, i_7, i_8, i_9, i_10, i_11, i_12, i_16, i_18, i_20, i_24, i_28, i_29, i_30, i_31, i_32, i_33, i_34, i_35, i_37, i_40, i_41, i_42, i_43, i_45, i_46, i_47, i_48, i_57, i_59, i_63, i_64, i_96, i_97, i_98, i_99, i_100, i_101, i_102, i_103, i_104, i_105, i_106, i_107, i_108, i_109, i_110, i_111, i_112, i_113, i_122, i_200, i_255, i_256, i_257, i_258, i_355, i_400, i_999, i_1000, i_1200, i_5680, i_9999, i_10000, i_99999, j_0, j_1, j_2, j_3, j_4, j_5, j_6, j_9, j_10, j_11, j_98, j_99, j_100, j_999, j_1000, j_9999, j_10000, j_99999, j_1000000]
    have e0 : fX5_append N x μ = fX5_append_3 N (m + 4 + 1) x (I_ (24 - 8 * 0)) μ := by
      unfold fX5_append
      have : m + 4 + 1 = N := by omega
      rw [this]
      rfl
    exact e0.trans (s0.trans (s1.trans (s2.trans (s3.trans (s4 _)))))
  · rw [at_S]
    congr 1
    omega
  · have hc : i = 0 ∨ i = 1 ∨ i = 2 ∨ i = 3 := by omega
    rcases hc with e | e | e | e <;> subst e
    · rw [st_ne (by omega), st_I, if_neg (by omega), st_ne (by omega), st_I, if_neg (by omega), st_ne (by omega), st_I, if_neg (by omega), st_ne (by omega), st_I, if_pos ⟨rfl, by omega⟩]
    · rw [st_ne (by omega), st_I, if_neg (by omega), st_ne (by omega), st_I, if_neg (by omega), st_ne (by omega), st_I, if_pos ⟨rfl, by omega⟩]
    · rw [st_ne (by omega), st_I, if_neg (by omega), st_ne (by omega), st_I, if_pos ⟨rfl, by omega⟩]
    · rw [st_ne (by omega), st_I, if_pos ⟨rfl, by omega⟩]
  · exact (((((((Fr.rf.stI (Or.inr ⟨rfl, by omega, by omega⟩)).stI (Or.inl ⟨rfl, rfl⟩)).stI (Or.inr ⟨rfl, by omega, by omega⟩)).stI (Or.inl ⟨rfl, rfl⟩)).stI (Or.inr ⟨rfl, by omega, by omega⟩)).stI (Or.inl ⟨rfl, rfl⟩)).stI (Or.inr ⟨rfl, by omega, by omega⟩)).stI (Or.inl ⟨rfl, rfl⟩)
def sel (v : Nat → Int32) (k : Int) : Int32 := if k < 4 then v 1 else if k < 8 then v 2 else if k < 12 then v 3 else if k < 16 then v 4 else v 5
theorem r_feed23 {n : Int} (v : Nat → Int32) (n0 : 0 ≤ n) (n1 : n + 20 ≤ 400) : ∀ (d m : Nat) (k : Int) (ν : Mem), d < m → 0 ≤ k → k + d = 20 → ν.1 0 14 = I_ (n + k) → (∀ i, 0 ≤ i → i < k → ν.1 10 (n + i).toNat = bB (sel v i) (i % 4)) → ∃ ν', fX11_feed_23 N m (v 1) (v 2) (v 3) (v 4) (v 5) (I_ k) ν = some (I_ (n + 20), ν') ∧ ν'.1 0 14 = I_ (n + 20) ∧ (∀ i, 0 ≤ i → i < 20 → ν'.1 10 (n + i).toNat = bB (sel v i) (i % 4)) ∧ Fr (fun k j => (k = 0 ∧ j = 14) ∨ (k = 10 ∧ n.toNat ≤ j)) ν ν' := by
  intro d
  induction d with
  | zero =>
    intro m k ν h1 h2 h3 h4 h5
    obtain ⟨m, rfl⟩ : ∃ mm, m = mm + 1 := ⟨m - 1, by omega⟩
    have e : k = 20 := by omega
    subst e
    refine ⟨ν, ?_, h4, h5, Fr.rf⟩
    simp (disch := omega) only [fX11_feed_23, Int.reduceEq, Int.reduceNe, Int.reduceLT, Int.reduceLE, Int.reduceAdd, Int.reduceSub, Int.reduceMul, Int.reduceNeg, Int.zero_add, Int.add_zero, nm_eq, bd_some, bv_some, aI_ok, aL_ok, aS_ok, dv_ok, dw_ok, I_add, I_sub, I_mul, I_neg, I_lt, I_le, I_eq, I_nat, J_add, J_sub, J_mul, J_neg, J_lt, J_le, J_eq, I_l, J_i, I_div, J_div, b2_0, b2_1, b2_nar, nar_0, nar_1, zr_0, zr_1, zr_b2, cmp_eq, cmp_le, cmp_lt, cmp_gt, cmp_ge, mx_I, mn_I, mx_L, mn_L, az_I, if_true, if_false, not_true_eq_false, not_false_eq_true, Bool.false_eq_true, i_0, i_1, i_2, i_3, i_4, i_5, i_6, i_7, i_8, i_9, i_10, i_11, i_12, i_16, i_18, i_20, i_24, i_28, i_29, i_30, i_31, i_32, i_33, i_34, i_35, i_37, i_40, i_41, i_42, i_43, i_45, i_46, i_47, i_48, i_57, i_59, i_63, i_64, i_96, i_97, i_98, i_99, i_100, i_101, i_102, i_103, i_104, i_105, i_106, i_107, i_108, i_109, i_110, i_111, i_112, i_113, i_122, i_200, i_255, i_256, i_257, i_258, i_355, i_400, i_999, i_1000, i_1200, i_5680, i_9999, i_10000, i_99999, j_0, j_1, j_2, j_3, j_4, j_5, j_6, j_9, j_10, j_11, j_98, j_99, j_100, j_999, j_1000, j_9999, j_10000, j_99999, j_1000000, h4]
  | succ d ih =>
    intro m k ν h1 h2 h3 h4 h5
    obtain ⟨m, rfl⟩ : ∃ mm, m = mm + 1 := ⟨m - 1, by omega⟩
    have h20 : ¬ 20 ≤ k := by omega
    obtain ⟨ν', x1, x2, x3, x4⟩ := ih m (k + 1) (stI (stI ν 10 (n + k).toNat (bB (sel v k) (k % 4))) 0 14 (I_ (n + k + 1))) (by omega) (by omega) (by omega) (by rw [at_S]; congr 1; omega) (fun i i0 i1 => by
      rw [st_ne (by omega), st_I]
      by_cases e : i = k
      · rw [if_pos ⟨rfl, by omega⟩, e]
      · rw [if_neg (by omega)]
        exact h5 i i0 (by omega))
    have e4 : k - k / 4 * 4 = k % 4 := by omega
    have e31 : (31 : Int32) = I_ 31 := rfl
    have body : ∀ s0 : Int32, s0 = sel v k → fX11_feed_76 N (fun v1 v2 v3 v4 v5 v6 μ => fX11_feed_23 N m v1 v2 v3 v4 v5 v6 μ) (v 1) (v 2) (v 3) (v 4) (v 5) (I_ k) s0 ν = some (I_ (n + 20), ν') := fun s0 hs => by
      rw [hs]
      unfold bB at x1
      rw [e31] at x1
      simp (disch := omega) only [fX11_feed_76, Int.reduceEq, Int.reduceNe, Int.reduceLT, Int.reduceLE, Int.reduceAdd, Int.reduceSub, Int.reduceMul, Int.reduceNeg, Int.zero_add, Int.add_zero, nm_eq, bd_some, bv_some, aI_ok, aL_ok, aS_ok, dv_ok, dw_ok, I_add, I_sub, I_mul, I_neg, I_lt, I_le, I_eq, I_nat, J_add, J_sub, J_mul, J_neg, J_lt, J_le, J_eq, I_l, J_i, I_div, J_div, b2_0, b2_1, b2_nar, nar_0, nar_1, zr_0, zr_1, zr_b2, cmp_eq, cmp_le, cmp_lt, cmp_gt, cmp_ge, mx_I, mn_I, mx_L, mn_L, az_I, if_true, if_false, not_true_eq_false, not_false_eq_true, Bool.false_eq_true, i_0, i_1, i_2, i_3, i_4, i_5, i_6, i_7, i_8, i_9, i_10, i_11, i_12, i_16, i_18, i_20, i_24, i_28, i_29, i_30, i_31, i_32, i_33, i_34, i_35, i_37, i_40, i_41, i_42, i_43, i_45, i_46, i_47, i_48, i_57, i_59, i_63, i_64, i_96, i_97, i_98, i_99, i_100, i_101, i_102, i_103, i_104, i_105, i_106, i_107, i_108, i_109, i_110, i_111, i_112, i_113, i_122, i_200, i_255, i_256, i_257, i_258, i_355, i_400, i_999, i_1000, i_1200, i_5680, i_9999, i_10000, i_99999, j_0, j_1, j_2, j_3, j_4, j_5, j_6, j_9, j_10, j_11, j_98, j_99, j_100, j_999, j_1000, j_9999, j_10000, j_99999, j_1000000, h4, e4, st_ne, e31]
      exact x1
    refine ⟨ν', ?_, x2, x3, Fr.tr ((Fr.rf.stI (Or.inr ⟨rfl, by omega⟩)).stI (Or.inl ⟨rfl, rfl⟩)) x4⟩
    unfold sel at body
    by_cases c4 : 4 ≤ k
    · rw [if_neg (by omega)] at body
      by_cases c8 : 8 ≤ k
      · rw [if_neg (by omega)] at body
        by_cases c12 : 12 ≤ k
        · rw [if_neg (by omega)] at body
          by_cases c16 : 16 ≤ k
          · rw [if_neg (by omega)] at body
            simp (disch := omega) only [fX11_feed_23, Int.reduceEq, Int.reduceNe, Int.reduceLT, Int.reduceLE, Int.reduceAdd, Int.reduceSub, Int.reduceMul, Int.reduceNeg, Int.zero_add, Int.add_zero, nm_eq, bd_some, bv_some, aI_ok, aL_ok, aS_ok, dv_ok, dw_ok, I_add, I_sub, I_mul, I_neg, I_lt, I_le, I_eq, I_nat, J_add, J_sub, J_mul, J_neg, J_lt, J_le, J_eq, I_l, J_i, I_div, J_div, b2_0, b2_1, b2_nar, nar_0, nar_1, zr_0, zr_1, zr_b2, cmp_eq, cmp_le, cmp_lt, cmp_gt, cmp_ge, mx_I, mn_I, mx_L, mn_L, az_I, if_true, if_false, not_true_eq_false, not_false_eq_true, Bool.false_eq_true, i_0, i_1, i_2, i_3, i_4, i_5, i_6, i_7, i_8, i_9, i_10, i_11, i_12, i_16, i_18, i_20, i_24, i_28, i_29, i_30, i_31, i_32, i_33, i_34, i_35, i_37, i_40, i_41, i_42, i_43, i_45, i_46, i_47, i_48, i_57, i_59, i_63, i_64, i_96, i_97, i_98, i_99, i_100, i_101, i_102, i_103, i_104, i_105, i_106, i_107, i_108, i_109, i_110, i_111, i_112, i_113, i_122, i_200, i_255, i_256, i_257, i_258, i_355, i_400, i_999, i_1000, i_1200, i_5680, i_9999, i_10000, i_99999, j_0, j_1, j_2, j_3, j_4, j_5, j_6, j_9, j_10, j_11, j_98, j_99, j_100, j_999, j_1000, j_9999, j_10000, j_99999, j_1000000, h20, c4, c8, c12, c16, body (v 5) rfl]
          · rw [if_pos (by omega)] at body
            simp (disch := omega) only [fX11_feed_23, Int.reduceEq, Int.reduceNe, Int.reduceLT, Int.reduceLE, Int.reduceAdd, Int.reduceSub, Int.reduceMul, Int.reduceNeg, Int.zero_add, Int.add_zero, nm_eq, bd_some, bv_some, aI_ok, aL_ok, aS_ok, dv_ok, dw_ok, I_add, I_sub, I_mul, I_neg, I_lt, I_le, I_eq, I_nat, J_add, J_sub, J_mul, J_neg, J_lt, J_le, J_eq, I_l, J_i, I_div, J_div, b2_0, b2_1, b2_nar, nar_0, nar_1, zr_0, zr_1, zr_b2, cmp_eq, cmp_le, cmp_lt, cmp_gt, cmp_ge, mx_I, mn_I, mx_L, mn_L, az_I, if_true, if_false, not_true_eq_false, not_false_eq_true, Bool.false_eq_true, i_0, i_1, i_2, i_3, i_4, i_5, i_6, i_7, i_8, i_9, i_10, i_11, i_12, i_16, i_18, i_20, i_24, i_28, i_29, i_30, i_31, i_32, i_33, i_34, i_35, i_37, i_40, i_41, i_42, i_43, i_45, i_46, i_47, i_48, i_57, i_59, i_63, i_64, i_96, i_97, i_98, i_99, i_100, i_101, i_102, i_103, i_104, i_105, i_106, i_107, i_108, i_109, i_110, i_111, i_112, i_113, i_122, i_200, i_255, i_256, i_257, i_258, i_355, i_400, i_999, i_1000, i_1200, i_5680, i_9999, i_10000, i_99999, j_0, j_1, j_2, j_3, j_4, j_5, j_6, j_9, j_10, j_11, j_98, j_99, j_100, j_999, j_1000, j_9999, j_10000, j_99999, j_1000000, h20, c4, c8, c12, c16, body (v 4) rfl]
        · rw [if_pos (by omega)] at body
          simp (disch := omega) only [fX11_feed_23, Int.reduceEq, Int.reduceNe, Int.reduceLT, Int.reduceLE, Int.reduceAdd, Int.reduceSub, Int.reduceMul, Int.reduceNeg, Int.zero_add, Int.add_zero, nm_eq, bd_some, bv_some, aI_ok, aL_ok, aS_ok, dv_ok, dw_ok, I_add, I_sub, I_mul, I_neg, I_lt, I_le, I_eq, I_nat, J_add, J_sub, J_mul, J_neg, J_lt, J_le, J_eq, I_l, J_i, I_div, J_div, b2_0, b2_1, b2_nar, nar_0, nar_1, zr_0, zr_1, zr_b2, cmp_eq, cmp_le, cmp_lt, cmp_gt, cmp_ge, mx_I, mn_I, mx_L, mn_L, az_I, if_true, if_false, not_true_eq_false, not_false_eq_true, Bool.false_eq_true, i_0, i_1, i_2, i_3, i_4, i_5, i_6, i_7, i_8, i_9, i_10, i_11, i_12, i_16, i_18, i_20, i_24, i_28, i_29, i_30, i_31, i_32, i_33, i_34, i_35, i_37, i_40, i_41, i_42, i_43, i_45, i_46, i_47, i_48, i_57, i_59, i_63, i_64, i_96, i_97, i_98, i_99, i_100, i_101, i_102, i_103, i_104, i_105, i_106, i_107, i_108, i_109, i_110, i_111, i_112, i_113, i_122, i_200, i_255, i_256, i_257, i_258, i_355, i_400, i_999, i_1000, i_1200, i_5680, i_9999, i_10000, i_99999, j_0, j_1, j_2, j_3, j_4, j_5, j_6, j_9, j_10, j_11, j_98, j_99, j_100, j_999, j_1000, j_9999, j_10000, j_99999, j_1000000, h20, c4, c8, c12, body (v 3) rfl]
      · rw [if_pos (by omega)] at body
        simp (disch := omega) only [fX11_feed_23, Int.reduceEq, Int.reduceNe, Int.reduceLT, Int.reduceLE, Int.reduceAdd, Int.reduceSub, Int.reduceMul, Int.reduceNeg, Int.zero_add, Int.add_zero, nm_eq, bd_some, bv_some, aI_ok, aL_ok, aS_ok, dv_ok, dw_ok, I_add, I_sub, I_mul, I_neg, I_lt, I_le, I_eq, I_nat, J_add, J_sub, J_mul, J_neg, J_lt, J_le, J_eq, I_l, J_i, I_div, J_div, b2_0, b2_1, b2_nar, nar_0, nar_1, zr_0, zr_1, zr_b2, cmp_eq, cmp_le, cmp_lt, cmp_gt, cmp_ge, mx_I, mn_I, mx_L, mn_L, az_I, if_true, if_false, not_true_eq_false, not_false_eq_true, Bool.false_eq_true, i_0, i_1, i_2, i_3, i_4, i_5, i_6, i_7, i_8, i_9, i_10, i_11, i_12, i_16, i_18, i_20, i_24, i_28, i_29, i_30, i_31, i_32, i_33, i_34, i_35, i_37, i_40, i_41, i_42, i_43, i_45, i_46, i_47, i_48, i_57, i_59, i_63, i_64, i_96, i_97, i_98, i_99, i_100, i_101, i_102, i_103, i_104, i_105, i_106, i_107, i_108, i_109, i_110, i_111, i_112, i_113, i_122, i_200, i_255, i_256, i_257, i_258, i_355, i_400, i_999, i_1000, i_1200, i_5680, i_9999, i_10000, i_99999, j_0, j_1, j_2, j_3, j_4, j_5, j_6, j_9, j_10, j_11, j_98, j_99, j_100, j_999, j_1000, j_9999, j_10000, j_99999, j_1000000, h20, c4, c8, body (v 2) rfl]
    · rw [if_pos (by omega)] at body
      simp (disch := omega) only [fX11_feed_23, Int.reduceEq, Int.reduceNe, Int.reduceLT, Int.reduceLE, Int.reduceAdd, Int.reduceSub, Int.reduceMul, Int.reduceNeg, Int.zero_add, Int.add_zero, nm_eq, bd_some, bv_some, aI_ok, aL_ok, aS_ok, dv_ok, dw_ok, I_add, I_sub, I_mul, I_neg, I_lt, I_le, I_eq, I_nat, J_add, J_sub, J_mul, J_neg, J_lt, J_le, J_eq, I_l, J_i, I_div, J_div, b2_0, b2_1, b2_nar, nar_0, nar_1, zr_0, zr_1, zr_b2, cmp_eq, cmp_le, cmp_lt, cmp_gt, cmp_ge, mx_I, mn_I, mx_L, mn_L, az_I, if_true, if_false, not_true_eq_false, not_false_eq_true, Bool.false_eq_true, i_0, i_1, i_2, i_3, i_4, i_5, i_6, i_7, i_8, i_9, i_10, i_11, i_12, i_16, i_18, i_20, i_24, i_28, i_29, i_30, i_31, i_32, i_33, i_34, i_35, i_37, i_40, i_41, i_42, i_43, i_45, i_46, i_47, i_48, i_57, i_59, i_63, i_64, i_96, i_97, i_98, i_99, i_100, i_101, i_102, i_103, i_104, i_105, i_106, i_107, i_108, i_109, i_110, i_111, i_112, i_113, i_122, i_200, i_255, i_256, i_257, i_258, i_355, i_400, i_999, i_1000, i_1200, i_5680, i_9999, i_10000, i_99999, j_0, j_1, j_2, j_3, j_4, j_5, j_6, j_9, j_10, j_11, j_98, j_99, j_100, j_999, j_1000, j_9999, j_10000, j_99999, j_1000000, h20, c4, body (v 1) rfl]
def fdT (T : Int → Int) (n : Int) (v : Nat → Int32) (j : Int) : Int := if j < n then T j else (bB (sel v (j - n)) ((j - n) % 4)).toInt
theorem A0 (hN : 20000 ≤ N) (v : Nat → Int32) (h : Rl μ ν) : ∃ z, lawC0 N v μ ν = some z ∧ Rl z.1 z.2 := by
  obtain ⟨b, Lm, Am, Lf, Af, K, fo, q, G, a, nx, hA, hB, hC, hT, hR⟩ := h
  have hT' := hT
  obtain ⟨T, n, ft, t1, t2, t3, t4, t5, t6, t7, t8⟩ := hT'
  have n01 := t1.1
  have n02 := t1.2.1
  by_cases h20 : n + 20 ≤ 400
  · obtain ⟨μ1, a1, a2, a3, a4⟩ := c_append (N := N) (x := v 1) (by omega) n01 (by omega) t2
    obtain ⟨μ2, b1, b2', b3, b4⟩ := c_append (N := N) (x := v 2) (by omega) (by omega) (by omega) a2
    obtain ⟨μ3, c1, c2, c3, c4⟩ := c_append (N := N) (x := v 3) (by omega) (by omega) (by omega) b2'
    obtain ⟨μ4, d1, d2, d3, d4⟩ := c_append (N := N) (x := v 4) (by omega) (by omega) (by omega) c2
    obtain ⟨μ5, f1, f2, f3, f4⟩ := c_append (N := N) (x := v 5) (by omega) (by omega) (by omega) d2
    obtain ⟨ν1, r1, r2, r3, r4⟩ := r_feed23 (N := N) (ν := stI ν 0 0 (I_ 0)) v n01 h20 20 N 0 (by omega) (by omega) (by omega) (by simp (disch := omega) only [st_I, st_I2, st_L1, st_L2, st_R1, st_R2, Nat.reduceEqDiff, Nat.reduceAdd, and_true, true_and, and_false, false_and, and_self, if_false, if_true]; rw [t3]; congr 1; omega) (fun i i0 i1 => absurd i1 (by omega))
    have e5 : n + 4 + 4 + 4 + 4 + 4 = n + 20 := by omega
    rw [e5] at f2
    have gc : Fr (fun k j => (k = 1 ∧ j = 1) ∨ (k = 7 ∧ n.toNat ≤ j)) μ μ5 := (((a4.mono (fun k j w => by omega)).tr (b4.mono (fun k j w => by omega))).tr ((c4.mono (fun k j w => by omega)).tr (d4.mono (fun k j w => by omega)))).tr (f4.mono (fun k j w => by omega))
    have gr : Fr (fun k j => (k = 0 ∧ (j = 0 ∨ j = 14)) ∨ (k = 10 ∧ n.toNat ≤ j)) ν ν1 := Fr.tr (Fr.rf.stI (Or.inl ⟨rfl, Or.inl rfl⟩)) (r4.mono (fun k j w => by omega))
    have cl : ∀ i, 0 ≤ i → i < 20 → μ5.1 7 (n + i).toNat = bB (sel v i) (i % 4) := fun i i0 i1 => by
      unfold sel
      by_cases c4' : i < 4
      · rw [if_pos c4', (f4 _ _ (by omega)).1, (d4 _ _ (by omega)).1, (c4 _ _ (by omega)).1, (b4 _ _ (by omega)).1, a3 i i0 c4', show i % 4 = i by omega]
      · rw [if_neg c4']
        by_cases c8 : i < 8
        · have := b3 (i - 4) (by omega) (by omega)
          rw [show n + 4 + (i - 4) = n + i by omega] at this
          rw [if_pos c8, (f4 _ _ (by omega)).1, (d4 _ _ (by omega)).1, (c4 _ _ (by omega)).1, this, show i % 4 = i - 4 by omega]
        · rw [if_neg c8]
          by_cases c12 : i < 12
          · have := c3 (i - 8) (by omega) (by omega)
            rw [show n + 4 + 4 + (i - 8) = n + i by omega] at this
            rw [if_pos c12, (f4 _ _ (by omega)).1, (d4 _ _ (by omega)).1, this, show i % 4 = i - 8 by omega]
          · rw [if_neg c12]
            by_cases c16 : i < 16
            · have := d3 (i - 12) (by omega) (by omega)
              rw [show n + 4 + 4 + 4 + (i - 12) = n + i by omega] at this
              rw [if_pos c16, (f4 _ _ (by omega)).1, this, show i % 4 = i - 12 by omega]
            · have := f3 (i - 16) (by omega) (by omega)
              rw [show n + 4 + 4 + 4 + 4 + (i - 16) = n + i by omega] at this
              rw [if_neg c16, this, show i % 4 = i - 16 by omega]
    obtain ⟨b', hb1, hb2, hb3⟩ := hC
    have hC : FC b μ := ⟨b', hb1, hb2, hb3⟩
    have hbI : ∀ x i, I_ (bB x i).toInt = bB x i ∧ -128 ≤ (bB x i).toInt ∧ (bB x i).toInt ≤ 127 := fun x i => by
      obtain ⟨c, y1, y2, y3⟩ := bB_ex x i
      rw [y1, I_toInt (by omega) (by omega)]
      exact ⟨rfl, y2, y3⟩
    refine ⟨(μ5, ν1), ?_, Rl_t ⟨hb1, hb2⟩ hA hB hC hR (gc.mono (fun k j w => by omega)) (gr.mono (fun k j w => by omega)) ⟨fdT T n v, n + 20, ft, ⟨by omega, h20, fun j => ?_⟩, f2, r2, fun j j0 j1 => ?_, fun j j0 j1 => ?_, ?_, ?_, t8⟩⟩
    · have hc : fX10_feed N (v 1) (v 2) (v 3) (v 4) (v 5) μ = some (I_ (n + 20), μ5) := by
        simp (disch := omega) only [fX10_feed, Int.reduceEq, Int.reduceNe, Int.reduceLT, Int.reduceLE, Int.reduceAdd, Int.reduceSub, Int.reduceMul, Int.reduceNeg, Int.zero_add, Int.add_zero, nm_eq, bd_some, bv_some, aI_ok, aL_ok, aS_ok, dv_ok, dw_ok, I_add, I_sub, I_mul, I_neg, I_lt, I_le, I_eq, I_nat, J_add, J_sub, J_mul, J_neg, J_lt, J_le, J_eq, I_l, J_i, I_div, J_div, b2_0, b2_1, b2_nar, nar_0, nar_1, zr_0, zr_1, zr_b2, cmp_eq, cmp_le, cmp_lt, cmp_gt, cmp_ge, mx_I, mn_I, mx_L, mn_L, az_I, if_true, if_false, not_true_eq_false, not_false_eq_true, Bool.false_eq_true, i_0, i_1, i_2, i_3, i_4, i_5, i_6, i_7, i_8, i_9, i_10, i_11, i_12, i_16, i_18, i_20, i_24, i_28, i_29, i_30, i_31, i_32, i_33, i_34, i_35, i_37, i_40, i_41, i_42, i_43, i_45, i_46, i_47, i_48, i_57, i_59, i_63, i_64, i_96, i_97, i_98, i_99, i_100, i_101, i_102, i_103, i_104, i_105, i_106, i_107, i_108, i_109, i_110, i_111, i_112, i_113, i_122, i_200, i_255, i_256, i_257, i_258, i_355, i_400, i_999, i_1000, i_1200, i_5680, i_9999, i_10000, i_99999, j_0, j_1, j_2, j_3, j_4, j_5, j_6, j_9, j_10, j_11, j_98, j_99, j_100, j_999, j_1000, j_9999, j_10000, j_99999, j_1000000, t2, h20, a1, b1, c1, d1, f1, f2]
      have hr : fX11_feed N (v 1) (v 2) (v 3) (v 4) (v 5) ν = some (I_ (n + 20), ν1) := by
        simp (disch := omega) only [fX11_feed, Int.reduceEq, Int.reduceNe, Int.reduceLT, Int.reduceLE, Int.reduceAdd, Int.reduceSub, Int.reduceMul, Int.reduceNeg, Int.zero_add, Int.add_zero, nm_eq, bd_some, bv_some, aI_ok, aL_ok, aS_ok, dv_ok, dw_ok, I_add, I_sub, I_mul, I_neg, I_lt, I_le, I_eq, I_nat, J_add, J_sub, J_mul, J_neg, J_lt, J_le, J_eq, I_l, J_i, I_div, J_div, b2_0, b2_1, b2_nar, nar_0, nar_1, zr_0, zr_1, zr_b2, cmp_eq, cmp_le, cmp_lt, cmp_gt, cmp_ge, mx_I, mn_I, mx_L, mn_L, az_I, if_true, if_false, not_true_eq_false, not_false_eq_true, Bool.false_eq_true, i_0, i_1, i_2, i_3, i_4, i_5, i_6, i_7, i_8, i_9, i_10, i_11, i_12, i_16, i_18, i_20, i_24, i_28, i_29, i_30, i_31, i_32, i_33, i_34, i_35, i_37, i_40, i_41, i_42, i_43, i_45, i_46, i_47, i_48, i_57, i_59, i_63, i_64, i_96, i_97, i_98, i_99, i_100, i_101, i_102, i_103, i_104, i_105, i_106, i_107, i_108, i_109, i_110, i_111, i_112, i_113, i_122, i_200, i_255, i_256, i_257, i_258, i_355, i_400, i_999, i_1000, i_1200, i_5680, i_9999, i_10000, i_99999, j_0, j_1, j_2, j_3, j_4, j_5, j_6, j_9, j_10, j_11, j_98, j_99, j_100, j_999, j_1000, j_9999, j_10000, j_99999, j_1000000, st_I, st_I2, st_L1, st_L2, st_R1, st_R2, Nat.reduceEqDiff, Nat.reduceAdd, and_true, true_and, and_false, false_and, and_self, if_false, if_true, t3, h20, r1]
      simp (disch := omega) only [lawC0, Int.reduceEq, Int.reduceNe, Int.reduceLT, Int.reduceLE, Int.reduceAdd, Int.reduceSub, Int.reduceMul, Int.reduceNeg, Int.zero_add, Int.add_zero, nm_eq, bd_some, bv_some, aI_ok, aL_ok, aS_ok, dv_ok, dw_ok, I_add, I_sub, I_mul, I_neg, I_lt, I_le, I_eq, I_nat, J_add, J_sub, J_mul, J_neg, J_lt, J_le, J_eq, I_l, J_i, I_div, J_div, b2_0, b2_1, b2_nar, nar_0, nar_1, zr_0, zr_1, zr_b2, cmp_eq, cmp_le, cmp_lt, cmp_gt, cmp_ge, mx_I, mn_I, mx_L, mn_L, az_I, if_true, if_false, not_true_eq_false, not_false_eq_true, Bool.false_eq_true, i_0, i_1, i_2, i_3, i_4, i_5, i_6, i_7, i_8, i_9, i_10, i_11, i_12, i_16, i_18, i_20, i_24, i_28, i_29, i_30, i_31, i_32, i_33, i_34, i_35, i_37, i_40, i_41, i_42, i_43, i_45, i_46, i_47, i_48, i_57, i_59, i_63, i_64, i_96, i_97, i_98, i_99, i_100, i_101, i_102, i_103, i_104, i_105, i_106, i_107, i_108, i_109, i_110, i_111, i_112, i_113, i_122, i_200, i_255, i_256, i_257, i_258, i_355, i_400, i_999, i_1000, i_1200, i_5680, i_9999, i_10000, i_99999, j_0, j_1, j_2, j_3, j_4, j_5, j_6, j_9, j_10, j_11, j_98, j_99, j_100, j_999, j_1000, j_9999, j_10000, j_99999, j_1000000, hc, hr]
    · unfold fdT
      by_cases e : j < n
      · rw [if_pos e]; exact t1.2.2 j
      · rw [if_neg e]; exact (hbI _ _).2
    · show μ5.1 7 j.toNat = I_ (fdT T n v j)
      unfold fdT
      by_cases e : j < n
      · rw [if_pos e, (gc _ _ (by omega)).1]; exact t4 j j0 e
      · rw [if_neg e, (hbI _ _).1]
        have := cl (j - n) (by omega) (by omega)
        rw [show n + (j - n) = j by omega] at this
        exact this
    · show ν1.1 10 j.toNat = I_ (fdT T n v j)
      unfold fdT
      by_cases e : j < n
      · rw [if_pos e, (gr _ _ (by omega)).1]; exact t5 j j0 e
      · rw [if_neg e, (hbI _ _).1]
        have := r3 (j - n) (by omega) (by omega)
        rw [show n + (j - n) = j by omega] at this
        exact this
    · rw [(gc 1 2 (by omega)).1]; exact t6
    · rw [(gr 0 17 (by omega)).1]; exact t7
  · refine ⟨(μ, stI ν 0 0 (I_ 0)), ?_, hA.refuse (N := N) (z := (μ, μ)) (by omega) hB hC hT hR (I_ 0)⟩
    have hc : fX10_feed N (v 1) (v 2) (v 3) (v 4) (v 5) μ = some (I_ (-1), μ) := by
      simp (disch := omega) only [fX10_feed, Int.reduceEq, Int.reduceNe, Int.reduceLT, Int.reduceLE, Int.reduceAdd, Int.reduceSub, Int.reduceMul, Int.reduceNeg, Int.zero_add, Int.add_zero, nm_eq, bd_some, bv_some, aI_ok, aL_ok, aS_ok, dv_ok, dw_ok, I_add, I_sub, I_mul, I_neg, I_lt, I_le, I_eq, I_nat, J_add, J_sub, J_mul, J_neg, J_lt, J_le, J_eq, I_l, J_i, I_div, J_div, b2_0, b2_1, b2_nar, nar_0, nar_1, zr_0, zr_1, zr_b2, cmp_eq, cmp_le, cmp_lt, cmp_gt, cmp_ge, mx_I, mn_I, mx_L, mn_L, az_I, if_true, if_false, not_true_eq_false, not_false_eq_true, Bool.false_eq_true, i_0, i_1, i_2, i_3, i_4, i_5, i_6, i_7, i_8, i_9, i_10, i_11, i_12, i_16, i_18, i_20, i_24, i_28, i_29, i_30, i_31, i_32, i_33, i_34, i_35, i_37, i_40, i_41, i_42, i_43, i_45, i_46, i_47, i_48, i_57, i_59, i_63, i_64, i_96, i_97, i_98, i_99, i_100, i_101, i_102, i_103, i_104, i_105, i_106, i_107, i_108, i_109, i_110, i_111, i_112, i_113, i_122, i_200, i_255, i_256, i_257, i_258, i_355, i_400, i_999, i_1000, i_1200, i_5680, i_9999, i_10000, i_99999, j_0, j_1, j_2, j_3, j_4, j_5, j_6, j_9, j_10, j_11, j_98, j_99, j_100, j_999, j_1000, j_9999, j_10000, j_99999, j_1000000, t2, h20]
    have hr : fX11_feed N (v 1) (v 2) (v 3) (v 4) (v 5) ν = some (I_ (-1), stI ν 0 0 (I_ 0)) := by
      simp (disch := omega) only [fX11_feed, Int.reduceEq, Int.reduceNe, Int.reduceLT, Int.reduceLE, Int.reduceAdd, Int.reduceSub, Int.reduceMul, Int.reduceNeg, Int.zero_add, Int.add_zero, nm_eq, bd_some, bv_some, aI_ok, aL_ok, aS_ok, dv_ok, dw_ok, I_add, I_sub, I_mul, I_neg, I_lt, I_le, I_eq, I_nat, J_add, J_sub, J_mul, J_neg, J_lt, J_le, J_eq, I_l, J_i, I_div, J_div, b2_0, b2_1, b2_nar, nar_0, nar_1, zr_0, zr_1, zr_b2, cmp_eq, cmp_le, cmp_lt, cmp_gt, cmp_ge, mx_I, mn_I, mx_L, mn_L, az_I, if_true, if_false, not_true_eq_false, not_false_eq_true, Bool.false_eq_true, i_0, i_1, i_2, i_3, i_4, i_5, i_6, i_7, i_8, i_9, i_10, i_11, i_12, i_16, i_18, i_20, i_24, i_28, i_29, i_30, i_31, i_32, i_33, i_34, i_35, i_37, i_40, i_41, i_42, i_43, i_45, i_46, i_47, i_48, i_57, i_59, i_63, i_64, i_96, i_97, i_98, i_99, i_100, i_101, i_102, i_103, i_104, i_105, i_106, i_107, i_108, i_109, i_110, i_111, i_112, i_113, i_122, i_200, i_255, i_256, i_257, i_258, i_355, i_400, i_999, i_1000, i_1200, i_5680, i_9999, i_10000, i_99999, j_0, j_1, j_2, j_3, j_4, j_5, j_6, j_9, j_10, j_11, j_98, j_99, j_100, j_999, j_1000, j_9999, j_10000, j_99999, j_1000000, st_I, st_I2, st_L1, st_L2, st_R1, st_R2, Nat.reduceEqDiff, Nat.reduceAdd, and_true, true_and, and_false, false_and, and_self, if_false, if_true, t3, h20]
    simp (disch := omega) only [lawC0, Int.reduceEq, Int.reduceNe, Int.reduceLT, Int.reduceLE, Int.reduceAdd, Int.reduceSub, Int.reduceMul, Int.reduceNeg, Int.zero_add, Int.add_zero, nm_eq, bd_some, bv_some, aI_ok, aL_ok, aS_ok, dv_ok, dw_ok, I_add, I_sub, I_mul, I_neg, I_lt, I_le, I_eq, I_nat, J_add, J_sub, J_mul, J_neg, J_lt, J_le, J_eq, I_l, J_i, I_div, J_div, b2_0, b2_1, b2_nar, nar_0, nar_1, zr_0, zr_1, zr_b2, cmp_eq, cmp_le, cmp_lt, cmp_gt, cmp_ge, mx_I, mn_I, mx_L, mn_L, az_I, if_true, if_false, not_true_eq_false, not_false_eq_true, Bool.false_eq_true, i_0, i_1, i_2, i_3, i_4, i_5, i_6, i_7, i_8, i_9, i_10, i_11, i_12, i_16, i_18, i_20, i_24, i_28, i_29, i_30, i_31, i_32, i_33, i_34, i_35, i_37, i_40, i_41, i_42, i_43, i_45, i_46, i_47, i_48, i_57, i_59, i_63, i_64, i_96, i_97, i_98, i_99, i_100, i_101, i_102, i_103, i_104, i_105, i_106, i_107, i_108, i_109, i_110, i_111, i_112, i_113, i_122, i_200, i_255, i_256, i_257, i_258, i_355, i_400, i_999, i_1000, i_1200, i_5680, i_9999, i_10000, i_99999, j_0, j_1, j_2, j_3, j_4, j_5, j_6, j_9, j_10, j_11, j_98, j_99, j_100, j_999, j_1000, j_9999, j_10000, j_99999, j_1000000, hc, hr]
end
