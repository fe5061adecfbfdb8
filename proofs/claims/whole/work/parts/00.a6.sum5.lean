/-! terms and sums -/
section
variable {T : Int → Int} {n : Int} {N b : Nat} {q0 ad d : Int} {rs : Int32 → Mem → Option (Unit × Mem)}
theorem simTL (hT : tB T n) (hN : 500 ≤ N) (hb : kB b) (hz : 0 ≤ q0) (a0 : 0 ≤ ad) (a2 : ad ≤ 2) (hA : SimA T n N b q0 ad rs d) : ∀ (dd m : Nat) (i s : Int) (K q W : List Int) (μ ν : Mem), n - s ≤ dd → dd < m → 0 ≤ i → i + 1 ≤ s → CSt T n b q0 s (-1) (K ++ q) μ → RSt T n ad s (-1) K (q ++ W) d ν → (∀ c ∈ q, isO c ∧ 2 ≤ bnd c) → (∀ w W', W = w :: W' → bnd w < 2) → q0 + K.length + (q ++ W).length ≤ s → SimG 2 2 T n N b q0 ad (fX5_readTerm_7 N rs m (I_ d) (I_ i)) 0 d s K q W μ ν 0 := by
  have n1 := hT.2.1
  have hgB : ∀ {β : Type} (k : Nat → Option β), gB b k = k b := fun k => if_pos hb
  intro dd
  induction dd with
  | zero =>
    intro m i s K q W μ ν h1 h2 h3 h4 hc hr hq hW hl
    obtain ⟨m, rfl⟩ : ∃ mm, m = mm + 1 := ⟨m - 1, by omega⟩
    have ci := hc.1.in_
    have hi : ¬ 400 ≤ i := by omega
    have ks : kd T n s = 258 := by unfold kd; rw [if_neg (by omega)]
    refine ⟨μ, s, -1, ?_, Fr.rf, Or.inl ⟨rfl, [], K, q, ?_, hq, by omega, fun q => absurd q (by omega), ?_, fun h _ _ => rfl, hl, ⟨by omega, by omega, fun q => absurd q (by omega)⟩, ν, 0, by omega, fun m => rfl, hr, Fr.rf⟩⟩
    · simp (disch := omega) only [fX5_readTerm_7, Int.reduceEq, Int.reduceNe, Int.reduceLT, Int.reduceLE, Int.reduceAdd, Int.reduceSub, Int.reduceMul, Int.reduceNeg, Int.zero_add, Int.add_zero, nm_eq, bd_some, bv_some, aI_ok, aL_ok, aS_ok, dv_ok, dw_ok, I_add, I_sub, I_mul, I_neg, I_lt, I_le, I_eq, I_nat, J_add, J_sub, J_mul, J_neg, J_lt, J_le, J_eq, I_l, J_i, I_div, J_div, b2_0, b2_1, b2_nar, nar_0, nar_1, zr_0, zr_1, zr_b2, cmp_eq, cmp_le, cmp_lt, cmp_gt, cmp_ge, mx_I, mn_I, mx_L, mn_L, az_I, if_true, if_false, not_true_eq_false, not_false_eq_true, Bool.false_eq_true, i_0, i_1, i_2, i_3, i_4, i_5, i_6, i_7, i_8, i_9, i_10, i_11, i_12, i_16, i_18, i_20, i_24, i_28, i_29, i_30, i_31, i_32, i_33, i_34, i_35, i_37, i_40, i_41, i_42, i_43, i_45, i_46, i_47, i_48, i_57, i_59, i_63, i_64, i_96, i_97, i_98, i_99, i_100, i_101, i_102, i_103, i_104, i_105, i_106, i_107, i_108, i_109, i_110, i_111, i_112, i_113, i_122, i_200, i_255, i_256, i_257, i_258, i_355, i_400, i_999, i_1000, i_1200, i_5680, i_9999, i_10000, i_99999, j_0, j_1, j_2, j_3, j_4, j_5, j_6, j_9, j_10, j_11, j_98, j_99, j_100, j_999, j_1000, j_9999, j_10000, j_99999, j_1000000, hi, hc.1.2.1, hc.1.2.2.2.1, ks]
    · rw [List.append_nil]
    · rw [List.append_nil]; exact hc
  | succ dd ih =>
    intro m i s K q W μ ν h1 h2 h3 h4 hc hr hq hW hl
    obtain ⟨m, rfl⟩ : ∃ mm, m = mm + 1 := ⟨m - 1, by omega⟩
    have ci := hc.1.in_
    have hi : ¬ 400 ≤ i := by omega
    have kb := kd_in hT s
    by_cases hs : kd T n s = 42 ∨ kd T n s = 47
    · obtain ⟨c, o, so, ob, kc⟩ : ∃ c o, sgo c o ∧ bnd o = 2 ∧ kd T n s = c := by
        rcases hs with e | e
        · exact ⟨42, -8, by unfold sgo; omega, rfl, e⟩
        · exact ⟨47, -9, by unfold sgo; omega, rfl, e⟩
      have e56 : fX5_readTerm_7 N rs (m + 1) (I_ d) (I_ i) μ = fX5_readTerm_56 N rs (fun v1 v2 μ => fX5_readTerm_7 N rs m v1 v2 μ) (I_ d) (I_ i) (I_ o) μ := by
        unfold sgo at so
        rcases hs with e | e
        · have : o = -8 := by omega
          subst this
          simp (disch := omega) only [fX5_readTerm_7, Int.reduceEq, Int.reduceNe, Int.reduceLT, Int.reduceLE, Int.reduceAdd, Int.reduceSub, Int.reduceMul, Int.reduceNeg, Int.zero_add, Int.add_zero, nm_eq, bd_some, bv_some, aI_ok, aL_ok, aS_ok, dv_ok, dw_ok, I_add, I_sub, I_mul, I_neg, I_lt, I_le, I_eq, I_nat, J_add, J_sub, J_mul, J_neg, J_lt, J_le, J_eq, I_l, J_i, I_div, J_div, b2_0, b2_1, b2_nar, nar_0, nar_1, zr_0, zr_1, zr_b2, cmp_eq, cmp_le, cmp_lt, cmp_gt, cmp_ge, mx_I, mn_I, mx_L, mn_L, az_I, if_true, if_false, not_true_eq_false, not_false_eq_true, Bool.false_eq_true, i_0, i_1, i_2, i_3, i_4, i_5, i_6, i_7, i_8, i_9, i_10, i_11, i_12, i_16, i_18, i_20, i_24, i_28, i_29, i_30, i_31, i_32, i_33, i_34, i_35, i_37, i_40, i_41, i_42, i_43, i_45, i_46, i_47, i_48, i_57, i_59, i_63, i_64, i_96, i_97, i_98, i_99, i_100, i_101, i_102, i_103, i_104, i_105, i_106, i_107, i_108, i_109, i_110, i_111, i_112, i_113, i_122, i_200, i_255, i_256, i_257, i_258, i_355, i_400, i_999, i_1000, i_1200, i_5680, i_9999, i_10000, i_99999, j_0, j_1, j_2, j_3, j_4, j_5, j_6, j_9, j_10, j_11, j_98, j_99, j_100, j_999, j_1000, j_9999, j_10000, j_99999, j_1000000, hi, hc.1.2.1, hc.1.2.2.2.1, e]
        · have : o = -9 := by omega
          subst this
          simp (disch := omega) only [fX5_readTerm_7, Int.reduceEq, Int.reduceNe, Int.reduceLT, Int.reduceLE, Int.reduceAdd, Int.reduceSub, Int.reduceMul, Int.reduceNeg, Int.zero_add, Int.add_zero, nm_eq, bd_some, bv_some, aI_ok, aL_ok, aS_ok, dv_ok, dw_ok, I_add, I_sub, I_mul, I_neg, I_lt, I_le, I_eq, I_nat, J_add, J_sub, J_mul, J_neg, J_lt, J_le, J_eq, I_l, J_i, I_div, J_div, b2_0, b2_1, b2_nar, nar_0, nar_1, zr_0, zr_1, zr_b2, cmp_eq, cmp_le, cmp_lt, cmp_gt, cmp_ge, mx_I, mn_I, mx_L, mn_L, az_I, if_true, if_false, not_true_eq_false, not_false_eq_true, Bool.false_eq_true, i_0, i_1, i_2, i_3, i_4, i_5, i_6, i_7, i_8, i_9, i_10, i_11, i_12, i_16, i_18, i_20, i_24, i_28, i_29, i_30, i_31, i_32, i_33, i_34, i_35, i_37, i_40, i_41, i_42, i_43, i_45, i_46, i_47, i_48, i_57, i_59, i_63, i_64, i_96, i_97, i_98, i_99, i_100, i_101, i_102, i_103, i_104, i_105, i_106, i_107, i_108, i_109, i_110, i_111, i_112, i_113, i_122, i_200, i_255, i_256, i_257, i_258, i_355, i_400, i_999, i_1000, i_1200, i_5680, i_9999, i_10000, i_99999, j_0, j_1, j_2, j_3, j_4, j_5, j_6, j_9, j_10, j_11, j_98, j_99, j_100, j_999, j_1000, j_9999, j_10000, j_99999, j_1000000, hi, hc.1.2.1, hc.1.2.2.2.1, e]
      obtain ⟨oi, c1, c2, c3⟩ := sgo_in so
      have ks := ((kd_c (s := s) hT c1.1 c1.2 c2 c3).2 kc).1
      have hnx := nx_in (T := T) (n := n) (s := s) (by omega)
      obtain ⟨μ1, e1, e2, e3⟩ := c_step hT hN hc.1
      have hc1 := hc.P1 hb e3 e2 hz
      obtain ⟨ν1, o1, o2, o3⟩ := it_sign (N := N) hT hN a0 a2 so kc (fun x hx => ⟨(hq x hx).1, by rw [ob]; exact (hq x hx).2⟩) (fun w W' e => by rw [ob]; exact hW w W' e) hz hl hr
      have hlq : (q ++ W).length = q.length + W.length := List.length_append
      have hlk : (K ++ q).length = K.length + q.length := List.length_append
      have hlo : (o :: W).length = W.length + 1 := rfl
      obtain ⟨μ2, s2, f2, r1, r2, r3⟩ := hA (nx T n s) (K ++ q) (o :: W) μ1 ν1 hc1 o2 (by omega)
      have g12 : Fr (P_cs b q0) μ μ2 := (e3.mono (fun k j q => P1_cs q)).tr r2
      rcases r3 with ⟨f2e, cs, x1, x2, x3, x4, x5⟩ | ⟨f20, x1, x2⟩
      · obtain ⟨ν2, j, j1, j2, j3, j4⟩ := x5
        have ci2 := x2.1.in_
        obtain ⟨μ3, m1, m2, m3⟩ := c_emit (N := N) hb hz x2 (by omega) o
        have hl1 : ([o] ++ W).length = W.length + 1 := rfl
        obtain ⟨μ4, s4, f4, y1, y2, y3⟩ := ih m (i + 1) s2 ((K ++ q) ++ cs) [o] W μ3 ν2 (by omega) (by omega) (by omega) (by omega) m2 j3 (fun x hx => by rw [List.mem_singleton.mp hx]; exact ⟨oi, by omega⟩) hW (by omega)
        have hrun : fX5_readTerm_7 N rs (m + 1) (I_ d) (I_ i) μ = some ((), μ4) := by
          rw [e56]
          simp (disch := omega) only [fX5_readTerm_56, Int.reduceEq, Int.reduceNe, Int.reduceLT, Int.reduceLE, Int.reduceAdd, Int.reduceSub, Int.reduceMul, Int.reduceNeg, Int.zero_add, Int.add_zero, nm_eq, bd_some, bv_some, aI_ok, aL_ok, aS_ok, dv_ok, dw_ok, I_add, I_sub, I_mul, I_neg, I_lt, I_le, I_eq, I_nat, J_add, J_sub, J_mul, J_neg, J_lt, J_le, J_eq, I_l, J_i, I_div, J_div, b2_0, b2_1, b2_nar, nar_0, nar_1, zr_0, zr_1, zr_b2, cmp_eq, cmp_le, cmp_lt, cmp_gt, cmp_ge, mx_I, mn_I, mx_L, mn_L, az_I, if_true, if_false, not_true_eq_false, not_false_eq_true, Bool.false_eq_true, i_0, i_1, i_2, i_3, i_4, i_5, i_6, i_7, i_8, i_9, i_10, i_11, i_12, i_16, i_18, i_20, i_24, i_28, i_29, i_30, i_31, i_32, i_33, i_34, i_35, i_37, i_40, i_41, i_42, i_43, i_45, i_46, i_47, i_48, i_57, i_59, i_63, i_64, i_96, i_97, i_98, i_99, i_100, i_101, i_102, i_103, i_104, i_105, i_106, i_107, i_108, i_109, i_110, i_111, i_112, i_113, i_122, i_200, i_255, i_256, i_257, i_258, i_355, i_400, i_999, i_1000, i_1200, i_5680, i_9999, i_10000, i_99999, j_0, j_1, j_2, j_3, j_4, j_5, j_6, j_9, j_10, j_11, j_98, j_99, j_100, j_999, j_1000, j_9999, j_10000, j_99999, j_1000000, e1, r1, x2.1.2.2.2.2.2.1, hgB, m1, y1]
        refine ⟨μ4, s4, f4, hrun, (g12.tr m3).tr y2, ?_⟩
        rcases y3 with ⟨f4e, cs', K', p, z1, z2, z3, z4, z5, z6, z7, z8, z9⟩ | ⟨f40, z1, z2⟩
        · have ea : ((K ++ q) ++ cs ++ [o]) ++ cs' = (K ++ q) ++ (cs ++ [o] ++ cs') := by simp only [List.append_assoc]
          rw [ea] at z1 z5
          refine Or.inl ⟨f4e, cs ++ [o] ++ cs', K', p, z1, z2, by omega, fun q => absurd q (by omega), z5, fun h h1 h2 => ?_, z7, z8, OkR.tr (j := j + 1) (s1 := s2) (by omega) (fun m => ?_) (o3.tr j4) z9⟩
          · refine gd_ap _ (gd_ap _ (x3 h h2) (Or.inr ⟨oi, by omega, rfl⟩)) ?_
            exact z6 h (by omega) h2
          · rw [show m + (j + 1) = m + j + 1 by omega, o1, j2]
        · refine Or.inr ⟨f40, z1, BadR.tr (j := j + 1) (s1 := s2) (by omega) (fun m => ?_) (o3.tr j4) z2 (by omega)⟩
          rw [show m + (j + 1) = m + j + 1 by omega, o1, j2]
      · have ci2 := x1.1.in_
        obtain ⟨μ3, m1, m2, m3⟩ := c_emitf (N := N) hb hz x1 o
        obtain ⟨m', rfl⟩ : ∃ m', m = m' + 1 := ⟨m - 1, by omega⟩
        have f2n : ¬ f2 = -1 := by omega
        have hret : fX5_readTerm_7 N rs (m' + 1) (I_ d) (I_ (i + 1)) μ3 = some ((), μ3) := by
          by_cases hi1 : 400 ≤ i + 1
          · simp (disch := omega) only [fX5_readTerm_7, Int.reduceEq, Int.reduceNe, Int.reduceLT, Int.reduceLE, Int.reduceAdd, Int.reduceSub, Int.reduceMul, Int.reduceNeg, Int.zero_add, Int.add_zero, nm_eq, bd_some, bv_some, aI_ok, aL_ok, aS_ok, dv_ok, dw_ok, I_add, I_sub, I_mul, I_neg, I_lt, I_le, I_eq, I_nat, J_add, J_sub, J_mul, J_neg, J_lt, J_le, J_eq, I_l, J_i, I_div, J_div, b2_0, b2_1, b2_nar, nar_0, nar_1, zr_0, zr_1, zr_b2, cmp_eq, cmp_le, cmp_lt, cmp_gt, cmp_ge, mx_I, mn_I, mx_L, mn_L, az_I, if_true, if_false, not_true_eq_false, not_false_eq_true, Bool.false_eq_true, i_0, i_1, i_2, i_3, i_4, i_5, i_6, i_7, i_8, i_9, i_10, i_11, i_12, i_16, i_18, i_20, i_24, i_28, i_29, i_30, i_31, i_32, i_33, i_34, i_35, i_37, i_40, i_41, i_42, i_43, i_45, i_46, i_47, i_48, i_57, i_59, i_63, i_64, i_96, i_97, i_98, i_99, i_100, i_101, i_102, i_103, i_104, i_105, i_106, i_107, i_108, i_109, i_110, i_111, i_112, i_113, i_122, i_200, i_255, i_256, i_257, i_258, i_355, i_400, i_999, i_1000, i_1200, i_5680, i_9999, i_10000, i_99999, j_0, j_1, j_2, j_3, j_4, j_5, j_6, j_9, j_10, j_11, j_98, j_99, j_100, j_999, j_1000, j_9999, j_10000, j_99999, j_1000000, hi1]
          · simp (disch := omega) only [fX5_readTerm_7, Int.reduceEq, Int.reduceNe, Int.reduceLT, Int.reduceLE, Int.reduceAdd, Int.reduceSub, Int.reduceMul, Int.reduceNeg, Int.zero_add, Int.add_zero, nm_eq, bd_some, bv_some, aI_ok, aL_ok, aS_ok, dv_ok, dw_ok, I_add, I_sub, I_mul, I_neg, I_lt, I_le, I_eq, I_nat, J_add, J_sub, J_mul, J_neg, J_lt, J_le, J_eq, I_l, J_i, I_div, J_div, b2_0, b2_1, b2_nar, nar_0, nar_1, zr_0, zr_1, zr_b2, cmp_eq, cmp_le, cmp_lt, cmp_gt, cmp_ge, mx_I, mn_I, mx_L, mn_L, az_I, if_true, if_false, not_true_eq_false, not_false_eq_true, Bool.false_eq_true, i_0, i_1, i_2, i_3, i_4, i_5, i_6, i_7, i_8, i_9, i_10, i_11, i_12, i_16, i_18, i_20, i_24, i_28, i_29, i_30, i_31, i_32, i_33, i_34, i_35, i_37, i_40, i_41, i_42, i_43, i_45, i_46, i_47, i_48, i_57, i_59, i_63, i_64, i_96, i_97, i_98, i_99, i_100, i_101, i_102, i_103, i_104, i_105, i_106, i_107, i_108, i_109, i_110, i_111, i_112, i_113, i_122, i_200, i_255, i_256, i_257, i_258, i_355, i_400, i_999, i_1000, i_1200, i_5680, i_9999, i_10000, i_99999, j_0, j_1, j_2, j_3, j_4, j_5, j_6, j_9, j_10, j_11, j_98, j_99, j_100, j_999, j_1000, j_9999, j_10000, j_99999, j_1000000, hi1, m2.1.2.1, f2n]
        refine ⟨μ3, s2, f2, ?_, g12.tr m3, Or.inr ⟨f20, m2, BadR.tr (j := 1) (s1 := nx T n s) (by omega) o1 o3 x2 (by omega)⟩⟩
        rw [e56]
        simp (disch := omega) only [fX5_readTerm_56, Int.reduceEq, Int.reduceNe, Int.reduceLT, Int.reduceLE, Int.reduceAdd, Int.reduceSub, Int.reduceMul, Int.reduceNeg, Int.zero_add, Int.add_zero, nm_eq, bd_some, bv_some, aI_ok, aL_ok, aS_ok, dv_ok, dw_ok, I_add, I_sub, I_mul, I_neg, I_lt, I_le, I_eq, I_nat, J_add, J_sub, J_mul, J_neg, J_lt, J_le, J_eq, I_l, J_i, I_div, J_div, b2_0, b2_1, b2_nar, nar_0, nar_1, zr_0, zr_1, zr_b2, cmp_eq, cmp_le, cmp_lt, cmp_gt, cmp_ge, mx_I, mn_I, mx_L, mn_L, az_I, if_true, if_false, not_true_eq_false, not_false_eq_true, Bool.false_eq_true, i_0, i_1, i_2, i_3, i_4, i_5, i_6, i_7, i_8, i_9, i_10, i_11, i_12, i_16, i_18, i_20, i_24, i_28, i_29, i_30, i_31, i_32, i_33, i_34, i_35, i_37, i_40, i_41, i_42, i_43, i_45, i_46, i_47, i_48, i_57, i_59, i_63, i_64, i_96, i_97, i_98, i_99, i_100, i_101, i_102, i_103, i_104, i_105, i_106, i_107, i_108, i_109, i_110, i_111, i_112, i_113, i_122, i_200, i_255, i_256, i_257, i_258, i_355, i_400, i_999, i_1000, i_1200, i_5680, i_9999, i_10000, i_99999, j_0, j_1, j_2, j_3, j_4, j_5, j_6, j_9, j_10, j_11, j_98, j_99, j_100, j_999, j_1000, j_9999, j_10000, j_99999, j_1000000, e1, r1, x1.1.2.2.2.2.2.1, hgB, m1, hret]
    · have k42 : ¬ kd T n s = 42 := fun e => hs (Or.inl e)
      have k47 : ¬ kd T n s = 47 := fun e => hs (Or.inr e)
      refine ⟨μ, s, -1, ?_, Fr.rf, Or.inl ⟨rfl, [], K, q, ?_, hq, by omega, fun q => absurd q (by omega), ?_, fun h _ _ => rfl, hl, ⟨k42, k47, fun q => absurd q (by omega)⟩, ν, 0, by omega, fun m => rfl, hr, Fr.rf⟩⟩
      · simp (disch := omega) only [fX5_readTerm_7, Int.reduceEq, Int.reduceNe, Int.reduceLT, Int.reduceLE, Int.reduceAdd, Int.reduceSub, Int.reduceMul, Int.reduceNeg, Int.zero_add, Int.add_zero, nm_eq, bd_some, bv_some, aI_ok, aL_ok, aS_ok, dv_ok, dw_ok, I_add, I_sub, I_mul, I_neg, I_lt, I_le, I_eq, I_nat, J_add, J_sub, J_mul, J_neg, J_lt, J_le, J_eq, I_l, J_i, I_div, J_div, b2_0, b2_1, b2_nar, nar_0, nar_1, zr_0, zr_1, zr_b2, cmp_eq, cmp_le, cmp_lt, cmp_gt, cmp_ge, mx_I, mn_I, mx_L, mn_L, az_I, if_true, if_false, not_true_eq_false, not_false_eq_true, Bool.false_eq_true, i_0, i_1, i_2, i_3, i_4, i_5, i_6, i_7, i_8, i_9, i_10, i_11, i_12, i_16, i_18, i_20, i_24, i_28, i_29, i_30, i_31, i_32, i_33, i_34, i_35, i_37, i_40, i_41, i_42, i_43, i_45, i_46, i_47, i_48, i_57, i_59, i_63, i_64, i_96, i_97, i_98, i_99, i_100, i_101, i_102, i_103, i_104, i_105, i_106, i_107, i_108, i_109, i_110, i_111, i_112, i_113, i_122, i_200, i_255, i_256, i_257, i_258, i_355, i_400, i_999, i_1000, i_1200, i_5680, i_9999, i_10000, i_99999, j_0, j_1, j_2, j_3, j_4, j_5, j_6, j_9, j_10, j_11, j_98, j_99, j_100, j_999, j_1000, j_9999, j_10000, j_99999, j_1000000, hi, hc.1.2.1, hc.1.2.2.2.1, k42, k47]
      · rw [List.append_nil]
      · rw [List.append_nil]; exact hc
theorem simT (hT : tB T n) (hN : 500 ≤ N) (hb : kB b) (hz : 0 ≤ q0) (a0 : 0 ≤ ad) (a2 : ad ≤ 2) (hA : SimA T n N b q0 ad rs d) {s : Int} {K W : List Int} {μ ν : Mem} (hc : CSt T n b q0 s (-1) K μ) (hr : RSt T n ad s (-1) K W d ν) (hl : q0 + K.length + W.length ≤ s) (hW : ∀ w W', W = w :: W' → bnd w < 2) : SimG 2 1 T n N b q0 ad (fX5_readTerm N rs (I_ d)) 1 d s K [] W μ ν 1 := by
  have n1 := hT.2.1
  have ci := hc.1.in_
  obtain ⟨μ2, s2, f2, r1, r2, r3⟩ := hA s K W μ ν hc hr hl
  rcases r3 with ⟨f2e, cs, x1, x2, x3, x4, x5⟩ | ⟨f20, x1, x2⟩
  · obtain ⟨ν2, j, j1, j2, j3, j4⟩ := x5
    have ci2 := x2.1.in_
    have hc2 : CSt T n b q0 s2 (-1) ((K ++ cs) ++ []) μ2 := by rw [List.append_nil]; exact x2
    obtain ⟨μ4, s4, f4, y1, y2, y3⟩ := simTL hT hN hb hz a0 a2 hA (n - s2).toNat N 0 s2 (K ++ cs) [] W μ2 ν2 (by omega) (by omega) (by omega) (by omega) hc2 j3 (fun x hx => by cases hx) hW (by show q0 + (K ++ cs).length + W.length ≤ s2; omega)
    refine ⟨μ4, s4, f4, ?_, r2.tr y2, ?_⟩
    · simp (disch := omega) only [fX5_readTerm, Int.reduceEq, Int.reduceNe, Int.reduceLT, Int.reduceLE, Int.reduceAdd, Int.reduceSub, Int.reduceMul, Int.reduceNeg, Int.zero_add, Int.add_zero, nm_eq, bd_some, bv_some, aI_ok, aL_ok, aS_ok, dv_ok, dw_ok, I_add, I_sub, I_mul, I_neg, I_lt, I_le, I_eq, I_nat, J_add, J_sub, J_mul, J_neg, J_lt, J_le, J_eq, I_l, J_i, I_div, J_div, b2_0, b2_1, b2_nar, nar_0, nar_1, zr_0, zr_1, zr_b2, cmp_eq, cmp_le, cmp_lt, cmp_gt, cmp_ge, mx_I, mn_I, mx_L, mn_L, az_I, if_true, if_false, not_true_eq_false, not_false_eq_true, Bool.false_eq_true, i_0, i_1, i_2, i_3, i_4, i_5, i_6, i_7, i_8, i_9, i_10, i_11, i_12, i_16, i_18, i_20, i_24, i_28, i_29, i_30, i_31, i_32, i_33, i_34, i_35, i_37, i_40, i_41, i_42, i_43, i_45, i_46, i_47, i_48, i_57, i_59, i_63, i_64, i_96, i_97, i_98, i_99, i_100, i_101, i_102, i_103, i_104, i_105, i_106, i_107, i_108, i_109, i_110, i_111, i_112, i_113, i_122, i_200, i_255, i_256, i_257, i_258, i_355, i_400, i_999, i_1000, i_1200, i_5680, i_9999, i_10000, i_99999, j_0, j_1, j_2, j_3, j_4, j_5, j_6, j_9, j_10, j_11, j_98, j_99, j_100, j_999, j_1000, j_9999, j_10000, j_99999, j_1000000, r1, y1]
    rcases y3 with ⟨f4e, cs', K', p, z1, z2, z3, z4, z5, z6, z7, z8, z9⟩ | ⟨f40, z1, z2⟩
    · have ea : ((K ++ cs) ++ []) ++ cs' = (K ++ []) ++ (cs ++ cs') := by simp only [List.append_assoc, List.append_nil, List.nil_append]
      rw [ea] at z1 z5
      refine Or.inl ⟨f4e, cs ++ cs', K', p, z1, z2, by omega, fun _ => by omega, z5, fun h h1 h2 => ?_, z7, z8, OkR.tr (s1 := s2) j1 j2 j4 z9⟩
      exact gd_ap _ (x3 h (by omega)) (z6 (h + 1) (by omega) (by omega))
    · exact Or.inr ⟨f40, z1, BadR.tr (s1 := s2) j1 j2 j4 z2 (by omega)⟩
  · obtain ⟨m', hm'⟩ : ∃ m', N = m' + 1 := ⟨N - 1, by omega⟩
    have ci2 := x1.1.in_
    have f2n : ¬ f2 = -1 := by omega
    have hret : ∀ m, fX5_readTerm_7 N rs (m + 1) (I_ d) (I_ 0) μ2 = some ((), μ2) := fun m => by
      simp (disch := omega) only [fX5_readTerm_7, Int.reduceEq, Int.reduceNe, Int.reduceLT, Int.reduceLE, Int.reduceAdd, Int.reduceSub, Int.reduceMul, Int.reduceNeg, Int.zero_add, Int.add_zero, nm_eq, bd_some, bv_some, aI_ok, aL_ok, aS_ok, dv_ok, dw_ok, I_add, I_sub, I_mul, I_neg, I_lt, I_le, I_eq, I_nat, J_add, J_sub, J_mul, J_neg, J_lt, J_le, J_eq, I_l, J_i, I_div, J_div, b2_0, b2_1, b2_nar, nar_0, nar_1, zr_0, zr_1, zr_b2, cmp_eq, cmp_le, cmp_lt, cmp_gt, cmp_ge, mx_I, mn_I, mx_L, mn_L, az_I, if_true, if_false, not_true_eq_false, not_false_eq_true, Bool.false_eq_true, i_0, i_1, i_2, i_3, i_4, i_5, i_6, i_7, i_8, i_9, i_10, i_11, i_12, i_16, i_18, i_20, i_24, i_28, i_29, i_30, i_31, i_32, i_33, i_34, i_35, i_37, i_40, i_41, i_42, i_43, i_45, i_46, i_47, i_48, i_57, i_59, i_63, i_64, i_96, i_97, i_98, i_99, i_100, i_101, i_102, i_103, i_104, i_105, i_106, i_107, i_108, i_109, i_110, i_111, i_112, i_113, i_122, i_200, i_255, i_256, i_257, i_258, i_355, i_400, i_999, i_1000, i_1200, i_5680, i_9999, i_10000, i_99999, j_0, j_1, j_2, j_3, j_4, j_5, j_6, j_9, j_10, j_11, j_98, j_99, j_100, j_999, j_1000, j_9999, j_10000, j_99999, j_1000000, x1.1.2.1, f2n]
    have hret' := hret m'
    rw [← hm'] at hret'
    refine ⟨μ2, s2, f2, ?_, r2, Or.inr ⟨f20, x1, x2⟩⟩
    simp (disch := omega) only [fX5_readTerm, Int.reduceEq, Int.reduceNe, Int.reduceLT, Int.reduceLE, Int.reduceAdd, Int.reduceSub, Int.reduceMul, Int.reduceNeg, Int.zero_add, Int.add_zero, nm_eq, bd_some, bv_some, aI_ok, aL_ok, aS_ok, dv_ok, dw_ok, I_add, I_sub, I_mul, I_neg, I_lt, I_le, I_eq, I_nat, J_add, J_sub, J_mul, J_neg, J_lt, J_le, J_eq, I_l, J_i, I_div, J_div, b2_0, b2_1, b2_nar, nar_0, nar_1, zr_0, zr_1, zr_b2, cmp_eq, cmp_le, cmp_lt, cmp_gt, cmp_ge, mx_I, mn_I, mx_L, mn_L, az_I, if_true, if_false, not_true_eq_false, not_false_eq_true, Bool.false_eq_true, i_0, i_1, i_2, i_3, i_4, i_5, i_6, i_7, i_8, i_9, i_10, i_11, i_12, i_16, i_18, i_20, i_24, i_28, i_29, i_30, i_31, i_32, i_33, i_34, i_35, i_37, i_40, i_41, i_42, i_43, i_45, i_46, i_47, i_48, i_57, i_59, i_63, i_64, i_96, i_97, i_98, i_99, i_100, i_101, i_102, i_103, i_104, i_105, i_106, i_107, i_108, i_109, i_110, i_111, i_112, i_113, i_122, i_200, i_255, i_256, i_257, i_258, i_355, i_400, i_999, i_1000, i_1200, i_5680, i_9999, i_10000, i_99999, j_0, j_1, j_2, j_3, j_4, j_5, j_6, j_9, j_10, j_11, j_98, j_99, j_100, j_999, j_1000, j_9999, j_10000, j_99999, j_1000000, r1, hret']
theorem simSL (hT : tB T n) (hN : 500 ≤ N) (hb : kB b) (hz : 0 ≤ q0) (a0 : 0 ≤ ad) (a2 : ad ≤ 2) (hA : SimA T n N b q0 ad rs d) : ∀ (dd m : Nat) (i s : Int) (K q W : List Int) (μ ν : Mem), n - s ≤ dd → dd < m → 0 ≤ i → i + 1 ≤ s → CSt T n b q0 s (-1) (K ++ q) μ → RSt T n ad s (-1) K (q ++ W) d ν → (∀ c ∈ q, isO c ∧ 1 ≤ bnd c) → (∀ w W', W = w :: W' → bnd w < 1) → q0 + K.length + (q ++ W).length ≤ s → (¬ kd T n s = 42 ∧ ¬ kd T n s = 47) → SimG 1 1 T n N b q0 ad (fX5_readSum_7 N rs m (I_ d) (I_ i)) 0 d s K q W μ ν 0 := by
  have n1 := hT.2.1
  have hgB : ∀ {β : Type} (k : Nat → Option β), gB b k = k b := fun k => if_pos hb
  intro dd
  induction dd with
  | zero =>
    intro m i s K q W μ ν h1 h2 h3 h4 hc hr hq hW hl hk
    obtain ⟨m, rfl⟩ : ∃ mm, m = mm + 1 := ⟨m - 1, by omega⟩
    have ci := hc.1.in_
    have hi : ¬ 400 ≤ i := by omega
    have ks : kd T n s = 258 := by unfold kd; rw [if_neg (by omega)]
    refine ⟨μ, s, -1, ?_, Fr.rf, Or.inl ⟨rfl, [], K, q, ?_, hq, by omega, fun q => absurd q (by omega), ?_, fun h _ _ => rfl, hl, ⟨by omega, by omega, fun q => ⟨by omega, by omega⟩⟩, ν, 0, by omega, fun m => rfl, hr, Fr.rf⟩⟩
    · simp (disch := omega) only [fX5_readSum_7, Int.reduceEq, Int.reduceNe, Int.reduceLT, Int.reduceLE, Int.reduceAdd, Int.reduceSub, Int.reduceMul, Int.reduceNeg, Int.zero_add, Int.add_zero, nm_eq, bd_some, bv_some, aI_ok, aL_ok, aS_ok, dv_ok, dw_ok, I_add, I_sub, I_mul, I_neg, I_lt, I_le, I_eq, I_nat, J_add, J_sub, J_mul, J_neg, J_lt, J_le, J_eq, I_l, J_i, I_div, J_div, b2_0, b2_1, b2_nar, nar_0, nar_1, zr_0, zr_1, zr_b2, cmp_eq, cmp_le, cmp_lt, cmp_gt, cmp_ge, mx_I, mn_I, mx_L, mn_L, az_I, if_true, if_false, not_true_eq_false, not_false_eq_true, Bool.false_eq_true, i_0, i_1, i_2, i_3, i_4, i_5, i_6, i_7, i_8, i_9, i_10, i_11, i_12, i_16, i_18, i_20, i_24, i_28, i_29, i_30, i_31, i_32, i_33, i_34, i_35, i_37, i_40, i_41, i_42, i_43, i_45, i_46, i_47, i_48, i_57, i_59, i_63, i_64, i_96, i_97, i_98, i_99, i_100, i_101, i_102, i_103, i_104, i_105, i_106, i_107, i_108, i_109, i_110, i_111, i_112, i_113, i_122, i_200, i_255, i_256, i_257, i_258, i_355, i_400, i_999, i_1000, i_1200, i_5680, i_9999, i_10000, i_99999, j_0, j_1, j_2, j_3, j_4, j_5, j_6, j_9, j_10, j_11, j_98, j_99, j_100, j_999, j_1000, j_9999, j_10000, j_99999, j_1000000, hi, hc.1.2.1, hc.1.2.2.2.1, ks]
    · rw [List.append_nil]
    · rw [List.append_nil]; exact hc
  | succ dd ih =>
    intro m i s K q W μ ν h1 h2 h3 h4 hc hr hq hW hl hk
    obtain ⟨m, rfl⟩ : ∃ mm, m = mm + 1 := ⟨m - 1, by omega⟩
    have ci := hc.1.in_
    have hi : ¬ 400 ≤ i := by omega
    have kb := kd_in hT s
    by_cases hs : kd T n s = 43 ∨ kd T n s = 45
    · obtain ⟨c, o, so, ob, kc⟩ : ∃ c o, sgo c o ∧ bnd o = 1 ∧ kd T n s = c := by
        rcases hs with e | e
        · exact ⟨43, -6, by unfold sgo; omega, rfl, e⟩
        · exact ⟨45, -7, by unfold sgo; omega, rfl, e⟩
      have e56 : fX5_readSum_7 N rs (m + 1) (I_ d) (I_ i) μ = fX5_readSum_56 N rs (fun v1 v2 μ => fX5_readSum_7 N rs m v1 v2 μ) (I_ d) (I_ i) (I_ o) μ := by
        unfold sgo at so
        rcases hs with e | e
        · have : o = -6 := by omega
          subst this
          simp (disch := omega) only [fX5_readSum_7, Int.reduceEq, Int.reduceNe, Int.reduceLT, Int.reduceLE, Int.reduceAdd, Int.reduceSub, Int.reduceMul, Int.reduceNeg, Int.zero_add, Int.add_zero, nm_eq, bd_some, bv_some, aI_ok, aL_ok, aS_ok, dv_ok, dw_ok, I_add, I_sub, I_mul, I_neg, I_lt, I_le, I_eq, I_nat, J_add, J_sub, J_mul, J_neg, J_lt, J_le, J_eq, I_l, J_i, I_div, J_div, b2_0, b2_1, b2_nar, nar_0, nar_1, zr_0, zr_1, zr_b2, cmp_eq, cmp_le, cmp_lt, cmp_gt, cmp_ge, mx_I, mn_I, mx_L, mn_L, az_I, if_true, if_false, not_true_eq_false, not_false_eq_true, Bool.false_eq_true, i_0, i_1, i_2, i_3, i_4, i_5, i_6, i_7, i_8, i_9, i_10, i_11, i_12, i_16, i_18, i_20, i_24, i_28, i_29, i_30, i_31, i_32, i_33, i_34, i_35, i_37, i_40, i_41, i_42, i_43, i_45, i_46, i_47, i_48, i_57, i_59, i_63, i_64, i_96, i_97, i_98, i_99, i_100, i_101, i_102, i_103, i_104, i_105, i_106, i_107, i_108, i_109, i_110, i_111, i_112, i_113, i_122, i_200, i_255, i_256, i_257, i_258, i_355, i_400, i_999, i_1000, i_1200, i_5680, i_9999, i_10000, i_99999, j_0, j_1, j_2, j_3, j_4, j_5, j_6, j_9, j_10, j_11, j_98, j_99, j_100, j_999, j_1000, j_9999, j_10000, j_99999, j_1000000, hi, hc.1.2.1, hc.1.2.2.2.1, e]
        · have : o = -7 := by omega
          subst this
          simp (disch := omega) only [fX5_readSum_7, Int.reduceEq, Int.reduceNe, Int.reduceLT, Int.reduceLE, Int.reduceAdd, Int.reduceSub, Int.reduceMul, Int.reduceNeg, Int.zero_add, Int.add_zero, nm_eq, bd_some, bv_some, aI_ok, aL_ok, aS_ok, dv_ok, dw_ok, I_add, I_sub, I_mul, I_neg, I_lt, I_le, I_eq, I_nat, J_add, J_sub, J_mul, J_neg, J_lt, J_le, J_eq, I_l, J_i, I_div, J_div, b2_0, b2_1, b2_nar, nar_0, nar_1, zr_0, zr_1, zr_b2, cmp_eq, cmp_le, cmp_lt, cmp_gt, cmp_ge, mx_I, mn_I, mx_L, mn_L, az_I, if_true, if_false, not_true_eq_false, not_false_eq_true, Bool.false_eq_true, i_0, i_1, i_2, i_3, i_4, i_5, i_6, i_7, i_8, i_9, i_10, i_11, i_12, i_16, i_18, i_20, i_24, i_28, i_29, i_30, i_31, i_32, i_33, i_34, i_35, i_37, i_40, i_41, i_42, i_43, i_45, i_46, i_47, i_48, i_57, i_59, i_63, i_64, i_96, i_97, i_98, i_99, i_100, i_101, i_102, i_103, i_104, i_105, i_106, i_107, i_108, i_109, i_110, i_111, i_112, i_113, i_122, i_200, i_255, i_256, i_257, i_258, i_355, i_400, i_999, i_1000, i_1200, i_5680, i_9999, i_10000, i_99999, j_0, j_1, j_2, j_3, j_4, j_5, j_6, j_9, j_10, j_11, j_98, j_99, j_100, j_999, j_1000, j_9999, j_10000, j_99999, j_1000000, hi, hc.1.2.1, hc.1.2.2.2.1, e]
      obtain ⟨oi, c1, c2, c3⟩ := sgo_in so
      have ks := ((kd_c (s := s) hT c1.1 c1.2 c2 c3).2 kc).1
      have hnx := nx_in (T := T) (n := n) (s := s) (by omega)
      obtain ⟨μ1, e1, e2, e3⟩ := c_step hT hN hc.1
      have hc1 := hc.P1 hb e3 e2 hz
      obtain ⟨ν1, o1, o2, o3⟩ := it_sign (N := N) hT hN a0 a2 so kc (fun x hx => ⟨(hq x hx).1, by rw [ob]; exact (hq x hx).2⟩) (fun w W' e => by rw [ob]; exact hW w W' e) hz hl hr
      have hlq : (q ++ W).length = q.length + W.length := List.length_append
      have hlk : (K ++ q).length = K.length + q.length := List.length_append
      have hlo : (o :: W).length = W.length + 1 := rfl
      obtain ⟨μ2, s2, f2, r1, r2, r3⟩ := simT hT hN hb hz a0 a2 hA hc1 o2 (by omega) (fun w W' e => by have := (List.cons.inj e).1; rw [← this, ob]; decide)
      have g12 : Fr (P_cs b q0) μ μ2 := (e3.mono (fun k j q => P1_cs q)).tr r2
      rcases r3 with ⟨f2e, cs, K1, p1, x1, x2, x3, x4, x5, x6, x7, x8, x9⟩ | ⟨f20, x1, x2⟩
      · rw [List.append_nil] at x1 x5
        obtain ⟨ν2, j, j1, j2, j3, j4⟩ := x9
        have ci2 := x5.1.in_
        have hl2 : ((K ++ q) ++ cs).length = K1.length + p1.length := by rw [x1, List.length_append]
        have hl3 : (p1 ++ (o :: W)).length = p1.length + (W.length + 1) := List.length_append
        have x4' := x4 rfl
        obtain ⟨μ3, m1, m2, m3⟩ := c_emit (N := N) hb hz x5 (by omega) o
        have hm2 : CSt T n b q0 s2 (-1) (K1 ++ (p1 ++ [o])) μ3 := by rw [← List.append_assoc, ← x1]; exact m2
        have hr2 : RSt T n ad s2 (-1) K1 ((p1 ++ [o]) ++ W) d ν2 := by rw [List.append_assoc]; exact j3
        have hl4 : ((p1 ++ [o]) ++ W).length = p1.length + (W.length + 1) := by rw [List.append_assoc]; exact hl3
        obtain ⟨μ4, s4, f4, y1, y2, y3⟩ := ih m (i + 1) s2 K1 (p1 ++ [o]) W μ3 ν2 (by omega) (by omega) (by omega) (by omega) hm2 hr2 (fun x hx => by
          rcases List.mem_append.mp hx with hx | hx
          · have := x2 x hx; exact ⟨this.1, by omega⟩
          · rw [List.mem_singleton.mp hx]; exact ⟨oi, by omega⟩) hW (by omega) ⟨x8.1, x8.2.1⟩
        have hrun : fX5_readSum_7 N rs (m + 1) (I_ d) (I_ i) μ = some ((), μ4) := by
          rw [e56]
          simp (disch := omega) only [fX5_readSum_56, Int.reduceEq, Int.reduceNe, Int.reduceLT, Int.reduceLE, Int.reduceAdd, Int.reduceSub, Int.reduceMul, Int.reduceNeg, Int.zero_add, Int.add_zero, nm_eq, bd_some, bv_some, aI_ok, aL_ok, aS_ok, dv_ok, dw_ok, I_add, I_sub, I_mul, I_neg, I_lt, I_le, I_eq, I_nat, J_add, J_sub, J_mul, J_neg, J_lt, J_le, J_eq, I_l, J_i, I_div, J_div, b2_0, b2_1, b2_nar, nar_0, nar_1, zr_0, zr_1, zr_b2, cmp_eq, cmp_le, cmp_lt, cmp_gt, cmp_ge, mx_I, mn_I, mx_L, mn_L, az_I, if_true, if_false, not_true_eq_false, not_false_eq_true, Bool.false_eq_true, i_0, i_1, i_2, i_3, i_4, i_5, i_6, i_7, i_8, i_9, i_10, i_11, i_12, i_16, i_18, i_20, i_24, i_28, i_29, i_30, i_31, i_32, i_33, i_34, i_35, i_37, i_40, i_41, i_42, i_43, i_45, i_46, i_47, i_48, i_57, i_59, i_63, i_64, i_96, i_97, i_98, i_99, i_100, i_101, i_102, i_103, i_104, i_105, i_106, i_107, i_108, i_109, i_110, i_111, i_112, i_113, i_122, i_200, i_255, i_256, i_257, i_258, i_355, i_400, i_999, i_1000, i_1200, i_5680, i_9999, i_10000, i_99999, j_0, j_1, j_2, j_3, j_4, j_5, j_6, j_9, j_10, j_11, j_98, j_99, j_100, j_999, j_1000, j_9999, j_10000, j_99999, j_1000000, e1, r1, x5.1.2.2.2.2.2.1, hgB, m1, y1]
        refine ⟨μ4, s4, f4, hrun, (g12.tr m3).tr y2, ?_⟩
        rcases y3 with ⟨f4e, cs', K', p, z1, z2, z3, z4, z5, z6, z7, z8, z9⟩ | ⟨f40, z1, z2⟩
        · have ea : (K1 ++ (p1 ++ [o])) ++ cs' = (K ++ q) ++ (cs ++ [o] ++ cs') := by
            rw [← List.append_assoc K1, ← x1]
            simp only [List.append_assoc]
          rw [ea] at z1 z5
          refine Or.inl ⟨f4e, cs ++ [o] ++ cs', K', p, z1, z2, by omega, fun q => absurd q (by omega), z5, fun h h1 h2 => ?_, z7, z8, OkR.tr (j := j + 1) (s1 := s2) (by omega) (fun m => ?_) (o3.tr j4) z9⟩
          · refine gd_ap _ (gd_ap _ (x6 h (by omega) (by omega)) (Or.inr ⟨oi, by omega, rfl⟩)) ?_
            exact z6 h (by omega) h2
          · rw [show m + (j + 1) = m + j + 1 by omega, o1, j2]
        · refine Or.inr ⟨f40, z1, BadR.tr (j := j + 1) (s1 := s2) (by omega) (fun m => ?_) (o3.tr j4) z2 (by omega)⟩
          rw [show m + (j + 1) = m + j + 1 by omega, o1, j2]
      · have ci2 := x1.1.in_
        obtain ⟨μ3, m1, m2, m3⟩ := c_emitf (N := N) hb hz x1 o
        obtain ⟨m', rfl⟩ : ∃ m', m = m' + 1 := ⟨m - 1, by omega⟩
        have f2n : ¬ f2 = -1 := by omega
        have hret : fX5_readSum_7 N rs (m' + 1) (I_ d) (I_ (i + 1)) μ3 = some ((), μ3) := by
          by_cases hi1 : 400 ≤ i + 1
          · simp (disch := omega) only [fX5_readSum_7, Int.reduceEq, Int.reduceNe, Int.reduceLT, Int.reduceLE, Int.reduceAdd, Int.reduceSub, Int.reduceMul, Int.reduceNeg, Int.zero_add, Int.add_zero, nm_eq, bd_some, bv_some, aI_ok, aL_ok, aS_ok, dv_ok, dw_ok, I_add, I_sub, I_mul, I_neg, I_lt, I_le, I_eq, I_nat, J_add, J_sub, J_mul, J_neg, J_lt, J_le, J_eq, I_l, J_i, I_div, J_div, b2_0, b2_1, b2_nar, nar_0, nar_1, zr_0, zr_1, zr_b2, cmp_eq, cmp_le, cmp_lt, cmp_gt, cmp_ge, mx_I, mn_I, mx_L, mn_L, az_I, if_true, if_false, not_true_eq_false, not_false_eq_true, Bool.false_eq_true, i_0, i_1, i_2, i_3, i_4, i_5, i_6, i_7, i_8, i_9, i_10, i_11, i_12, i_16, i_18, i_20, i_24, i_28, i_29, i_30, i_31, i_32, i_33, i_34, i_35, i_37, i_40, i_41, i_42, i_43, i_45, i_46, i_47, i_48, i_57, i_59, i_63, i_64, i_96, i_97, i_98, i_99, i_100, i_101, i_102, i_103, i_104, i_105, i_106, i_107, i_108, i_109, i_110, i_111, i_112, i_113, i_122, i_200, i_255, i_256, i_257, i_258, i_355, i_400, i_999, i_1000, i_1200, i_5680, i_9999, i_10000, i_99999, j_0, j_1, j_2, j_3, j_4, j_5, j_6, j_9, j_10, j_11, j_98, j_99, j_100, j_999, j_1000, j_9999, j_10000, j_99999, j_1000000, hi1]
          · simp (disch := omega) only [fX5_readSum_7, Int.reduceEq, Int.reduceNe, Int.reduceLT, Int.reduceLE, Int.reduceAdd, Int.reduceSub, Int.reduceMul, Int.reduceNeg, Int.zero_add, Int.add_zero, nm_eq, bd_some, bv_some, aI_ok, aL_ok, aS_ok, dv_ok, dw_ok, I_add, I_sub, I_mul, I_neg, I_lt, I_le, I_eq, I_nat, J_add, J_sub, J_mul, J_neg, J_lt, J_le, J_eq, I_l, J_i, I_div, J_div, b2_0, b2_1, b2_nar, nar_0, nar_1, zr_0, zr_1, zr_b2, cmp_eq, cmp_le, cmp_lt, cmp_gt, cmp_ge, mx_I, mn_I, mx_L, mn_L, az_I, if_true, if_false, not_true_eq_false, not_false_eq_true, Bool.false_eq_true, i_0, i_1, i_2, i_3, i_4, i_5, i_6, i_7, i_8, i_9, i_10, i_11, i_12, i_16, i_18, i_20, i_24, i_28, i_29, i_30, i_31, i_32, i_33, i_34, i_35, i_37, i_40, i_41, i_42, i_43, i_45, i_46, i_47, i_48, i_57, i_59, i_63, i_64, i_96, i_97, i_98, i_99, i_100, i_101, i_102, i_103, i_104, i_105, i_106, i_107, i_108, i_109, i_110, i_111, i_112, i_113, i_122, i_200, i_255, i_256, i_257, i_258, i_355, i_400, i_999, i_1000, i_1200, i_5680, i_9999, i_10000, i_99999, j_0, j_1, j_2, j_3, j_4, j_5, j_6, j_9, j_10, j_11, j_98, j_99, j_100, j_999, j_1000, j_9999, j_10000, j_99999, j_1000000, hi1, m2.1.2.1, f2n]
        refine ⟨μ3, s2, f2, ?_, g12.tr m3, Or.inr ⟨f20, m2, BadR.tr (j := 1) (s1 := nx T n s) (by omega) o1 o3 x2 (by omega)⟩⟩
        rw [e56]
        simp (disch := omega) only [fX5_readSum_56, Int.reduceEq, Int.reduceNe, Int.reduceLT, Int.reduceLE, Int.reduceAdd, Int.reduceSub, Int.reduceMul, Int.reduceNeg, Int.zero_add, Int.add_zero, nm_eq, bd_some, bv_some, aI_ok, aL_ok, aS_ok, dv_ok, dw_ok, I_add, I_sub, I_mul, I_neg, I_lt, I_le, I_eq, I_nat, J_add, J_sub, J_mul, J_neg, J_lt, J_le, J_eq, I_l, J_i, I_div, J_div, b2_0, b2_1, b2_nar, nar_0, nar_1, zr_0, zr_1, zr_b2, cmp_eq, cmp_le, cmp_lt, cmp_gt, cmp_ge, mx_I, mn_I, mx_L, mn_L, az_I, if_true, if_false, not_true_eq_false, not_false_eq_true, Bool.false_eq_true, i_0, i_1, i_2, i_3, i_4, i_5, i_6, i_7, i_8, i_9, i_10, i_11, i_12, i_16, i_18, i_20, i_24, i_28, i_29, i_30, i_31, i_32, i_33, i_34, i_35, i_37, i_40, i_41, i_42, i_43, i_45, i_46, i_47, i_48, i_57, i_59, i_63, i_64, i_96, i_97, i_98, i_99, i_100, i_101, i_102, i_103, i_104, i_105, i_106, i_107, i_108, i_109, i_110, i_111, i_112, i_113, i_122, i_200, i_255, i_256, i_257, i_258, i_355, i_400, i_999, i_1000, i_1200, i_5680, i_9999, i_10000, i_99999, j_0, j_1, j_2, j_3, j_4, j_5, j_6, j_9, j_10, j_11, j_98, j_99, j_100, j_999, j_1000, j_9999, j_10000, j_99999, j_1000000, e1, r1, x1.1.2.2.2.2.2.1, hgB, m1, hret]
    · have k43 : ¬ kd T n s = 43 := fun e => hs (Or.inl e)
      have k45 : ¬ kd T n s = 45 := fun e => hs (Or.inr e)
      refine ⟨μ, s, -1, ?_, Fr.rf, Or.inl ⟨rfl, [], K, q, ?_, hq, by omega, fun q => absurd q (by omega), ?_, fun h _ _ => rfl, hl, ⟨hk.1, hk.2, fun _ => ⟨k43, k45⟩⟩, ν, 0, by omega, fun m => rfl, hr, Fr.rf⟩⟩
      · simp (disch := omega) only [fX5_readSum_7, Int.reduceEq, Int.reduceNe, Int.reduceLT, Int.reduceLE, Int.reduceAdd, Int.reduceSub, Int.reduceMul, Int.reduceNeg, Int.zero_add, Int.add_zero, nm_eq, bd_some, bv_some, aI_ok, aL_ok, aS_ok, dv_ok, dw_ok, I_add, I_sub, I_mul, I_neg, I_lt, I_le, I_eq, I_nat, J_add, J_sub, J_mul, J_neg, J_lt, J_le, J_eq, I_l, J_i, I_div, J_div, b2_0, b2_1, b2_nar, nar_0, nar_1, zr_0, zr_1, zr_b2, cmp_eq, cmp_le, cmp_lt, cmp_gt, cmp_ge, mx_I, mn_I, mx_L, mn_L, az_I, if_true, if_false, not_true_eq_false, not_false_eq_true, Bool.false_eq_true, i_0, i_1, i_2, i_3, i_4, i_5, i_6, i_7, i_8, i_9, i_10, i_11, i_12, i_16, i_18, i_20, i_24, i_28, i_29, i_30, i_31, i_32, i_33, i_34, i_35, i_37, i_40, i_41, i_42, i_43, i_45, i_46, i_47, i_48, i_57, i_59, i_63, i_64, i_96, i_97, i_98, i_99, i_100, i_101, i_102, i_103, i_104, i_105, i_106, i_107, i_108, i_109, i_110, i_111, i_112, i_113, i_122, i_200, i_255, i_256, i_257, i_258, i_355, i_400, i_999, i_1000, i_1200, i_5680, i_9999, i_10000, i_99999, j_0, j_1, j_2, j_3, j_4, j_5, j_6, j_9, j_10, j_11, j_98, j_99, j_100, j_999, j_1000, j_9999, j_10000, j_99999, j_1000000, hi, hc.1.2.1, hc.1.2.2.2.1, k43, k45]
      · rw [List.append_nil]
      · rw [List.append_nil]; exact hc
theorem simS (hT : tB T n) (hN : 500 ≤ N) (hb : kB b) (hz : 0 ≤ q0) (a0 : 0 ≤ ad) (a2 : ad ≤ 2) (hA : SimA T n N b q0 ad rs d) {s : Int} {K W : List Int} {μ ν : Mem} (hc : CSt T n b q0 s (-1) K μ) (hr : RSt T n ad s (-1) K W d ν) (hl : q0 + K.length + W.length ≤ s) (hW : ∀ w W', W = w :: W' → bnd w < 1) : SimG 1 0 T n N b q0 ad (fX5_readSum N rs (I_ d)) 1 d s K [] W μ ν 1 := by
  have n1 := hT.2.1
  have ci := hc.1.in_
  obtain ⟨μ2, s2, f2, r1, r2, r3⟩ := simT hT hN hb hz a0 a2 hA hc hr hl (fun w W' e => by have := hW w W' e; omega)
  rcases r3 with ⟨f2e, cs, K1, p1, x1, x2, x3, x4, x5, x6, x7, x8, x9⟩ | ⟨f20, x1, x2⟩
  · rw [List.append_nil] at x1 x5
    obtain ⟨ν2, j, j1, j2, j3, j4⟩ := x9
    have ci2 := x5.1.in_
    have x4' := x4 rfl
    rw [x1] at x5
    obtain ⟨μ4, s4, f4, y1, y2, y3⟩ := simSL hT hN hb hz a0 a2 hA (n - s2).toNat N 0 s2 K1 p1 W μ2 ν2 (by omega) (by omega) (by omega) (by omega) x5 j3 (fun x hx => ⟨(x2 x hx).1, by have := (x2 x hx).2; omega⟩) hW x7 ⟨x8.1, x8.2.1⟩
    refine ⟨μ4, s4, f4, ?_, r2.tr y2, ?_⟩
    · simp (disch := omega) only [fX5_readSum, Int.reduceEq, Int.reduceNe, Int.reduceLT, Int.reduceLE, Int.reduceAdd, Int.reduceSub, Int.reduceMul, Int.reduceNeg, Int.zero_add, Int.add_zero, nm_eq, bd_some, bv_some, aI_ok, aL_ok, aS_ok, dv_ok, dw_ok, I_add, I_sub, I_mul, I_neg, I_lt, I_le, I_eq, I_nat, J_add, J_sub, J_mul, J_neg, J_lt, J_le, J_eq, I_l, J_i, I_div, J_div, b2_0, b2_1, b2_nar, nar_0, nar_1, zr_0, zr_1, zr_b2, cmp_eq, cmp_le, cmp_lt, cmp_gt, cmp_ge, mx_I, mn_I, mx_L, mn_L, az_I, if_true, if_false, not_true_eq_false, not_false_eq_true, Bool.false_eq_true, i_0, i_1, i_2, i_3, i_4, i_5, i_6, i_7, i_8, i_9, i_10, i_11, i_12, i_16, i_18, i_20, i_24, i_28, i_29, i_30, i_31, i_32, i_33, i_34, i_35, i_37, i_40, i_41, i_42, i_43, i_45, i_46, i_47, i_48, i_57, i_59, i_63, i_64, i_96, i_97, i_98, i_99, i_100, i_101, i_102, i_103, i_104, i_105, i_106, i_107, i_108, i_109, i_110, i_111, i_112, i_113, i_122, i_200, i_255, i_256, i_257, i_258, i_355, i_400, i_999, i_1000, i_1200, i_5680, i_9999, i_10000, i_99999, j_0, j_1, j_2, j_3, j_4, j_5, j_6, j_9, j_10, j_11, j_98, j_99, j_100, j_999, j_1000, j_9999, j_10000, j_99999, j_1000000, r1, y1]
    rcases y3 with ⟨f4e, cs', K', p, z1, z2, z3, z4, z5, z6, z7, z8, z9⟩ | ⟨f40, z1, z2⟩
    · have ea : (K1 ++ p1) ++ cs' = (K ++ []) ++ (cs ++ cs') := by rw [← x1]; simp only [List.append_assoc, List.append_nil, List.nil_append]
      rw [ea] at z1 z5
      refine Or.inl ⟨f4e, cs ++ cs', K', p, z1, z2, by omega, fun _ => by omega, z5, fun h h1 h2 => ?_, z7, z8, OkR.tr (s1 := s2) j1 j2 j4 z9⟩
      exact gd_ap _ (x6 h (by omega) (by omega)) (z6 (h + 1) (by omega) (by omega))
    · exact Or.inr ⟨f40, z1, BadR.tr (s1 := s2) j1 j2 j4 z2 (by omega)⟩
  · obtain ⟨m', hm'⟩ : ∃ m', N = m' + 1 := ⟨N - 1, by omega⟩
    have ci2 := x1.1.in_
    have f2n : ¬ f2 = -1 := by omega
    have hret : ∀ m, fX5_readSum_7 N rs (m + 1) (I_ d) (I_ 0) μ2 = some ((), μ2) := fun m => by
      simp (disch := omega) only [fX5_readSum_7, Int.reduceEq, Int.reduceNe, Int.reduceLT, Int.reduceLE, Int.reduceAdd, Int.reduceSub, Int.reduceMul, Int.reduceNeg, Int.zero_add, Int.add_zero, nm_eq, bd_some, bv_some, aI_ok, aL_ok, aS_ok, dv_ok, dw_ok, I_add, I_sub, I_mul, I_neg, I_lt, I_le, I_eq, I_nat, J_add, J_sub, J_mul, J_neg, J_lt, J_le, J_eq, I_l, J_i, I_div, J_div, b2_0, b2_1, b2_nar, nar_0, nar_1, zr_0, zr_1, zr_b2, cmp_eq, cmp_le, cmp_lt, cmp_gt, cmp_ge, mx_I, mn_I, mx_L, mn_L, az_I, if_true, if_false, not_true_eq_false, not_false_eq_true, Bool.false_eq_true, i_0, i_1, i_2, i_3, i_4, i_5, i_6, i_7, i_8, i_9, i_10, i_11, i_12, i_16, i_18, i_20, i_24, i_28, i_29, i_30, i_31, i_32, i_33, i_34, i_35, i_37, i_40, i_41, i_42, i_43, i_45, i_46, i_47, i_48, i_57, i_59, i_63, i_64, i_96, i_97, i_98, i_99, i_100, i_101, i_102, i_103, i_104, i_105, i_106, i_107, i_108, i_109, i_110, i_111, i_112, i_113, i_122, i_200, i_255, i_256, i_257, i_258, i_355, i_400, i_999, i_1000, i_1200, i_5680, i_9999, i_10000, i_99999, j_0, j_1, j_2, j_3, j_4, j_5, j_6, j_9, j_10, j_11, j_98, j_99, j_100, j_999, j_1000, j_9999, j_10000, j_99999, j_1000000, x1.1.2.1, f2n]
    have hret' := hret m'
    rw [← hm'] at hret'
    refine ⟨μ2, s2, f2, ?_, r2, Or.inr ⟨f20, x1, x2⟩⟩
    simp (disch := omega) only [fX5_readSum, Int.reduceEq, Int.reduceNe, Int.reduceLT, Int.reduceLE, Int.reduceAdd, Int.reduceSub, Int.reduceMul, Int.reduceNeg, Int.zero_add, Int.add_zero, nm_eq, bd_some, bv_some, aI_ok, aL_ok, aS_ok, dv_ok, dw_ok, I_add, I_sub, I_mul, I_neg, I_lt, I_le, I_eq, I_nat, J_add, J_sub, J_mul, J_neg, J_lt, J_le, J_eq, I_l, J_i, I_div, J_div, b2_0, b2_1, b2_nar, nar_0, nar_1, zr_0, zr_1, zr_b2, cmp_eq, cmp_le, cmp_lt, cmp_gt, cmp_ge, mx_I, mn_I, mx_L, mn_L, az_I, if_true, if_false, not_true_eq_false, not_false_eq_true, Bool.false_eq_true, i_0, i_1, i_2, i_3, i_4, i_5, i_6, i_7, i_8, i_9, i_10, i_11, i_12, i_16, i_18, i_20, i_24, i_28, i_29, i_30, i_31, i_32, i_33, i_34, i_35, i_37, i_40, i_41, i_42, i_43, i_45, i_46, i_47, i_48, i_57, i_59, i_63, i_64, i_96, i_97, i_98, i_99, i_100, i_101, i_102, i_103, i_104, i_105, i_106, i_107, i_108, i_109, i_110, i_111, i_112, i_113, i_122, i_200, i_255, i_256, i_257, i_258, i_355, i_400, i_999, i_1000, i_1200, i_5680, i_9999, i_10000, i_99999, j_0, j_1, j_2, j_3, j_4, j_5, j_6, j_9, j_10, j_11, j_98, j_99, j_100, j_999, j_1000, j_9999, j_10000, j_99999, j_1000000, r1, hret']
/-- at every depth -/
theorem simAll (hT : tB T n) (hN : 500 ≤ N) (hb : kB b) (hz : 0 ≤ q0) (a0 : 0 ≤ ad) (a2 : ad ≤ 2) : ∀ (e : Nat) (d : Int), d + e = 6 → 0 ≤ d → ∀ (s : Int) (K W : List Int) (μ ν : Mem), CSt T n b q0 s (-1) K μ → RSt T n ad s (-1) K W d ν → q0 + K.length + W.length ≤ s → (∀ w W', W = w :: W' → bnd w < 1) → SimG 1 0 T n N b q0 ad (fX5_rs (e + 2) N (I_ d)) 1 d s K [] W μ ν 1 := by
  intro e
  induction e with
  | zero =>
    intro d hd d0 s K W μ ν hc hr hl hW
    have hA := simA (N := N) (rs := fX5_rs 1 N) (d := d) hT hN hb hz a0 a2 d0 (by omega) (fun q => absurd q (by omega))
    exact simS hT hN hb hz a0 a2 hA hc hr hl hW
  | succ e ih =>
    intro d hd d0 s K W μ ν hc hr hl hW
    have hA := simA (N := N) (rs := fX5_rs (e + 2) N) (d := d) hT hN hb hz a0 a2 d0 (by omega) (fun q s K W μ ν a b c d => ih _ (by omega) (by omega) s K W μ ν a b c d)
    exact simS hT hN hb hz a0 a2 hA hc hr hl hW
/-- a whole sum, on both sides -/
theorem sim_sum (hT : tB T n) (hN : 500 ≤ N) (hb : kB b) (hz : 0 ≤ q0) (a0 : 0 ≤ ad) (a2 : ad ≤ 2) {s : Int} {μ ν : Mem} (hc : CSt T n b q0 s (-1) [] μ) (hr : RSt T n ad s (-1) [] [] 0 ν) (hl : q0 ≤ s) : ∃ (μ' ν' : Mem) (s' f' : Int), fX5_rs8 N (I_ 0) μ = some ((), μ') ∧ fX11_sumHere_9 N N (I_ 1) (I_ 1) ν = some ((), ν') ∧ Fr (P_cs b q0) μ μ' ∧ Fr (P_rs ad) ν ν' ∧ ((f' = -1 ∧ ∃ cs : List Int, s < s' ∧ CSt T n b q0 s' (-1) cs μ' ∧ gd cs 0 1 ∧ q0 + cs.length ≤ s' ∧ RSt T n ad s' (-1) cs [] 0 ν') ∨ (0 ≤ f' ∧ CSf T n b q0 s' f' μ' ∧ RR T n s' f' ν')) := by
  have n1 := hT.2.1
  have ci := hc.1.in_
  obtain ⟨μ2, s2, f2, r1, r2, r3⟩ := simAll (N := N) hT hN hb hz a0 a2 6 0 (by omega) (by omega) s [] [] μ ν hc hr (by show q0 + ((0 : Nat) : Int) + ((0 : Nat) : Int) ≤ s; omega) (fun w W' e => by cases e)
  rcases r3 with ⟨f2e, cs, K1, p1, x1, x2, x3, x4, x5, x6, x7, x8, x9⟩ | ⟨f20, x1, x2⟩
  · obtain ⟨ν2, j, j1, j2, j3, j4⟩ := x9
    have ci2 := x5.1.in_
    have x8' := x8.2.2 rfl
    obtain ⟨ν3, y1, y2, y3⟩ := it_end (N := N) hT hN a0 a2 ⟨x8.1, x8'.1, x8'.2, x8.2.1⟩ x2 hz x7 j3
    have x1' : cs = K1 ++ p1 := x1
    rw [← x1'] at y2
    have x5' : CSt T n b q0 s2 (-1) cs μ2 := x5
    have hl2 : (p1 ++ ([] : List Int)).length = p1.length := by rw [List.append_nil]
    have hl3 : cs.length = K1.length + p1.length := by rw [x1', List.length_append]
    refine ⟨μ2, ν3, s2, -1, r1, ?_, r2, j4.tr y3, Or.inl ⟨rfl, cs, x4 rfl, x5', x6 0 (by omega) (by omega), by omega, y2⟩⟩
    obtain ⟨m, hm⟩ : ∃ m, N = m + 2 + j := ⟨N - 2 - j, by omega⟩
    have e := (j2 (m + 2)).trans (y1 m)
    rw [← hm] at e
    exact e
  · have ci2 := x1.1.in_
    obtain ⟨ν2, e1, e2, e3⟩ := x2
    exact ⟨μ2, ν2, s2, f2, r1, e1 N (by omega), r2, e3, Or.inr ⟨f20, x1, e2⟩⟩
end
