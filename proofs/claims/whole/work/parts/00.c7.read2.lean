/-! read. -/
section
variable {N : Nat} {μ ν : Mem}
theorem A2 (hN : 20000 ≤ N) (v : Nat → Int32) (h : Rl μ ν) : ∃ z, lawC2 N v μ ν = some z ∧ Rl z.1 z.2 := by
  obtain ⟨b, Lm, Am, Lf, Af, K, fo, q, G, a, nx, hA, hB, hC, hT, hR⟩ := h
  obtain ⟨T, n, ft, t1, t2, t3, t4, t5, t6, t7, t8⟩ := hT
  obtain ⟨b', hb1, hb2, hb3⟩ := hC
  have hC : FC b μ := ⟨b', hb1, hb2, hb3⟩
  have hb := hA.2.2.2.1
  have hbb : (b = 32 ∧ b' = 61) ∨ (b = 61 ∧ b' = 32) := by
    rcases hb with e | e <;> rcases hb1 with e' | e' <;> omega
  have n01 := t1.1
  have n02 := t1.2.1
  have hgB : ∀ {β : Type} (k : Nat → Option β), gB b' k = k b' := fun k => if_pos hb1
  have hgBb : ∀ {β : Type} (k : Nat → Option β), gB b k = k b := fun k => if_pos hb
  -- the class lays its book
  obtain ⟨μ1, a1, a2, a3⟩ := c_clear (N := N) (μ := stR μ 1 3 b') (by omega) hb1
  have gR0 : Fr (fun k _ => k = 1) μ (stR μ 1 3 b') := Fr.rf.stR rfl
  have g2 : Fr P_1 μ1 (stI (stI μ1 1 2 (I_ (-1))) 1 6 (I_ 0)) := P1s (P1s Fr.rf)
  have hTP : TP T n 7 (stI (stI μ1 1 2 (I_ (-1))) 1 6 (I_ 0)) := fun j j0 j1 => by
    rw [st_ne (by omega), st_ne (by omega), (a2 7 _ (by omega)).1, (gR0 7 _ (by omega)).1]; exact t4 j j0 j1
  obtain ⟨μ3, s1, s2, s3⟩ := c_stepAt (N := N) (μ := stI (stI μ1 1 2 (I_ (-1))) 1 6 (I_ 0)) (b := b') (i := 0) (f := -1) t1 (by omega) (by omega) (by omega) (by rw [st_I, if_neg (by decide), st_I, if_neg (by decide), (a2 1 1 (by omega)).1]; exact t2) (by simp (disch := omega) only [st_I, st_I2, st_L1, st_L2, st_R1, st_R2, Nat.reduceEqDiff, Nat.reduceAdd, and_true, true_and, and_false, false_and, and_self, if_false, if_true]) at_S (by
    show μ1.2.2 1 3 = b'
    rw [(a2 1 3 (by omega)).2.2]
    rw [st_R, if_pos ⟨rfl, rfl⟩]) hTP (by omega) (by omega)
  have hPC3 := (a3.p1 hb1 g2).p1 hb1 s3
  -- the reference lays its draft
  obtain ⟨ν1, r1, r2, r3, r4, r5, r6⟩ := r_init (N := N) hN t1 t3 t5
  have hsk := sk_in (T := T) (n := n) (i := 0) n01
  have hPB : PBx b' (sk T n 0) μ3 ν1 := ⟨v00, fun _ => 0, fun _ _ => 0, fun _ => 0, fun _ _ => 0, fun _ => [], fun _ => 0, 0, ⟨vB_00, ⟨by show (0 : Int) ≤ 0; omega, by show (0 : Int) ≤ 6; omega, fun i i0 i1 => absurd i1 (by show ¬ i < 0; omega)⟩, ⟨by show (0 : Int) ≤ 0; omega, by show (0 : Int) ≤ 6; omega, fun i i0 i1 => absurd i1 (by show ¬ i < 0; omega)⟩, fun k _ _ => ⟨Or.inl rfl, by show 0 ≤ 400; omega⟩⟩, hPC3, r3, by omega, by omega⟩
  obtain ⟨μ4, ν4, s', f', p1, p2, p3, p4, p5, p6, p7⟩ := parse_l (N := N) t1 (by omega) hb1 (fun _ => rfl) (fun _ => rfl) (n - sk T n 0).toNat N N 0 (sk T n 0) μ3 ν1 (by omega) (by omega) (by omega) (by omega) (by omega) s2 r2 hPB
  have i4 := p3.in_
  have gC : Fr (fun k _ => k = 1 ∨ (b' ≤ k ∧ k ≤ b' + 28)) μ μ4 := ((gR0.mono (fun k j w => Or.inl w)).tr (a2.mono (fun k j w => Or.inr w))).tr (((g2.mono (fun k j w => Or.inl w)).tr (s3.mono (fun k j w => Or.inl w))).tr (p5.mono (fun k j w => w)))
  have gRr : Fr (fun k j => (k = 0 ∧ (j = 0 ∨ (14 ≤ j ∧ j ≤ 29))) ∨ k = 2 ∨ (11 ≤ k ∧ k ≤ 17)) ν ν4 := (r6.mono (fun k j w => by omega)).tr (p6.mono (fun k j w => by unfold P_rd at w; omega))
  have c00 : ν4.1 0 0 = I_ 0 := by rw [(p6 0 0 (by unfold P_rd; omega)).1]; exact r4
  have c014 : ν4.1 0 14 = I_ 0 := by rw [(p6 0 14 (by unfold P_rd; omega)).1]; exact r5
  have hparse : fX5_parse N b' μ = fX5_parse_69 N μ4 := by
    unfold fX5_parse
    rw [if_pos hb1, nm_eq]
    have e13 : (stR μ 1 3 b').2.2 1 3 = b' := by rw [st_R, if_pos ⟨rfl, rfl⟩]
    rw [e13, hgB, a1, bv_some, nm_eq, nm_eq]
    have s1' : fX5_step N (stI (stI μ1 1 2 (-1)) 1 6 0) = some ((), μ3) := s1
    rw [s1', bv_some]
    exact p1
  obtain ⟨r, hX4, _⟩ := p4
  have f17 : ν4.1 0 17 = I_ f' := hX4.2.1
  have hread : fX11_read N ν = fX11_read_111 N ν4 := r1.trans p2
  by_cases hf : f' = -1
  · subst hf
    obtain ⟨V, Lm', Am', Lf', Af', K', fo', q', hP, hPC, hPD, q0, q1⟩ := p7 rfl
    have hV := hP.1
    have hn := hV.1
    unfold vN at hn
    have hG := hP.2.2.2
    obtain ⟨μ5, w1, w2, w3, w4⟩ := c_workAll (N := N) hb1 (by omega) hV hG (by omega) (sN V).toNat N 0 μ4 (by omega) (by omega) (by omega) hPC (fun z z0 z1 => absurd z1 (by omega))
    obtain ⟨ν5, x1, x2, x3, x4, x5⟩ := r_takes (N := N) hN hV hG hPD
    have hV1 := vB_W hV hG
    have gw : Fr (fun k _ => k = 1 ∨ (b' ≤ k ∧ k ≤ b' + 28)) μ μ5 := gC.tr (w4.mono (fun k j w => Or.inr (by omega)))
    have g12 : ∀ j, μ5.1 1 j = μ4.1 1 j := fun j => (w4 1 j (by omega)).1
    have m6 : ∃ μ6, μ6 = stI (stR (stR (stI μ5 1 1 (I_ 0)) 0 6 b') 0 7 b) 2 3 (I_ 0) := ⟨_, rfl⟩
    obtain ⟨μ6, em6⟩ := m6
    have g6 : Fr (fun k j => (k = 1 ∧ j = 1) ∨ (k = 0 ∧ (j = 6 ∨ j = 7)) ∨ (k = 2 ∧ j = 3)) μ5 μ6 := by
      rw [em6]
      exact (((Fr.rf.stI (Or.inl ⟨rfl, rfl⟩)).stR (Or.inr (Or.inl ⟨rfl, Or.inl rfl⟩))).stR (Or.inr (Or.inl ⟨rfl, Or.inr rfl⟩))).stI (Or.inr (Or.inr ⟨rfl, rfl⟩))
    have h06 : μ6.2.2 0 6 = b' := by
      rw [em6]
      show (stR (stR (stI μ5 1 1 (I_ 0)) 0 6 b') 0 7 b).2.2 0 6 = b'
      rw [st_R, if_neg (by decide), st_R, if_pos ⟨rfl, rfl⟩]
    have h07 : μ6.2.2 0 7 = b := by
      rw [em6]
      show (stR (stR (stI μ5 1 1 (I_ 0)) 0 6 b') 0 7 b).2.2 0 7 = b
      rw [st_R, if_pos ⟨rfl, rfl⟩]
    have h12 : μ6.1 1 2 = I_ (-1) := by rw [(g6 1 2 (by omega)).1, g12]; exact p3.2.1
    have hsn6 : μ6.1 (b' + 12) 10 = I_ (sN V) := by rw [(g6 _ _ (by omega)).1]; exact w2.2.1
    have hPC6 : PC b' V Lm' Am' Lf' Af' K' fo' q' μ6 := w2.fr (fun k j c d => (g6 k j (by omega)).1)
    have hc : fX10_read N μ = some (.inl (I_ (sN V)), μ6) := by
      unfold fX10_read
      rw [hb3, hgB, hparse]
      have hwa : fX1_workOutAll N b' μ4 = some ((), μ5) := by
        unfold fX1_workOutAll
        rw [if_pos hb1]
        exact w1
      have e69 : fX5_parse_69 N μ4 = some ((), μ5) := by
        unfold fX5_parse_69
        rw [nm_eq, p3.2.1, if_pos (show I_ (-1) = -1 from rfl), p3.2.2.2.2.2.1, hgB, hwa, bv_some]
      have e512 : (stI μ5 1 1 (I_ 0)).1 1 2 = I_ (-1) := by
        rw [st_I, if_neg (by decide), g12]; exact p3.2.1
      have e506 : (stI μ5 1 1 (I_ 0)).2.2 0 6 = b := by
        show μ5.2.2 0 6 = b
        rw [(gw 0 6 (by omega)).2.2]; exact hA.2.2.2.2.2.2.1
      have e507 : (stI μ5 1 1 (I_ 0)).2.2 0 7 = b' := by
        show μ5.2.2 0 7 = b'
        rw [(gw 0 7 (by omega)).2.2]; exact hb3
      rw [e69, bv_some, nm_eq, i_0, nm_eq, e512, if_pos (show I_ (-1) = -1 from rfl), e506, hgBb, e507, hgB, nm_eq, nm_eq, nm_eq, ← em6, h06, hgB, nm_eq, hsn6]
    have h34 : ν5.1 1 (34 : Int).toNat = I_ (sN V) := x2.2.1
    have hr : fX11_read N ν = some (I_ (sN V), ν5) := by
      rw [hread]
      simp (disch := omega) only [fX11_read_111, Int.reduceEq, Int.reduceNe, Int.reduceLT, Int.reduceLE, Int.reduceAdd, Int.reduceSub, Int.reduceMul, Int.reduceNeg, Int.zero_add, Int.add_zero, nm_eq, bd_some, bv_some, aI_ok, aL_ok, aS_ok, dv_ok, dw_ok, I_add, I_sub, I_mul, I_neg, I_lt, I_le, I_eq, I_nat, J_add, J_sub, J_mul, J_neg, J_lt, J_le, J_eq, I_l, J_i, I_div, J_div, b2_0, b2_1, b2_nar, nar_0, nar_1, zr_0, zr_1, zr_b2, cmp_eq, cmp_le, cmp_lt, cmp_gt, cmp_ge, mx_I, mn_I, mx_L, mn_L, az_I, if_true, if_false, not_true_eq_false, not_false_eq_true, Bool.false_eq_true, i_0, i_1, i_2, i_3, i_4, i_5, i_6, i_7, i_8, i_9, i_10, i_11, i_12, i_16, i_18, i_20, i_24, i_28, i_29, i_30, i_31, i_32, i_33, i_34, i_35, i_37, i_40, i_41, i_42, i_43, i_45, i_46, i_47, i_48, i_57, i_59, i_63, i_64, i_96, i_97, i_98, i_99, i_100, i_101, i_102, i_103, i_104, i_105, i_106, i_107, i_108, i_109, i_110, i_111, i_112, i_113, i_122, i_200, i_255, i_256, i_257, i_258, i_355, i_400, i_999, i_1000, i_1200, i_5680, i_9999, i_10000, i_99999, j_0, j_1, j_2, j_3, j_4, j_5, j_6, j_9, j_10, j_11, j_98, j_99, j_100, j_999, j_1000, j_9999, j_10000, j_99999, j_1000000, r_wq hX4, x1, h34]
    have t0 : ν5.1 0 0 = I_ 0 := by rw [(x5 0 0 (by omega)).1]; exact c00
    refine ⟨(stL μ6 90 0 (J_ (sN V)), ν5), ?_, ?_⟩
    · simp (disch := omega) only [lawC2, fL_read, fX11_thrown, Int.reduceEq, Int.reduceNe, Int.reduceLT, Int.reduceLE, Int.reduceAdd, Int.reduceSub, Int.reduceMul, Int.reduceNeg, Int.zero_add, Int.add_zero, nm_eq, bd_some, bv_some, aI_ok, aL_ok, aS_ok, dv_ok, dw_ok, I_add, I_sub, I_mul, I_neg, I_lt, I_le, I_eq, I_nat, J_add, J_sub, J_mul, J_neg, J_lt, J_le, J_eq, I_l, J_i, I_div, J_div, b2_0, b2_1, b2_nar, nar_0, nar_1, zr_0, zr_1, zr_b2, cmp_eq, cmp_le, cmp_lt, cmp_gt, cmp_ge, mx_I, mn_I, mx_L, mn_L, az_I, if_true, if_false, not_true_eq_false, not_false_eq_true, Bool.false_eq_true, i_0, i_1, i_2, i_3, i_4, i_5, i_6, i_7, i_8, i_9, i_10, i_11, i_12, i_16, i_18, i_20, i_24, i_28, i_29, i_30, i_31, i_32, i_33, i_34, i_35, i_37, i_40, i_41, i_42, i_43, i_45, i_46, i_47, i_48, i_57, i_59, i_63, i_64, i_96, i_97, i_98, i_99, i_100, i_101, i_102, i_103, i_104, i_105, i_106, i_107, i_108, i_109, i_110, i_111, i_112, i_113, i_122, i_200, i_255, i_256, i_257, i_258, i_355, i_400, i_999, i_1000, i_1200, i_5680, i_9999, i_10000, i_99999, j_0, j_1, j_2, j_3, j_4, j_5, j_6, j_9, j_10, j_11, j_98, j_99, j_100, j_999, j_1000, j_9999, j_10000, j_99999, j_1000000, hc, hr, bh_l, t0, n_0, at_SL, cmp_self]
    · refine ⟨b', Lm', Am', Lf', Af', K', fo', q', fun _ => vW K' V, 0, nx, ⟨⟨hV1, by show NV (mN (vW K' V)) _ _; rw [vW_m]; exact hP.2.1, by show NV (fN (vW K' V)) _ _; rw [vW_f]; exact hP.2.2.1, hG⟩, vE_W, ⟨q0, by omega⟩, hb1, (hPC6.ag AG_W).fr (fun _ _ _ _ => rfl), fun y y0 y1 => ?_, h06, x2.ag AG_W, Or.inl x4⟩, ⟨⟨?_, ?_, hB.1.2.2.1, by omega, fun t ht => absurd ht (by omega)⟩, ⟨x3, fun t ht => absurd ht (by omega)⟩, fun t _ => ⟨hV1, vE_W⟩⟩, ⟨b, hb, fun e => hb2 e.symm, h07⟩, ⟨T, 0, -1, ⟨by omega, by omega, t1.2.2⟩, ?_, ?_, fun j j0 j1 => absurd j1 (by omega), fun j j0 j1 => absurd j1 (by omega), h12, ?_, by omega⟩, hR.fr (fun k j hk => ?_) (fun k j hk => ?_)⟩
      · have y1' : y < sN V := by
          have : sN (vW K' V) = sN V := vW_s
          have y2 : y < sN (vW K' V) := y1
          omega
        show μ6.1 (b' + 20) y.toNat = I_ (offz K' V y) ∧ μ6.1 (b' + 21) y.toNat = I_ (netz K' V y)
        rw [(g6 _ _ (by omega)).1, (g6 _ _ (by omega)).1]
        exact w3 y y0 y1'
      · show μ6.1 2 3 = I_ 0
        rw [em6]; exact at_S
      · show μ6.1 2 4 = I_ nx
        rw [(g6 2 4 (by omega)).1, (gw 2 4 (by omega)).1]; exact hB.1.2.1
      · show μ6.1 1 1 = I_ 0
        rw [em6, st_ne (by omega)]
        show (stI μ5 1 1 (I_ 0)).1 1 1 = I_ 0
        exact at_S
      · rw [(x5 0 14 (by omega)).1]; exact c014
      · rw [(x5 0 17 (by omega)).1]; exact f17
      · show μ6.1 k j = μ.1 k j
        rw [(g6 k j (by omega)).1, (gw k j (by omega)).1]
      · rw [(x5 k j (by omega)).1, (gRr k j (by omega)).1]
  · have hc : fX10_read N μ = some (.inr 1, stI μ4 1 1 (I_ 0)) := by
      unfold fX10_read
      rw [hb3, hgB, hparse]
      have nf : ¬ I_ f' = (-1 : Int32) := by
        show ¬ I_ f' = I_ (-1)
        rw [I_eq (by omega) (by omega) (by omega) (by omega)]
        exact hf
      have e69 : fX5_parse_69 N μ4 = some ((), μ4) := by
        unfold fX5_parse_69
        rw [nm_eq, p3.2.1, if_neg nf]
      have e512 : (stI μ4 1 1 (I_ 0)).1 1 2 = I_ f' := by
        rw [st_I, if_neg (by decide)]; exact p3.2.1
      rw [e69, bv_some, nm_eq, i_0, nm_eq, e512, if_neg nf]
    have hr : fX11_read N ν = some (I_ 0, stI ν4 0 0 (I_ 1)) := by
      rw [hread]
      simp (disch := omega) only [fX11_read_111, fX11_fails, Int.reduceEq, Int.reduceNe, Int.reduceLT, Int.reduceLE, Int.reduceAdd, Int.reduceSub, Int.reduceMul, Int.reduceNeg, Int.zero_add, Int.add_zero, nm_eq, bd_some, bv_some, aI_ok, aL_ok, aS_ok, dv_ok, dw_ok, I_add, I_sub, I_mul, I_neg, I_lt, I_le, I_eq, I_nat, J_add, J_sub, J_mul, J_neg, J_lt, J_le, J_eq, I_l, J_i, I_div, J_div, b2_0, b2_1, b2_nar, nar_0, nar_1, zr_0, zr_1, zr_b2, cmp_eq, cmp_le, cmp_lt, cmp_gt, cmp_ge, mx_I, mn_I, mx_L, mn_L, az_I, if_true, if_false, not_true_eq_false, not_false_eq_true, Bool.false_eq_true, i_0, i_1, i_2, i_3, i_4, i_5, i_6, i_7, i_8, i_9, i_10, i_11, i_12, i_16, i_18, i_20, i_24, i_28, i_29, i_30, i_31, i_32, i_33, i_34, i_35, i_37, i_40, i_41, i_42, i_43, i_45, i_46, i_47, i_48, i_57, i_59, i_63, i_64, i_96, i_97, i_98, i_99, i_100, i_101, i_102, i_103, i_104, i_105, i_106, i_107, i_108, i_109, i_110, i_111, i_112, i_113, i_122, i_200, i_255, i_256, i_257, i_258, i_355, i_400, i_999, i_1000, i_1200, i_5680, i_9999, i_10000, i_99999, j_0, j_1, j_2, j_3, j_4, j_5, j_6, j_9, j_10, j_11, j_98, j_99, j_100, j_999, j_1000, j_9999, j_10000, j_99999, j_1000000, r_wq hX4, hf]
    refine ⟨(stI μ4 1 1 (I_ 0), stI ν4 0 0 (I_ 1)), ?_, Rl_t (b' := b') ⟨hb1, hb2⟩ hA hB hC hR ((gC.mono (fun k j w => by omega)).stI (Or.inl rfl)) ((gRr.mono (fun k j w => by omega)).stI (Or.inl ⟨rfl, Or.inl rfl⟩)) ⟨T, 0, f', ⟨by omega, by omega, t1.2.2⟩, at_S, ?_, fun j j0 j1 => absurd j1 (by omega), fun j j0 j1 => absurd j1 (by omega), ?_, ?_, by omega⟩⟩
    · simp (disch := omega) only [lawC2, fL_read, fX11_thrown, Int.reduceEq, Int.reduceNe, Int.reduceLT, Int.reduceLE, Int.reduceAdd, Int.reduceSub, Int.reduceMul, Int.reduceNeg, Int.zero_add, Int.add_zero, nm_eq, bd_some, bv_some, aI_ok, aL_ok, aS_ok, dv_ok, dw_ok, I_add, I_sub, I_mul, I_neg, I_lt, I_le, I_eq, I_nat, J_add, J_sub, J_mul, J_neg, J_lt, J_le, J_eq, I_l, J_i, I_div, J_div, b2_0, b2_1, b2_nar, nar_0, nar_1, zr_0, zr_1, zr_b2, cmp_eq, cmp_le, cmp_lt, cmp_gt, cmp_ge, mx_I, mn_I, mx_L, mn_L, az_I, if_true, if_false, not_true_eq_false, not_false_eq_true, Bool.false_eq_true, i_0, i_1, i_2, i_3, i_4, i_5, i_6, i_7, i_8, i_9, i_10, i_11, i_12, i_16, i_18, i_20, i_24, i_28, i_29, i_30, i_31, i_32, i_33, i_34, i_35, i_37, i_40, i_41, i_42, i_43, i_45, i_46, i_47, i_48, i_57, i_59, i_63, i_64, i_96, i_97, i_98, i_99, i_100, i_101, i_102, i_103, i_104, i_105, i_106, i_107, i_108, i_109, i_110, i_111, i_112, i_113, i_122, i_200, i_255, i_256, i_257, i_258, i_355, i_400, i_999, i_1000, i_1200, i_5680, i_9999, i_10000, i_99999, j_0, j_1, j_2, j_3, j_4, j_5, j_6, j_9, j_10, j_11, j_98, j_99, j_100, j_999, j_1000, j_9999, j_10000, j_99999, j_1000000, hc, hr, bh_r, at_S]
    · rw [st_I, if_neg (by decide)]; exact c014
    · rw [st_I, if_neg (by decide)]; exact p3.2.1
    · rw [st_I, if_neg (by decide)]; exact f17
end
