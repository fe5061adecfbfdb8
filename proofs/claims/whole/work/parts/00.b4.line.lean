/-! A line, and its end. -/
theorem bv_bv {β : Type} {o : Option (Unit × Mem)} {k : Mem → Option (Unit × Mem)} {g : Mem → Option β} : bv (bv o k) g = bv o (fun μ => bv (k μ) g) := by
  cases o with
  | none => rfl
  | some q => rfl
theorem bd_bv {β τ : Type} {o : Option (τ × Mem)} {k : τ → Mem → Option (Unit × Mem)} {g : Mem → Option β} : bv (bd o k) g = bd o (fun r μ => bv (k r μ) g) := by
  cases o with
  | none => rfl
  | some q => rfl
section
variable {T : Int → Int} {n : Int} {N b : Nat} {μ μ' ν ν' : Mem} {s f : Int}
theorem PBx.fr (hb : kB b) {s' : Int} (h : PBx b s μ ν) (g1 : Fr P_1 μ μ') (g2 : Fr P_at ν ν') (hs : s ≤ s') : PBx b s' μ' ν' := by
  obtain ⟨V, Lm, Am, Lf, Af, K, fo, q, h1, h2, h3, h4, h5⟩ := h
  exact ⟨V, Lm, Am, Lf, Af, K, fo, q, h1, h2.p1 hb g1, h3.at_ h1.1 g2, h4, by omega⟩
def LE (T : Int → Int) (n : Int) (b : Nat) (s : Int) (μ ν : Mem) (c r : Option (Unit × Mem)) : Prop := ∃ (μ' ν' : Mem) (s' f' : Int), c = some ((), μ') ∧ r = some ((), ν') ∧ CR T n b s' f' μ' ∧ RR T n s' f' ν' ∧ Fr (P_sp b) μ μ' ∧ Fr P_rd ν ν' ∧ (f' = -1 → s < s' ∧ PBx b s' μ' ν')
theorem lt_end (hT : tB T n) (hN : 500 ≤ N) (hb : kB b) {c r : Option (Unit × Mem)} (h : LT T n b s μ ν c r) : LE T n b s μ ν (bv c fun μ => fX5_take N (I_ 59) μ) (bv r fun μ => bv (fX11_sign N (I_ 59) μ) fun μ => some ((), μ)) := by
  obtain ⟨μ1, ν1, s1, f1, h1, h2, h3, h4, h5, h6, h7⟩ := h
  have i1 := h2.in_
  obtain ⟨μ2, a1, a2, a3⟩ := c_take (N := N) (c := 59) hT hN (by omega) (by omega) h2
  obtain ⟨ν2, b1, b2', b3⟩ := r_sign (N := N) (c := 59) hT hN (by omega) (by omega) (by omega) (by omega) h5
  have bs := oS_in (T := T) (n := n) (ok := kd T n s1 = 59) (s := s1) (f := f1) (by omega)
  refine ⟨μ2, ν2, _, _, ?_, ?_, a2, b2', h3.tr (a3.mono (fun k j q => p1_sp q)), h6.tr (b3.mono (fun k j q => at_rd q)), fun hf => ?_⟩
  · rw [h1, bv_some, a1]
  · rw [h4, bv_some, b1, bv_some]
  · obtain ⟨u1, _⟩ := oF_ok (by omega) hf
    obtain ⟨x1, x2⟩ := h7 u1
    exact ⟨by omega, x2.fr hb a3 b3 bs.1⟩
theorem r_tk_y (hT : tB T n) (hN : 500 ≤ N) (hX : RX T n s (-1) ν) (hs : sk T n s = s) {k : Nat} (hk : k < 35) (hw : isW T n s k = true) : fX11_takes N k ν = some (I_ 1, stI ν 0 16 (I_ (s + lw_ k))) := by
  have hkT : kT k := hk
  have el : fJ0_length k ν = some (I_ (lw_ k : Int), ν) := by
    unfold fJ0_length
    rw [if_pos hkT, nI_I]
    rfl
  have w := r_isWs hT hN hX hs hk
  rw [b2_t hw] at w
  unfold fX11_takes
  rw [if_pos hkT, r_wq hX]
  simp (disch := omega) only [Int.reduceEq, Int.reduceNe, Int.reduceLT, Int.reduceLE, Int.reduceAdd, Int.reduceSub, Int.reduceMul, Int.reduceNeg, Int.zero_add, Int.add_zero, nm_eq, bd_some, bv_some, aI_ok, aL_ok, aS_ok, dv_ok, dw_ok, I_add, I_sub, I_mul, I_neg, I_lt, I_le, I_eq, I_nat, J_add, J_sub, J_mul, J_neg, J_lt, J_le, J_eq, I_l, J_i, I_div, J_div, b2_0, b2_1, b2_nar, nar_0, nar_1, zr_0, zr_1, zr_b2, cmp_eq, cmp_le, cmp_lt, cmp_gt, cmp_ge, mx_I, mn_I, mx_L, mn_L, az_I, if_true, if_false, not_true_eq_false, not_false_eq_true, Bool.false_eq_true, i_0, i_1, i_2, i_3, i_4, i_5, i_6, i_7, i_8, i_9, i_10, i_11, i_12, i_16, i_18, i_20, i_24, i_28, i_29, i_30, i_31, i_32, i_33, i_34, i_35, i_37, i_40, i_41, i_42, i_43, i_45, i_46, i_47, i_48, i_57, i_59, i_63, i_64, i_96, i_97, i_98, i_99, i_100, i_101, i_102, i_103, i_104, i_105, i_106, i_107, i_108, i_109, i_110, i_111, i_112, i_113, i_122, i_200, i_255, i_256, i_257, i_258, i_355, i_400, i_999, i_1000, i_1200, i_5680, i_9999, i_10000, i_99999, j_0, j_1, j_2, j_3, j_4, j_5, j_6, j_9, j_10, j_11, j_98, j_99, j_100, j_999, j_1000, j_9999, j_10000, j_99999, j_1000000, w, hX.2.2.1, el]
theorem r_tk_n (hT : tB T n) (hN : 500 ≤ N) (hX : RX T n s (-1) ν) (hs : sk T n s = s) {k : Nat} (hk : k < 35) (hw : ¬ isW T n s k = true) : fX11_takes N k ν = some (I_ 0, ν) := by
  have hkT : kT k := hk
  have w := r_isWs hT hN hX hs hk
  rw [b2_f hw] at w
  unfold fX11_takes
  rw [if_pos hkT, r_wq hX]
  simp (disch := omega) only [Int.reduceEq, Int.reduceNe, Int.reduceLT, Int.reduceLE, Int.reduceAdd, Int.reduceSub, Int.reduceMul, Int.reduceNeg, Int.zero_add, Int.add_zero, nm_eq, bd_some, bv_some, aI_ok, aL_ok, aS_ok, dv_ok, dw_ok, I_add, I_sub, I_mul, I_neg, I_lt, I_le, I_eq, I_nat, J_add, J_sub, J_mul, J_neg, J_lt, J_le, J_eq, I_l, J_i, I_div, J_div, b2_0, b2_1, b2_nar, nar_0, nar_1, zr_0, zr_1, zr_b2, cmp_eq, cmp_le, cmp_lt, cmp_gt, cmp_ge, mx_I, mn_I, mx_L, mn_L, az_I, if_true, if_false, not_true_eq_false, not_false_eq_true, Bool.false_eq_true, i_0, i_1, i_2, i_3, i_4, i_5, i_6, i_7, i_8, i_9, i_10, i_11, i_12, i_16, i_18, i_20, i_24, i_28, i_29, i_30, i_31, i_32, i_33, i_34, i_35, i_37, i_40, i_41, i_42, i_43, i_45, i_46, i_47, i_48, i_57, i_59, i_63, i_64, i_96, i_97, i_98, i_99, i_100, i_101, i_102, i_103, i_104, i_105, i_106, i_107, i_108, i_109, i_110, i_111, i_112, i_113, i_122, i_200, i_255, i_256, i_257, i_258, i_355, i_400, i_999, i_1000, i_1200, i_5680, i_9999, i_10000, i_99999, j_0, j_1, j_2, j_3, j_4, j_5, j_6, j_9, j_10, j_11, j_98, j_99, j_100, j_999, j_1000, j_9999, j_10000, j_99999, j_1000000, w]
theorem r_w_y (hT : tB T n) (hN : 500 ≤ N) (hX : RX T n s (-1) ν) (hs : sk T n s = s) {k : Nat} (hk : k < 35) (hw : isW T n s k = true) : fX11_isWord N k ν = some (I_ 1, ν) := by
  have w := r_isWs hT hN hX hs hk
  rw [b2_t hw] at w
  exact w
theorem r_w_n (hT : tB T n) (hN : 500 ≤ N) (hX : RX T n s (-1) ν) (hs : sk T n s = s) {k : Nat} (hk : k < 35) (hw : ¬ isW T n s k = true) : fX11_isWord N k ν = some (I_ 0, ν) := by
  have w := r_isWs hT hN hX hs hk
  rw [b2_f hw] at w
  exact w
theorem B_line (hT : tB T n) (hN : 500 ≤ N) (hb : kB b) (hC : CR T n b s (-1) μ) (hR : RR T n s (-1) ν) (hB : PBx b s μ ν) : LE T n b s μ ν (bv (fX5_line N μ) fun μ => fX5_take N (I_ 59) μ) (fX11_line N ν) := by
  obtain ⟨V, Lm, Am, Lf, Af, K, fo, q, hP, hc, hd0, q0, q1⟩ := hB
  have hV := hP.1
  have hn := hV.1
  unfold vN at hn
  have ci := hC.in_
  have n1 := hT.2.1
  obtain ⟨r, hX0, hr⟩ := hR
  have i0 := hX0.2.2.2.2.1
  have hsk := hr rfl
  have hh := r_here hT hN hX0
  have hid := sk_id (T := T) i0.2
  rw [hsk] at hh hid
  have hX := hX0.at (i := s) (by omega) (by omega)
  have g16 : Fr P_at ν (stI ν 0 16 (I_ s)) := P_a16 Fr.rf
  have hd := hd0.at_ hV g16
  have ck := c_keyword hT hN hC
  have z0 : (I_ 0 = (0 : Int32)) := rfl
  have z1 : ¬ (I_ 1 = (0 : Int32)) := by decide
  have e59 : (59 : Int32) = I_ 59 := rfl
  -- from the memory that stands at s to the one before
  have back : ∀ {c r : Option (Unit × Mem)}, LE T n b s μ (stI ν 0 16 (I_ s)) c r → LE T n b s μ ν c r := fun h => by
    obtain ⟨μ', ν', s', f', h1, h2, h3, h4, h5, h6, h7⟩ := h
    exact ⟨μ', ν', s', f', h1, h2, h3, h4, h5, (g16.mono (fun k j q => at_rd q)).tr h6, h7⟩
  -- the class's side
  have cls : ∀ (i : Int) (o : Option (Unit × Mem)), kwd T n s = i → 0 ≤ i → i ≤ 7 → (∀ (k : Int32), k = I_ i → (if k = (0 : Int32) then bv (fX5_modelLine N μ) fun μ => some ((), μ) else if k = (1 : Int32) then bv (fX5_firmLine N μ) fun μ => some ((), μ) else if k = (2 : Int32) then bv (fX5_silentLine N μ) fun μ => some ((), μ) else if k = (3 : Int32) then bv (fX5_costLine N μ) fun μ => some ((), μ) else if k = (4 : Int32) then bv (fX5_adjustLine N μ) fun μ => some ((), μ) else if k = (5 : Int32) then bv (fX5_sellLine N μ) fun μ => some ((), μ) else if k = (6 : Int32) then bv (fX5_settingLine N (4 : Int32) μ) fun μ => some ((), μ) else if k = (7 : Int32) then bv (fX5_settingLine N (5 : Int32) μ) fun μ => some ((), μ) else bv (fX5_fail N μ) fun μ => some ((), μ)) = bv o fun μ => some ((), μ)) → (bv (fX5_line N μ) fun μ => fX5_take N (I_ 59) μ) = bv o fun μ => fX5_take N (I_ 59) μ := fun i o hi _ _ h => by
    unfold fX5_line
    rw [ck, bd_some, hi, h _ rfl, bv_bv]
    rfl
  by_cases h0 : isW T n s 0 = true
  · have kw : kwd T n s = 0 := by unfold kwd; rw [if_pos h0]
    rw [cls 0 (fX5_modelLine N μ) kw (by omega) (by omega) (fun k e => by rw [e]; rfl)]
    refine back ?_
    have h18 : (stI ν 0 16 (I_ s)).1 0 18 = I_ (mN V) := hd.2.2.1.1
    by_cases h6 : mN V = 6
    · have hw := r_wr (N := N) hX
      rw [if_pos rfl] at hw
      have hwX := hX.wr (i := s) (by omega) (by omega)
      have sf : ¬ s = -1 := by omega
      have er : fX11_line N ν = bv (fX11_modelLine N (stI (stI (stI ν 0 16 (I_ s)) 0 17 (I_ s)) 0 16 (I_ s))) fun μ => bv (fX11_sign N (I_ 59) μ) fun μ => some ((), μ) := by
        unfold fX11_line
        rw [hh, bd_some, r_w_y hT hN hX hid (by omega) h0, bd_some, if_neg z1, nm_eq, h18, h6, if_pos (show I_ 6 = 6 from rfl), hw, bv_some]
        simp (disch := omega) only [fX11_line_27, Int.reduceEq, Int.reduceNe, Int.reduceLT, Int.reduceLE, Int.reduceAdd, Int.reduceSub, Int.reduceMul, Int.reduceNeg, Int.zero_add, Int.add_zero, nm_eq, bd_some, bv_some, aI_ok, aL_ok, aS_ok, dv_ok, dw_ok, I_add, I_sub, I_mul, I_neg, I_lt, I_le, I_eq, I_nat, J_add, J_sub, J_mul, J_neg, J_lt, J_le, J_eq, I_l, J_i, I_div, J_div, b2_0, b2_1, b2_nar, nar_0, nar_1, zr_0, zr_1, zr_b2, cmp_eq, cmp_le, cmp_lt, cmp_gt, cmp_ge, mx_I, mn_I, mx_L, mn_L, az_I, if_true, if_false, not_true_eq_false, not_false_eq_true, Bool.false_eq_true, i_0, i_1, i_2, i_3, i_4, i_5, i_6, i_7, i_8, i_9, i_10, i_11, i_12, i_16, i_18, i_20, i_24, i_28, i_29, i_30, i_31, i_32, i_33, i_34, i_35, i_37, i_40, i_41, i_42, i_43, i_45, i_46, i_47, i_48, i_57, i_59, i_63, i_64, i_96, i_97, i_98, i_99, i_100, i_101, i_102, i_103, i_104, i_105, i_106, i_107, i_108, i_109, i_110, i_111, i_112, i_113, i_122, i_200, i_255, i_256, i_257, i_258, i_355, i_400, i_999, i_1000, i_1200, i_5680, i_9999, i_10000, i_99999, j_0, j_1, j_2, j_3, j_4, j_5, j_6, j_9, j_10, j_11, j_98, j_99, j_100, j_999, j_1000, j_9999, j_10000, j_99999, j_1000000, hwX.2.2.1, r_wq hwX, sf]
      rw [er]
      exact lt_end hT hN hb (l_model_n hT hN hb hC hX hP hc hd h6)
    · have er : fX11_line N ν = bv (fX11_modelLine N (stI (stI ν 0 16 (I_ s)) 0 16 (I_ (s + lw_ 0)))) fun μ => bv (fX11_sign N (I_ 59) μ) fun μ => some ((), μ) := by
        have h6' : ¬ (I_ (mN V) = (6 : Int32)) := by rw [i_6, I_eq (by omega) (by omega) (by omega) (by omega)]; exact h6
        unfold fX11_line
        rw [hh, bd_some, r_w_y hT hN hX hid (by omega) h0, bd_some, if_neg z1, nm_eq, h18, if_neg h6']
        have e5 : ((lw_ 0 : Nat) : Int) = 5 := rfl
        rw [e5]
        simp (disch := omega) only [fX11_line_27, Int.reduceEq, Int.reduceNe, Int.reduceLT, Int.reduceLE, Int.reduceAdd, Int.reduceSub, Int.reduceMul, Int.reduceNeg, Int.zero_add, Int.add_zero, nm_eq, bd_some, bv_some, aI_ok, aL_ok, aS_ok, dv_ok, dw_ok, I_add, I_sub, I_mul, I_neg, I_lt, I_le, I_eq, I_nat, J_add, J_sub, J_mul, J_neg, J_lt, J_le, J_eq, I_l, J_i, I_div, J_div, b2_0, b2_1, b2_nar, nar_0, nar_1, zr_0, zr_1, zr_b2, cmp_eq, cmp_le, cmp_lt, cmp_gt, cmp_ge, mx_I, mn_I, mx_L, mn_L, az_I, if_true, if_false, not_true_eq_false, not_false_eq_true, Bool.false_eq_true, i_0, i_1, i_2, i_3, i_4, i_5, i_6, i_7, i_8, i_9, i_10, i_11, i_12, i_16, i_18, i_20, i_24, i_28, i_29, i_30, i_31, i_32, i_33, i_34, i_35, i_37, i_40, i_41, i_42, i_43, i_45, i_46, i_47, i_48, i_57, i_59, i_63, i_64, i_96, i_97, i_98, i_99, i_100, i_101, i_102, i_103, i_104, i_105, i_106, i_107, i_108, i_109, i_110, i_111, i_112, i_113, i_122, i_200, i_255, i_256, i_257, i_258, i_355, i_400, i_999, i_1000, i_1200, i_5680, i_9999, i_10000, i_99999, j_0, j_1, j_2, j_3, j_4, j_5, j_6, j_9, j_10, j_11, j_98, j_99, j_100, j_999, j_1000, j_9999, j_10000, j_99999, j_1000000, hX.2.2.1, r_wq hX]
      rw [er]
      exact lt_end hT hN hb (l_model_y hT hN hb hC hX hid (by omega) h0 hP hc hd q0 q1 (by omega))
  by_cases h1 : isW T n s 1 = true
  · have kw : kwd T n s = 1 := by unfold kwd; rw [if_neg h0, if_pos h1]
    rw [cls 1 (fX5_firmLine N μ) kw (by omega) (by omega) (fun k e => by rw [e]; rfl)]
    refine back ?_
    have h19 : (stI ν 0 16 (I_ s)).1 0 19 = I_ (fN V) := hd.2.2.2.1.1
    by_cases h4 : fN V = 4
    · have hw := r_wr (N := N) hX
      rw [if_pos rfl] at hw
      have hwX := hX.wr (i := s) (by omega) (by omega)
      have sf : ¬ s = -1 := by omega
      have er : fX11_line N ν = bv (fX11_firmLine N (stI (stI (stI ν 0 16 (I_ s)) 0 17 (I_ s)) 0 16 (I_ s))) fun μ => bv (fX11_sign N (I_ 59) μ) fun μ => some ((), μ) := by
        unfold fX11_line
        rw [hh, bd_some, r_w_n hT hN hX hid (by omega) h0, bd_some, if_pos z0, r_w_y hT hN hX hid (by omega) h1, bd_some, if_neg z1, nm_eq, h19, h4, if_pos (show I_ 4 = 4 from rfl), hw, bv_some]
        simp (disch := omega) only [fX11_line_76, Int.reduceEq, Int.reduceNe, Int.reduceLT, Int.reduceLE, Int.reduceAdd, Int.reduceSub, Int.reduceMul, Int.reduceNeg, Int.zero_add, Int.add_zero, nm_eq, bd_some, bv_some, aI_ok, aL_ok, aS_ok, dv_ok, dw_ok, I_add, I_sub, I_mul, I_neg, I_lt, I_le, I_eq, I_nat, J_add, J_sub, J_mul, J_neg, J_lt, J_le, J_eq, I_l, J_i, I_div, J_div, b2_0, b2_1, b2_nar, nar_0, nar_1, zr_0, zr_1, zr_b2, cmp_eq, cmp_le, cmp_lt, cmp_gt, cmp_ge, mx_I, mn_I, mx_L, mn_L, az_I, if_true, if_false, not_true_eq_false, not_false_eq_true, Bool.false_eq_true, i_0, i_1, i_2, i_3, i_4, i_5, i_6, i_7, i_8, i_9, i_10, i_11, i_12, i_16, i_18, i_20, i_24, i_28, i_29, i_30, i_31, i_32, i_33, i_34, i_35, i_37, i_40, i_41, i_42, i_43, i_45, i_46, i_47, i_48, i_57, i_59, i_63, i_64, i_96, i_97, i_98, i_99, i_100, i_101, i_102, i_103, i_104, i_105, i_106, i_107, i_108, i_109, i_110, i_111, i_112, i_113, i_122, i_200, i_255, i_256, i_257, i_258, i_355, i_400, i_999, i_1000, i_1200, i_5680, i_9999, i_10000, i_99999, j_0, j_1, j_2, j_3, j_4, j_5, j_6, j_9, j_10, j_11, j_98, j_99, j_100, j_999, j_1000, j_9999, j_10000, j_99999, j_1000000, hwX.2.2.1, r_wq hwX, sf]
      rw [er]
      exact lt_end hT hN hb (l_firm_n hT hN hb hC hX hP hc hd h4)
    · have er : fX11_line N ν = bv (fX11_firmLine N (stI (stI ν 0 16 (I_ s)) 0 16 (I_ (s + lw_ 1)))) fun μ => bv (fX11_sign N (I_ 59) μ) fun μ => some ((), μ) := by
        have h4' : ¬ (I_ (fN V) = (4 : Int32)) := by rw [i_4, I_eq (by omega) (by omega) (by omega) (by omega)]; exact h4
        unfold fX11_line
        rw [hh, bd_some, r_w_n hT hN hX hid (by omega) h0, bd_some, if_pos z0, r_w_y hT hN hX hid (by omega) h1, bd_some, if_neg z1, nm_eq, h19, if_neg h4']
        have e5 : ((lw_ 1 : Nat) : Int) = 4 := rfl
        rw [e5]
        simp (disch := omega) only [fX11_line_76, Int.reduceEq, Int.reduceNe, Int.reduceLT, Int.reduceLE, Int.reduceAdd, Int.reduceSub, Int.reduceMul, Int.reduceNeg, Int.zero_add, Int.add_zero, nm_eq, bd_some, bv_some, aI_ok, aL_ok, aS_ok, dv_ok, dw_ok, I_add, I_sub, I_mul, I_neg, I_lt, I_le, I_eq, I_nat, J_add, J_sub, J_mul, J_neg, J_lt, J_le, J_eq, I_l, J_i, I_div, J_div, b2_0, b2_1, b2_nar, nar_0, nar_1, zr_0, zr_1, zr_b2, cmp_eq, cmp_le, cmp_lt, cmp_gt, cmp_ge, mx_I, mn_I, mx_L, mn_L, az_I, if_true, if_false, not_true_eq_false, not_false_eq_true, Bool.false_eq_true, i_0, i_1, i_2, i_3, i_4, i_5, i_6, i_7, i_8, i_9, i_10, i_11, i_12, i_16, i_18, i_20, i_24, i_28, i_29, i_30, i_31, i_32, i_33, i_34, i_35, i_37, i_40, i_41, i_42, i_43, i_45, i_46, i_47, i_48, i_57, i_59, i_63, i_64, i_96, i_97, i_98, i_99, i_100, i_101, i_102, i_103, i_104, i_105, i_106, i_107, i_108, i_109, i_110, i_111, i_112, i_113, i_122, i_200, i_255, i_256, i_257, i_258, i_355, i_400, i_999, i_1000, i_1200, i_5680, i_9999, i_10000, i_99999, j_0, j_1, j_2, j_3, j_4, j_5, j_6, j_9, j_10, j_11, j_98, j_99, j_100, j_999, j_1000, j_9999, j_10000, j_99999, j_1000000, hX.2.2.1, r_wq hX]
      rw [er]
      exact lt_end hT hN hb (l_firm_y hT hN hb hC hX hid (by omega) h1 hP hc hd q0 q1 (by omega))
  by_cases h2 : isW T n s 2 = true
  · have kw : kwd T n s = 2 := by unfold kwd; rw [if_neg h0, if_neg h1, if_pos h2]
    rw [cls 2 (fX5_silentLine N μ) kw (by omega) (by omega) (fun k e => by rw [e]; rfl)]
    refine back ?_
    have hL := lt_end hT hN hb (l_silent hT hN hb hC hX hid (by omega) h2 hP hc hd q0 q1)
    have er : fX11_line N ν = (bv (bd (fX11_told N (I_ 1) (stI (stI ν 0 16 (I_ s)) 0 16 (I_ (s + lw_ 2)))) fun r13 μ => bd (fX11_isWrong N μ) fun r14 μ => (if r14 = I_ 0 then aS 355 (I_ 24 + r13) <| nm (stI μ 2 (I_ 24 + r13).toNatClampNeg (I_ 1)) fun μ => some ((), μ) else aS 355 (I_ 24 + r13) <| nm (stI μ 2 (I_ 24 + r13).toNatClampNeg (I_ 0)) fun μ => some ((), μ))) fun μ => bv (fX11_sign N (I_ 59) μ) fun μ => some ((), μ)) := by
      unfold fX11_line
      rw [hh, bd_some, r_w_n hT hN hX hid (by omega) h0, bd_some, if_pos z0, r_w_n hT hN hX hid (by omega) h1, bd_some, if_pos z0, r_tk_y hT hN hX hid (by omega) h2, bd_some, if_neg z1, bd_bv]
      refine congrArg (bd _) (funext fun r13 => funext fun μ => ?_)
      rw [bd_bv]
      refine congrArg (bd _) (funext fun r14 => funext fun μ => ?_)
      by_cases e : r14 = 0
      · rw [if_pos e, if_pos (show r14 = I_ 0 from e)]
        unfold aS
        by_cases e2 : (24 : Int32) + r13 < 0 ∨ 355 ≤ ((24 : Int32) + r13).toNatClampNeg
        · rw [if_pos e2, if_pos (show I_ 24 + r13 < 0 ∨ 355 ≤ (I_ 24 + r13).toNatClampNeg from e2)]; rfl
        · rw [if_neg e2, if_neg (show ¬ (I_ 24 + r13 < 0 ∨ 355 ≤ (I_ 24 + r13).toNatClampNeg) from e2)]; rfl
      · rw [if_neg e, if_neg (show ¬ r14 = I_ 0 from e)]
        unfold aS
        by_cases e2 : (24 : Int32) + r13 < 0 ∨ 355 ≤ ((24 : Int32) + r13).toNatClampNeg
        · rw [if_pos e2, if_pos (show I_ 24 + r13 < 0 ∨ 355 ≤ (I_ 24 + r13).toNatClampNeg from e2)]; rfl
        · rw [if_neg e2, if_neg (show ¬ (I_ 24 + r13 < 0 ∨ 355 ≤ (I_ 24 + r13).toNatClampNeg) from e2)]; rfl
    rw [er]
    exact hL
  by_cases h3 : isW T n s 3 = true
  · have kw : kwd T n s = 3 := by unfold kwd; rw [if_neg h0, if_neg h1, if_neg h2, if_pos h3]
    rw [cls 3 (fX5_costLine N μ) kw (by omega) (by omega) (fun k e => by rw [e]; rfl)]
    refine back ?_
    have hL := lt_end hT hN hb (l_cost hT hN hb hC hX hid (by omega) h3 hP hc hd q0 q1)
    have er : fX11_line N ν = bv (fX11_costLine N (stI (stI ν 0 16 (I_ s)) 0 16 (I_ (s + lw_ 3)))) fun μ => bv (fX11_sign N (I_ 59) μ) fun μ => some ((), μ) := by
      unfold fX11_line
      rw [hh, bd_some, r_w_n hT hN hX hid (by omega) h0, bd_some, if_pos z0, r_w_n hT hN hX hid (by omega) h1, bd_some, if_pos z0, r_tk_n hT hN hX hid (by omega) h2, bd_some, if_pos z0, r_tk_y hT hN hX hid (by omega) h3, bd_some, if_neg z1]
      rfl
    rw [er]
    exact hL
  by_cases h4 : isW T n s 4 = true
  · have kw : kwd T n s = 4 := by unfold kwd; rw [if_neg h0, if_neg h1, if_neg h2, if_neg h3, if_pos h4]
    rw [cls 4 (fX5_adjustLine N μ) kw (by omega) (by omega) (fun k e => by rw [e]; rfl)]
    refine back ?_
    have hL := lt_end hT hN hb (l_adj hT hN hb hC hX hid (by omega) h4 hP hc hd q0 q1)
    have er : fX11_line N ν = bv (fX11_adjustLine N (stI (stI ν 0 16 (I_ s)) 0 16 (I_ (s + lw_ 4)))) fun μ => bv (fX11_sign N (I_ 59) μ) fun μ => some ((), μ) := by
      unfold fX11_line
      rw [hh, bd_some, r_w_n hT hN hX hid (by omega) h0, bd_some, if_pos z0, r_w_n hT hN hX hid (by omega) h1, bd_some, if_pos z0, r_tk_n hT hN hX hid (by omega) h2, bd_some, if_pos z0, r_tk_n hT hN hX hid (by omega) h3, bd_some, if_pos z0, r_tk_y hT hN hX hid (by omega) h4, bd_some, if_neg z1]
      rfl
    rw [er]
    exact hL
  by_cases h5 : isW T n s 5 = true
  · have kw : kwd T n s = 5 := by unfold kwd; rw [if_neg h0, if_neg h1, if_neg h2, if_neg h3, if_neg h4, if_pos h5]
    rw [cls 5 (fX5_sellLine N μ) kw (by omega) (by omega) (fun k e => by rw [e]; rfl)]
    refine back ?_
    have h34 : (stI ν 0 16 (I_ s)).1 2 (34 : Int).toNat = I_ (sN V) := hd.2.1
    have hpre : fX11_line N ν = aI (stI ν 0 16 (I_ s)) 2 355 (34 : Int32) fun x12 => (if x12 = (40 : Int32) then bv (fX11_wrong N (stI ν 0 16 (I_ s))) fun μ => (fX11_line_200 N μ) else (fX11_line_200 N (stI ν 0 16 (I_ s)))) := by
      unfold fX11_line
      rw [hh, bd_some, r_w_n hT hN hX hid (by omega) h0, bd_some, if_pos z0, r_w_n hT hN hX hid (by omega) h1, bd_some, if_pos z0, r_tk_n hT hN hX hid (by omega) h2, bd_some, if_pos z0, r_tk_n hT hN hX hid (by omega) h3, bd_some, if_pos z0, r_tk_n hT hN hX hid (by omega) h4, bd_some, if_pos z0, r_w_y hT hN hX hid (by omega) h5, bd_some, if_neg z1]
    by_cases h40 : sN V = 40
    · have hw := r_wr (N := N) hX
      rw [if_pos rfl] at hw
      have hwX := hX.wr (i := s) (by omega) (by omega)
      have hwY := hwX.at (i := s) (by omega) (by omega)
      have sf : ¬ s = -1 := by omega
      have er : fX11_line N ν = bv (some ((), stI (stI (stI ν 0 16 (I_ s)) 0 17 (I_ s)) 0 16 (I_ s))) fun μ => bv (fX11_sign N (I_ 59) μ) fun μ => some ((), μ) := by
        rw [hpre]
        have h34' : (stI ν 0 16 (I_ s)).1 2 (34 : Int).toNat = I_ 40 := by rw [← h40]; exact h34
        simp (disch := omega) only [fX11_line_200, fX11_line_217, Int.reduceEq, Int.reduceNe, Int.reduceLT, Int.reduceLE, Int.reduceAdd, Int.reduceSub, Int.reduceMul, Int.reduceNeg, Int.zero_add, Int.add_zero, nm_eq, bd_some, bv_some, aI_ok, aL_ok, aS_ok, dv_ok, dw_ok, I_add, I_sub, I_mul, I_neg, I_lt, I_le, I_eq, I_nat, J_add, J_sub, J_mul, J_neg, J_lt, J_le, J_eq, I_l, J_i, I_div, J_div, b2_0, b2_1, b2_nar, nar_0, nar_1, zr_0, zr_1, zr_b2, cmp_eq, cmp_le, cmp_lt, cmp_gt, cmp_ge, mx_I, mn_I, mx_L, mn_L, az_I, if_true, if_false, not_true_eq_false, not_false_eq_true, Bool.false_eq_true, i_0, i_1, i_2, i_3, i_4, i_5, i_6, i_7, i_8, i_9, i_10, i_11, i_12, i_16, i_18, i_20, i_24, i_28, i_29, i_30, i_31, i_32, i_33, i_34, i_35, i_37, i_40, i_41, i_42, i_43, i_45, i_46, i_47, i_48, i_57, i_59, i_63, i_64, i_96, i_97, i_98, i_99, i_100, i_101, i_102, i_103, i_104, i_105, i_106, i_107, i_108, i_109, i_110, i_111, i_112, i_113, i_122, i_200, i_255, i_256, i_257, i_258, i_355, i_400, i_999, i_1000, i_1200, i_5680, i_9999, i_10000, i_99999, j_0, j_1, j_2, j_3, j_4, j_5, j_6, j_9, j_10, j_11, j_98, j_99, j_100, j_999, j_1000, j_9999, j_10000, j_99999, j_1000000, h34', hw, hwX.2.2.1, r_wq hwX, sf, r_wq hwY]
      rw [er]
      exact lt_end hT hN hb (l_sell_n hT hb hC hX hc h40)
    · have hwY := hX.at (i := s + lw_ 5) (by have : lw_ 5 = 4 := rfl; omega) (r_kw hT hX hid (by omega) h5).1
      have er : fX11_line N ν = bv (fX11_sellLine N (stI (stI ν 0 16 (I_ s)) 0 16 (I_ (s + lw_ 5)))) fun μ => bv (fX11_sign N (I_ 59) μ) fun μ => some ((), μ) := by
        have e5 : ((lw_ 5 : Nat) : Int) = 4 := rfl
        rw [hpre, e5]
        rw [e5] at hwY
        simp (disch := omega) only [fX11_line_200, fX11_line_217, Int.reduceEq, Int.reduceNe, Int.reduceLT, Int.reduceLE, Int.reduceAdd, Int.reduceSub, Int.reduceMul, Int.reduceNeg, Int.zero_add, Int.add_zero, nm_eq, bd_some, bv_some, aI_ok, aL_ok, aS_ok, dv_ok, dw_ok, I_add, I_sub, I_mul, I_neg, I_lt, I_le, I_eq, I_nat, J_add, J_sub, J_mul, J_neg, J_lt, J_le, J_eq, I_l, J_i, I_div, J_div, b2_0, b2_1, b2_nar, nar_0, nar_1, zr_0, zr_1, zr_b2, cmp_eq, cmp_le, cmp_lt, cmp_gt, cmp_ge, mx_I, mn_I, mx_L, mn_L, az_I, if_true, if_false, not_true_eq_false, not_false_eq_true, Bool.false_eq_true, i_0, i_1, i_2, i_3, i_4, i_5, i_6, i_7, i_8, i_9, i_10, i_11, i_12, i_16, i_18, i_20, i_24, i_28, i_29, i_30, i_31, i_32, i_33, i_34, i_35, i_37, i_40, i_41, i_42, i_43, i_45, i_46, i_47, i_48, i_57, i_59, i_63, i_64, i_96, i_97, i_98, i_99, i_100, i_101, i_102, i_103, i_104, i_105, i_106, i_107, i_108, i_109, i_110, i_111, i_112, i_113, i_122, i_200, i_255, i_256, i_257, i_258, i_355, i_400, i_999, i_1000, i_1200, i_5680, i_9999, i_10000, i_99999, j_0, j_1, j_2, j_3, j_4, j_5, j_6, j_9, j_10, j_11, j_98, j_99, j_100, j_999, j_1000, j_9999, j_10000, j_99999, j_1000000, h34, h40, hX.2.2.1, r_wq hX, r_wq hwY]
      rw [er]
      exact lt_end hT hN hb (l_sell_y hT hN hb hC hX hid (by omega) h5 hP hc hd q0 q1 (by omega))
  by_cases h6 : isW T n s 6 = true
  · have kw : kwd T n s = 6 := by unfold kwd; rw [if_neg h0, if_neg h1, if_neg h2, if_neg h3, if_neg h4, if_neg h5, if_pos h6]
    rw [cls 6 (fX5_settingLine N (I_ 4) μ) kw (by omega) (by omega) (fun k e => by rw [e]; rfl)]
    refine back ?_
    have hL := lt_end hT hN hb (l_set hT hN hb hC hX hid (by omega) h6 hP hc hd q0 q1 (w := 4) (by omega) (by omega))
    have er : fX11_line N ν = (bv (bd (fX11_numberIn N (I_ 0) (I_ 99) (stI (stI ν 0 16 (I_ s)) 0 16 (I_ (s + lw_ 6)))) fun r μ => nm (stI μ 2 (28 + (4 : Int)).toNat r) fun μ => some ((), μ)) fun μ => bv (fX11_sign N (I_ 59) μ) fun μ => some ((), μ)) := by
      unfold fX11_line
      rw [hh, bd_some, r_w_n hT hN hX hid (by omega) h0, bd_some, if_pos z0, r_w_n hT hN hX hid (by omega) h1, bd_some, if_pos z0, r_tk_n hT hN hX hid (by omega) h2, bd_some, if_pos z0, r_tk_n hT hN hX hid (by omega) h3, bd_some, if_pos z0, r_tk_n hT hN hX hid (by omega) h4, bd_some, if_pos z0, r_w_n hT hN hX hid (by omega) h5, bd_some, if_pos z0, r_tk_y hT hN hX hid (by omega) h6, bd_some, if_neg z1, bd_bv]
      rfl
    rw [er]
    exact hL
  by_cases h7 : isW T n s 7 = true
  · have kw : kwd T n s = 7 := by unfold kwd; rw [if_neg h0, if_neg h1, if_neg h2, if_neg h3, if_neg h4, if_neg h5, if_neg h6, if_pos h7]
    rw [cls 7 (fX5_settingLine N (I_ 5) μ) kw (by omega) (by omega) (fun k e => by rw [e]; rfl)]
    refine back ?_
    have hL := lt_end hT hN hb (l_set hT hN hb hC hX hid (by omega) h7 hP hc hd q0 q1 (w := 5) (by omega) (by omega))
    have er : fX11_line N ν = (bv (bd (fX11_numberIn N (I_ 0) (I_ 99) (stI (stI ν 0 16 (I_ s)) 0 16 (I_ (s + lw_ 7)))) fun r μ => nm (stI μ 2 (28 + (5 : Int)).toNat r) fun μ => some ((), μ)) fun μ => bv (fX11_sign N (I_ 59) μ) fun μ => some ((), μ)) := by
      unfold fX11_line
      rw [hh, bd_some, r_w_n hT hN hX hid (by omega) h0, bd_some, if_pos z0, r_w_n hT hN hX hid (by omega) h1, bd_some, if_pos z0, r_tk_n hT hN hX hid (by omega) h2, bd_some, if_pos z0, r_tk_n hT hN hX hid (by omega) h3, bd_some, if_pos z0, r_tk_n hT hN hX hid (by omega) h4, bd_some, if_pos z0, r_w_n hT hN hX hid (by omega) h5, bd_some, if_pos z0, r_tk_n hT hN hX hid (by omega) h6, bd_some, if_pos z0, r_tk_y hT hN hX hid (by omega) h7, bd_some, if_neg z1, bd_bv]
      rfl
    rw [er]
    exact hL
  -- no line begins so
  have kw : kwd T n s = -1 ∨ 8 ≤ kwd T n s := by
    have hk := kwd_in T n s
    unfold kwd
    rw [if_neg h0, if_neg h1, if_neg h2, if_neg h3, if_neg h4, if_neg h5, if_neg h6, if_neg h7]
    (repeat' split) <;> omega
  have hkb := kwd_in T n s
  have hfl := c_fail (N := N) hC n1
  rw [if_pos rfl] at hfl
  obtain ⟨μ1, e1, e2, e3⟩ := hfl
  have sf : ¬ s = -1 := by omega
  have hw := r_wr (N := N) hX
  rw [if_pos rfl] at hw
  have hwX := hX.wr (i := s) (by omega) (by omega)
  have er : fX11_line N ν = (bv (some ((), stI (stI ν 0 16 (I_ s)) 0 17 (I_ s))) fun μ => bv (fX11_sign N (I_ 59) μ) fun μ => some ((), μ)) := by
    unfold fX11_line
    rw [hh, bd_some, r_w_n hT hN hX hid (by omega) h0, bd_some, if_pos z0, r_w_n hT hN hX hid (by omega) h1, bd_some, if_pos z0, r_tk_n hT hN hX hid (by omega) h2, bd_some, if_pos z0, r_tk_n hT hN hX hid (by omega) h3, bd_some, if_pos z0, r_tk_n hT hN hX hid (by omega) h4, bd_some, if_pos z0, r_w_n hT hN hX hid (by omega) h5, bd_some, if_pos z0, r_tk_n hT hN hX hid (by omega) h6, bd_some, if_pos z0, r_tk_n hT hN hX hid (by omega) h7, bd_some, if_pos z0, hw, bv_some]
    rfl
  have ec : (bv (fX5_line N μ) fun μ => fX5_take N (I_ 59) μ) = bv (some ((), μ1)) fun μ => fX5_take N (I_ 59) μ := by
    have l0 : ¬ kwd T n s = 0 := by omega
    have l1 : ¬ kwd T n s = 1 := by omega
    have l2 : ¬ kwd T n s = 2 := by omega
    have l3 : ¬ kwd T n s = 3 := by omega
    have l4 : ¬ kwd T n s = 4 := by omega
    have l5 : ¬ kwd T n s = 5 := by omega
    have l6 : ¬ kwd T n s = 6 := by omega
    have l7 : ¬ kwd T n s = 7 := by omega
    unfold fX5_line
    rw [ck, bd_some]
    simp (disch := omega) only [Int.reduceEq, Int.reduceNe, Int.reduceLT, Int.reduceLE, Int.reduceAdd, Int.reduceSub, Int.reduceMul, Int.reduceNeg, Int.zero_add, Int.add_zero, nm_eq, bd_some, bv_some, aI_ok, aL_ok, aS_ok, dv_ok, dw_ok, I_add, I_sub, I_mul, I_neg, I_lt, I_le, I_eq, I_nat, J_add, J_sub, J_mul, J_neg, J_lt, J_le, J_eq, I_l, J_i, I_div, J_div, b2_0, b2_1, b2_nar, nar_0, nar_1, zr_0, zr_1, zr_b2, cmp_eq, cmp_le, cmp_lt, cmp_gt, cmp_ge, mx_I, mn_I, mx_L, mn_L, az_I, if_true, if_false, not_true_eq_false, not_false_eq_true, Bool.false_eq_true, i_0, i_1, i_2, i_3, i_4, i_5, i_6, i_7, i_8, i_9, i_10, i_11, i_12, i_16, i_18, i_20, i_24, i_28, i_29, i_30, i_31, i_32, i_33, i_34, i_35, i_37, i_40, i_41, i_42, i_43, i_45, i_46, i_47, i_48, i_57, i_59, i_63, i_64, i_96, i_97, i_98, i_99, i_100, i_101, i_102, i_103, i_104, i_105, i_106, i_107, i_108, i_109, i_110, i_111, i_112, i_113, i_122, i_200, i_255, i_256, i_257, i_258, i_355, i_400, i_999, i_1000, i_1200, i_5680, i_9999, i_10000, i_99999, j_0, j_1, j_2, j_3, j_4, j_5, j_6, j_9, j_10, j_11, j_98, j_99, j_100, j_999, j_1000, j_9999, j_10000, j_99999, j_1000000, l0, l1, l2, l3, l4, l5, l6, l7, e1]
  rw [er, ec]
  refine back (lt_end hT hN hb ⟨μ1, stI (stI ν 0 16 (I_ s)) 0 17 (I_ s), s, s, rfl, e2, e3.mono (fun k j q => p1_sp q), rfl, ⟨s, hwX, fun q => absurd q sf⟩, (P_a17 Fr.rf).mono (fun k j q => at_rd q), fun q => absurd q sf⟩)
end
