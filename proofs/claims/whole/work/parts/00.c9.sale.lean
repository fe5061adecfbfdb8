/-! The cases sale, below, found. -/
section
variable {N : Nat} {b : Nat} {V : Vw} {ν μ : Mem} {f p : Int}
theorem Q7 (hN : 20000 ≤ N) (v : Nat → Int32) (hQ : RQ N b V μ ν) : ∃ z, lawC7 N v μ ν = some z ∧ QO N b V μ ν z := by
  obtain ⟨hV, hW, hK, hR⟩ := hQ
  have hQ : RQ N b V μ ν := ⟨hV, hW, hK, hR⟩
  have hn := hV.1
  unfold vN at hn
  obtain ⟨p, e, p0, p1⟩ := I_ex (v 1)
  obtain ⟨k, e', k0, k1⟩ := I_ex (v 2)
  have hgB : ∀ {β : Type} (k : Nat → Option β), gB (μ.2.2 0 6) k = k b := fun k => by rw [hK.2]; exact if_pos hK.1.1
  by_cases hp : 0 ≤ p ∧ p < sN V ∧ s_li V p = 1
  · have h0 := hp.1
    have h1 := hp.2.1
    have hv := hV.2.1 p h0 h1
    unfold vS at hv
    have hS := hK.1.2.1
    obtain ⟨ν1, a1, a2, a3, a4⟩ := r_lay (N := N) hV hW (by omega) (hR.K.thr (I_ 0))
    have hKd := (hR.K.thr (I_ 0)).laid a2 a3
    obtain ⟨g1, g2, g3, g4⟩ := a3.2.1.2 p h0 h1
    by_cases hk : 0 ≤ k ∧ k ≤ 10
    · have er : fX11_sale N (I_ p) (I_ k) ν = (if I_ k = (7 : Int32) then aI ν1 18 40 (I_ p) fun x4 => some (x4, ν1) else if I_ k = (8 : Int32) then aI ν1 19 40 (I_ p) fun x5 => some (x5, ν1) else if I_ k = (9 : Int32) then aI ν1 20 40 (I_ p) fun x6 => (if x6 = 0 then some ((0 : Int32), ν1) else some ((1 : Int32), ν1)) else if I_ k = (10 : Int32) then aI ν1 21 40 (I_ p) fun x7 => (if x7 = 0 then some ((0 : Int32), ν1) else some ((1 : Int32), ν1)) else bd (fX11_of N (I_ p) (I_ k) ν1) fun r8 μ => some (r8, μ)) := by
        have e30 : fX11_sale N (I_ p) (I_ k) ν = fX11_sale_30 N (I_ p) (I_ k) (I_ 0) ν := by
          simp (disch := omega) only [fX11_sale, Int.reduceEq, Int.reduceNe, Int.reduceLT, Int.reduceLE, Int.reduceAdd, Int.reduceSub, Int.reduceMul, Int.reduceNeg, Int.zero_add, Int.add_zero, nm_eq, bd_some, bv_some, aI_ok, aL_ok, aS_ok, dv_ok, dw_ok, I_add, I_sub, I_mul, I_neg, I_lt, I_le, I_eq, I_nat, J_add, J_sub, J_mul, J_neg, J_lt, J_le, J_eq, I_l, J_i, I_div, J_div, b2_0, b2_1, b2_nar, nar_0, nar_1, zr_0, zr_1, zr_b2, cmp_eq, cmp_le, cmp_lt, cmp_gt, cmp_ge, mx_I, mn_I, mx_L, mn_L, az_I, if_true, if_false, not_true_eq_false, not_false_eq_true, Bool.false_eq_true, i_0, i_1, i_2, i_3, i_4, i_5, i_6, i_7, i_8, i_9, i_10, i_11, i_12, i_16, i_18, i_20, i_24, i_28, i_29, i_30, i_31, i_32, i_33, i_34, i_35, i_37, i_40, i_41, i_42, i_43, i_45, i_46, i_47, i_48, i_57, i_59, i_63, i_64, i_96, i_97, i_98, i_99, i_100, i_101, i_102, i_103, i_104, i_105, i_106, i_107, i_108, i_109, i_110, i_111, i_112, i_113, i_122, i_200, i_255, i_256, i_257, i_258, i_355, i_400, i_999, i_1000, i_1200, i_5680, i_9999, i_10000, i_99999, j_0, j_1, j_2, j_3, j_4, j_5, j_6, j_9, j_10, j_11, j_98, j_99, j_100, j_999, j_1000, j_9999, j_10000, j_99999, j_1000000, r_isSale hV hR.1, b2_t hp, r_isIn, b2_t hk]
        rw [e30]
        unfold fX11_sale_30
        rw [nm_eq, nm_eq, at_S, if_pos (show I_ 0 ≤ (0 : Int32) by decide), a1, bv_some]
      have ec : fX10_sale N (I_ p) (I_ k) μ = (if I_ k = (0 : Int32) then aI μ (b + 13) 40 (I_ p) fun x2 => some (.inl x2, μ) else if I_ k = (1 : Int32) then aI μ (b + 14) 40 (I_ p) fun x3 => some (.inl x3, μ) else if I_ k = (2 : Int32) then aI μ (b + 15) 40 (I_ p) fun x4 => some (.inl x4, μ) else if I_ k = (3 : Int32) then aI μ (b + 16) 40 (I_ p) fun x5 => some (.inl x5, μ) else if I_ k = (4 : Int32) then aI μ (b + 17) 40 (I_ p) fun x6 => some (.inl x6, μ) else if I_ k = (5 : Int32) then aI μ (b + 18) 40 (I_ p) fun x7 => some (.inl x7, μ) else if I_ k = (6 : Int32) then aI μ (b + 19) 40 (I_ p) fun x8 => some (.inl x8, μ) else if I_ k = (7 : Int32) then aI μ (b + 20) 40 (I_ p) fun x9 => some (.inl x9, μ) else if I_ k = (8 : Int32) then aI μ (b + 21) 40 (I_ p) fun x10 => some (.inl x10, μ) else if I_ k = (9 : Int32) then aI μ (b + 14) 40 (I_ p) fun x12 => bv (fX8_look N b x12 μ) fun μ => aI μ 13 40 (I_ p) fun x13 => (if x13 = 0 then some (.inl (0 : Int32), μ) else some (.inl (1 : Int32), μ)) else if I_ k = (10 : Int32) then aI μ (b + 14) 40 (I_ p) fun x15 => bv (fX8_look N b x15 μ) fun μ => aI μ 14 40 (I_ p) fun x16 => (if x16 = 0 then some (.inl (0 : Int32), μ) else some (.inl (1 : Int32), μ)) else some (.inr 3, μ)) := by
        unfold fX10_sale
        rw [c_needS_y hV hK hp, bx_l, hgB, hgB, hgB]
      have fin : ∀ (w : Int32) (μ1 : Mem), Fr P_du μ μ1 → fX10_sale N (I_ p) (I_ k) μ = some (.inl w, μ1) → fX11_sale N (I_ p) (I_ k) ν = some (w, ν1) → ∃ z, lawC7 N v μ ν = some z ∧ QO N b V μ ν z := fun w μ1 g hc hr => by
        refine ⟨_, ?_, q_a hQ w.toInt64 g a2 hKd⟩
        simp (disch := omega) only [lawC7, fL_sale, fX11_thrown, Int.reduceEq, Int.reduceNe, Int.reduceLT, Int.reduceLE, Int.reduceAdd, Int.reduceSub, Int.reduceMul, Int.reduceNeg, Int.zero_add, Int.add_zero, nm_eq, bd_some, bv_some, aI_ok, aL_ok, aS_ok, dv_ok, dw_ok, I_add, I_sub, I_mul, I_neg, I_lt, I_le, I_eq, I_nat, J_add, J_sub, J_mul, J_neg, J_lt, J_le, J_eq, I_l, J_i, I_div, J_div, b2_0, b2_1, b2_nar, nar_0, nar_1, zr_0, zr_1, zr_b2, cmp_eq, cmp_le, cmp_lt, cmp_gt, cmp_ge, mx_I, mn_I, mx_L, mn_L, az_I, if_true, if_false, not_true_eq_false, not_false_eq_true, Bool.false_eq_true, i_0, i_1, i_2, i_3, i_4, i_5, i_6, i_7, i_8, i_9, i_10, i_11, i_12, i_16, i_18, i_20, i_24, i_28, i_29, i_30, i_31, i_32, i_33, i_34, i_35, i_37, i_40, i_41, i_42, i_43, i_45, i_46, i_47, i_48, i_57, i_59, i_63, i_64, i_96, i_97, i_98, i_99, i_100, i_101, i_102, i_103, i_104, i_105, i_106, i_107, i_108, i_109, i_110, i_111, i_112, i_113, i_122, i_200, i_255, i_256, i_257, i_258, i_355, i_400, i_999, i_1000, i_1200, i_5680, i_9999, i_10000, i_99999, j_0, j_1, j_2, j_3, j_4, j_5, j_6, j_9, j_10, j_11, j_98, j_99, j_100, j_999, j_1000, j_9999, j_10000, j_99999, j_1000000, e, e', hc, hr, bh_l, q_0 a2, n_0, at_SL, cmp_self]
      have aIp : ∀ {β : Type} {μ : Mem} {c : Nat} {g : Int32 → Option β}, aI μ c 40 (I_ p) g = g (μ.1 c p.toNat) := fun {β μ c g} => aI_ok h0 (by omega) (by omega)
      rcases (show k = 0 ∨ k = 1 ∨ k = 2 ∨ k = 3 ∨ k = 4 ∨ k = 5 ∨ k = 6 ∨ k = 7 ∨ k = 8 ∨ k = 9 ∨ k = 10 by omega) with r | r | r | r | r | r | r | r | r | r | r
      · subst r
        refine fin (I_ (s_mk V p)) μ Fr.rf (ec.trans ?_) (er.trans ?_)
        · rw [if_pos (by decide), aIp, SB_mk hS h0 h1]
        · rw [if_neg (by decide), if_neg (by decide), if_neg (by decide), if_neg (by decide), r_of0 hV a3.1 h0 h1, bd_some]
      · subst r
        refine fin (I_ (s_fm V p)) μ Fr.rf (ec.trans ?_) (er.trans ?_)
        · rw [if_neg (by decide), if_pos (by decide), aIp, SB_fm hS h0 h1]
        · rw [if_neg (by decide), if_neg (by decide), if_neg (by decide), if_neg (by decide), r_of1 hV a3.1 h0 h1, bd_some]
      · subst r
        refine fin (I_ (s_md V p)) μ Fr.rf (ec.trans ?_) (er.trans ?_)
        · rw [if_neg (by decide), if_neg (by decide), if_pos (by decide), aIp, SB_md hS h0 h1]
        · rw [if_neg (by decide), if_neg (by decide), if_neg (by decide), if_neg (by decide), r_of2 hV a3.1 h0 h1, bd_some]
      · subst r
        refine fin (I_ (s_lv V p)) μ Fr.rf (ec.trans ?_) (er.trans ?_)
        · rw [if_neg (by decide), if_neg (by decide), if_neg (by decide), if_pos (by decide), aIp, SB_lv hS h0 h1]
        · rw [if_neg (by decide), if_neg (by decide), if_neg (by decide), if_neg (by decide), r_of3 hV a3.1 h0 h1, bd_some]
      · subst r
        refine fin (I_ (s_mo V p)) μ Fr.rf (ec.trans ?_) (er.trans ?_)
        · rw [if_neg (by decide), if_neg (by decide), if_neg (by decide), if_neg (by decide), if_pos (by decide), aIp, SB_mo hS h0 h1]
        · rw [if_neg (by decide), if_neg (by decide), if_neg (by decide), if_neg (by decide), r_of4 hV a3.1 h0 h1, bd_some]
      · subst r
        refine fin (I_ (s_mn V p)) μ Fr.rf (ec.trans ?_) (er.trans ?_)
        · rw [if_neg (by decide), if_neg (by decide), if_neg (by decide), if_neg (by decide), if_neg (by decide), if_pos (by decide), aIp, SB_mn hS h0 h1]
        · rw [if_neg (by decide), if_neg (by decide), if_neg (by decide), if_neg (by decide), r_of5 hV a3.1 h0 h1, bd_some]
      · subst r
        refine fin (I_ (s_pr V p)) μ Fr.rf (ec.trans ?_) (er.trans ?_)
        · rw [if_neg (by decide), if_neg (by decide), if_neg (by decide), if_neg (by decide), if_neg (by decide), if_neg (by decide), if_pos (by decide), aIp, SB_pr hS h0 h1]
        · rw [if_neg (by decide), if_neg (by decide), if_neg (by decide), if_neg (by decide), r_of6 hV a3.1 h0 h1, bd_some]
      · subst r
        refine fin (I_ (s_of V p)) μ Fr.rf (ec.trans ?_) (er.trans ?_)
        · rw [if_neg (by decide), if_neg (by decide), if_neg (by decide), if_neg (by decide), if_neg (by decide), if_neg (by decide), if_neg (by decide), if_pos (by decide), aIp, SB_of hS h0 h1]
        · rw [if_pos (by decide), aIp, g1]
      · subst r
        refine fin (I_ (s_nt V p)) μ Fr.rf (ec.trans ?_) (er.trans ?_)
        · rw [if_neg (by decide), if_neg (by decide), if_neg (by decide), if_neg (by decide), if_neg (by decide), if_neg (by decide), if_neg (by decide), if_neg (by decide), if_pos (by decide), aIp, SB_nt hS h0 h1]
        · rw [if_neg (by decide), if_pos (by decide), aIp, g2]
      · subst r
        obtain ⟨μ1, c1, c2, c3⟩ := c_look (N := N) (f := s_fm V p) hV (by omega) (by omega) (by omega) hK.1
        have hx : μ1.1 13 p.toNat = I_ (b2 (p_bl V p)) := by
          rw [c3.2.2.1.2 p h0 h1]
          congr 1
          unfold b2
          by_cases hh : p_bl V p
          · rw [if_pos ⟨hh, rfl⟩, if_pos hh]
          · rw [if_neg (fun w => hh w.1), if_neg hh]
        refine fin (I_ (b2 (p_bl V p))) μ1 (c2.mono (fun k j h => P_st_du h)) (ec.trans ?_) (er.trans ?_)
        · rw [if_neg (by decide), if_neg (by decide), if_neg (by decide), if_neg (by decide), if_neg (by decide), if_neg (by decide), if_neg (by decide), if_neg (by decide), if_neg (by decide), if_pos (by decide), aIp, SB_fm hS h0 h1, c1, bv_some, aIp, hx]
          by_cases hh : p_bl V p
          · rw [b2_t hh]; rfl
          · rw [b2_f hh]; rfl
        · rw [if_neg (by decide), if_neg (by decide), if_pos (by decide), aIp, g3]
          by_cases hh : p_bl V p
          · rw [b2_t hh]; rfl
          · rw [b2_f hh]; rfl
      · subst r
        obtain ⟨μ1, c1, c2, c3⟩ := c_look (N := N) (f := s_fm V p) hV (by omega) (by omega) (by omega) hK.1
        have hx : μ1.1 14 p.toNat = I_ (b2 (p_to V p)) := by
          rw [c3.2.2.2.2.2 p h0 h1]
          congr 1
          unfold b2
          by_cases hh : p_to V p
          · rw [if_pos ⟨hh, rfl⟩, if_pos hh]
          · rw [if_neg (fun w => hh w.1), if_neg hh]
        refine fin (I_ (b2 (p_to V p))) μ1 (c2.mono (fun k j h => P_st_du h)) (ec.trans ?_) (er.trans ?_)
        · rw [if_neg (by decide), if_neg (by decide), if_neg (by decide), if_neg (by decide), if_neg (by decide), if_neg (by decide), if_neg (by decide), if_neg (by decide), if_neg (by decide), if_neg (by decide), if_pos (by decide), aIp, SB_fm hS h0 h1, c1, bv_some, aIp, hx]
          by_cases hh : p_to V p
          · rw [b2_t hh]; rfl
          · rw [b2_f hh]; rfl
        · rw [if_neg (by decide), if_neg (by decide), if_neg (by decide), if_pos (by decide), aIp, g4]
          by_cases hh : p_to V p
          · rw [b2_t hh]; rfl
          · rw [b2_f hh]; rfl
    · have nn : ∀ j : Int, 0 ≤ j → j ≤ 10 → ¬ I_ k = I_ j := fun j a c => by rw [I_eq (by omega) (by omega) (by omega) (by omega)]; omega
      have hc : fX10_sale N (I_ p) (I_ k) μ = some (.inr 3, μ) := by
        unfold fX10_sale
        rw [c_needS_y hV hK hp, bx_l, hgB, i_0, i_1, i_2, i_3, i_4, i_5, i_6, i_7, i_8, i_9, i_10, if_neg (nn 0 (by omega) (by omega)), if_neg (nn 1 (by omega) (by omega)), if_neg (nn 2 (by omega) (by omega)), if_neg (nn 3 (by omega) (by omega)), if_neg (nn 4 (by omega) (by omega)), if_neg (nn 5 (by omega) (by omega)), if_neg (nn 6 (by omega) (by omega)), if_neg (nn 7 (by omega) (by omega)), if_neg (nn 8 (by omega) (by omega)), if_neg (nn 9 (by omega) (by omega)), if_neg (nn 10 (by omega) (by omega))]
      have hr : fX11_sale N (I_ p) (I_ k) ν = some (I_ 0, stI ν 0 0 (I_ 2)) := by
        have e30 : fX11_sale N (I_ p) (I_ k) ν = fX11_sale_30 N (I_ p) (I_ k) (I_ 2) ν := by
          simp (disch := omega) only [fX11_sale, Int.reduceEq, Int.reduceNe, Int.reduceLT, Int.reduceLE, Int.reduceAdd, Int.reduceSub, Int.reduceMul, Int.reduceNeg, Int.zero_add, Int.add_zero, nm_eq, bd_some, bv_some, aI_ok, aL_ok, aS_ok, dv_ok, dw_ok, I_add, I_sub, I_mul, I_neg, I_lt, I_le, I_eq, I_nat, J_add, J_sub, J_mul, J_neg, J_lt, J_le, J_eq, I_l, J_i, I_div, J_div, b2_0, b2_1, b2_nar, nar_0, nar_1, zr_0, zr_1, zr_b2, cmp_eq, cmp_le, cmp_lt, cmp_gt, cmp_ge, mx_I, mn_I, mx_L, mn_L, az_I, if_true, if_false, not_true_eq_false, not_false_eq_true, Bool.false_eq_true, i_0, i_1, i_2, i_3, i_4, i_5, i_6, i_7, i_8, i_9, i_10, i_11, i_12, i_16, i_18, i_20, i_24, i_28, i_29, i_30, i_31, i_32, i_33, i_34, i_35, i_37, i_40, i_41, i_42, i_43, i_45, i_46, i_47, i_48, i_57, i_59, i_63, i_64, i_96, i_97, i_98, i_99, i_100, i_101, i_102, i_103, i_104, i_105, i_106, i_107, i_108, i_109, i_110, i_111, i_112, i_113, i_122, i_200, i_255, i_256, i_257, i_258, i_355, i_400, i_999, i_1000, i_1200, i_5680, i_9999, i_10000, i_99999, j_0, j_1, j_2, j_3, j_4, j_5, j_6, j_9, j_10, j_11, j_98, j_99, j_100, j_999, j_1000, j_9999, j_10000, j_99999, j_1000000, r_isSale hV hR.1, b2_t hp, r_isIn, b2_f hk]
        rw [e30]
        unfold fX11_sale_30
        rw [nm_eq, nm_eq, at_S, if_neg (show ¬ I_ 2 ≤ (0 : Int32) by decide)]
        rfl
      refine ⟨_, ?_, q_x hQ (I_ 2)⟩
      have n30 : ¬ (3 : Nat) = 0 := by decide
      simp (disch := omega) only [lawC7, fL_sale, fX11_thrown, Int.reduceEq, Int.reduceNe, Int.reduceLT, Int.reduceLE, Int.reduceAdd, Int.reduceSub, Int.reduceMul, Int.reduceNeg, Int.zero_add, Int.add_zero, nm_eq, bd_some, bv_some, aI_ok, aL_ok, aS_ok, dv_ok, dw_ok, I_add, I_sub, I_mul, I_neg, I_lt, I_le, I_eq, I_nat, J_add, J_sub, J_mul, J_neg, J_lt, J_le, J_eq, I_l, J_i, I_div, J_div, b2_0, b2_1, b2_nar, nar_0, nar_1, zr_0, zr_1, zr_b2, cmp_eq, cmp_le, cmp_lt, cmp_gt, cmp_ge, mx_I, mn_I, mx_L, mn_L, az_I, if_true, if_false, not_true_eq_false, not_false_eq_true, Bool.false_eq_true, i_0, i_1, i_2, i_3, i_4, i_5, i_6, i_7, i_8, i_9, i_10, i_11, i_12, i_16, i_18, i_20, i_24, i_28, i_29, i_30, i_31, i_32, i_33, i_34, i_35, i_37, i_40, i_41, i_42, i_43, i_45, i_46, i_47, i_48, i_57, i_59, i_63, i_64, i_96, i_97, i_98, i_99, i_100, i_101, i_102, i_103, i_104, i_105, i_106, i_107, i_108, i_109, i_110, i_111, i_112, i_113, i_122, i_200, i_255, i_256, i_257, i_258, i_355, i_400, i_999, i_1000, i_1200, i_5680, i_9999, i_10000, i_99999, j_0, j_1, j_2, j_3, j_4, j_5, j_6, j_9, j_10, j_11, j_98, j_99, j_100, j_999, j_1000, j_9999, j_10000, j_99999, j_1000000, e, e', hc, hr, bh_r, at_S, n30]
  · have hc : fX10_sale N (I_ p) (I_ k) μ = some (.inr 0, μ) := by
      unfold fX10_sale
      rw [c_needS_n hV hK p0 p1 hp, bx_r]
    have hr : fX11_sale N (I_ p) (I_ k) ν = some (I_ 0, stI ν 0 0 (I_ 1)) := by
      have e30 : fX11_sale N (I_ p) (I_ k) ν = fX11_sale_30 N (I_ p) (I_ k) (I_ 1) ν := by
        unfold fX11_sale
        rw [r_isSale hV hR.1 p0 p1, bd_some, b2_f hp, i_0, if_pos (by decide)]
        rfl
      rw [e30]
      unfold fX11_sale_30
      rw [nm_eq, nm_eq, at_S, if_neg (show ¬ I_ 1 ≤ (0 : Int32) by decide)]
      rfl
    refine ⟨_, ?_, q_x hQ (I_ 1)⟩
    simp (disch := omega) only [lawC7, fL_sale, fX11_thrown, Int.reduceEq, Int.reduceNe, Int.reduceLT, Int.reduceLE, Int.reduceAdd, Int.reduceSub, Int.reduceMul, Int.reduceNeg, Int.zero_add, Int.add_zero, nm_eq, bd_some, bv_some, aI_ok, aL_ok, aS_ok, dv_ok, dw_ok, I_add, I_sub, I_mul, I_neg, I_lt, I_le, I_eq, I_nat, J_add, J_sub, J_mul, J_neg, J_lt, J_le, J_eq, I_l, J_i, I_div, J_div, b2_0, b2_1, b2_nar, nar_0, nar_1, zr_0, zr_1, zr_b2, cmp_eq, cmp_le, cmp_lt, cmp_gt, cmp_ge, mx_I, mn_I, mx_L, mn_L, az_I, if_true, if_false, not_true_eq_false, not_false_eq_true, Bool.false_eq_true, i_0, i_1, i_2, i_3, i_4, i_5, i_6, i_7, i_8, i_9, i_10, i_11, i_12, i_16, i_18, i_20, i_24, i_28, i_29, i_30, i_31, i_32, i_33, i_34, i_35, i_37, i_40, i_41, i_42, i_43, i_45, i_46, i_47, i_48, i_57, i_59, i_63, i_64, i_96, i_97, i_98, i_99, i_100, i_101, i_102, i_103, i_104, i_105, i_106, i_107, i_108, i_109, i_110, i_111, i_112, i_113, i_122, i_200, i_255, i_256, i_257, i_258, i_355, i_400, i_999, i_1000, i_1200, i_5680, i_9999, i_10000, i_99999, j_0, j_1, j_2, j_3, j_4, j_5, j_6, j_9, j_10, j_11, j_98, j_99, j_100, j_999, j_1000, j_9999, j_10000, j_99999, j_1000000, e, e', hc, hr, bh_r, at_S]
theorem Q16 (hN : 20000 ≤ N) (v : Nat → Int32) (hQ : RQ N b V μ ν) : ∃ z, lawC16 N v μ ν = some z ∧ QO N b V μ ν z := by
  obtain ⟨hV, hW, hK, hR⟩ := hQ
  have hQ : RQ N b V μ ν := ⟨hV, hW, hK, hR⟩
  have hn := hV.1
  unfold vN at hn
  obtain ⟨p, e, p0, p1⟩ := I_ex (v 1)
  obtain ⟨m, e', m0, m1⟩ := I_ex (v 2)
  obtain ⟨k, ek, k0, k1⟩ := I_ex (v 3)
  have hgB : ∀ {β : Type} (k : Nat → Option β), gB (μ.2.2 0 6) k = k b := fun k => by rw [hK.2]; exact if_pos hK.1.1
  by_cases hp : 0 ≤ p ∧ p < fN V
  · by_cases hm : 0 ≤ m ∧ m < mN V
    · obtain ⟨μ1, c1, c2, c3⟩ := c_look (N := N) (f := p) hV (by omega) hp.1 (by omega) hK.1
      have hdu := c2.mono (T := P_du) (fun k j h => P_st_du h)
      have ec : fX10_below N (I_ p) (I_ m) (I_ k) μ = (if I_ k = (0 : Int32) then aI μ1 11 6 (I_ m) fun x2 => some (.inl x2, μ1) else if I_ k = (1 : Int32) then aI μ1 12 6 (I_ m) fun x3 => some (.inl x3, μ1) else if I_ k = (2 : Int32) then bd (fX8_leavesOut N (I_ m) μ1) fun r4 μ => (if r4 = 0 then some (.inl (0 : Int32), μ) else some (.inl (1 : Int32), μ)) else some (.inr 3, μ1)) := by
        unfold fX10_below
        rw [c_needF_y hV hK hp.1 hp.2, bx_l, c_needM_y hV hK hm.1 hm.2, bx_l, hgB, c1, bv_some]
      by_cases hk : 0 ≤ k ∧ k ≤ 2
      · obtain ⟨ν1, a1, a2, a3, a4⟩ := r_lay (N := N) hV hW (by omega) (hR.K.thr (I_ 0))
        have hKd := (hR.K.thr (I_ 0)).laid a2 a3
        have hl20 : ∀ z, 0 ≤ z → z < sN V → ν1.1 20 z.toNat = I_ (b2 (p_bl V z)) := fun z a c => (a3.2.1.2 z a c).2.2.1
        have er : fX11_below N (I_ p) (I_ m) (I_ k) ν = (if (2 : Int32) ≤ I_ k then bd (fX11_areOut N (I_ p) (I_ m) ν1) fun r5 μ => (if r5 = 0 then some ((0 : Int32), μ) else some ((1 : Int32), μ)) else (if I_ k = (1 : Int32) then bd (fX11_manyBase N (I_ p) (I_ m) (1 : Int32) ν1) fun r7 μ => some (r7, μ) else bd (fX11_manyBase N (I_ p) (I_ m) (0 : Int32) ν1) fun r6 μ => some (r6, μ))) := by
          have e38 : fX11_below N (I_ p) (I_ m) (I_ k) ν = fX11_below_38 N (I_ p) (I_ m) (I_ k) (I_ 0) ν := by
            simp (disch := omega) only [fX11_below, Int.reduceEq, Int.reduceNe, Int.reduceLT, Int.reduceLE, Int.reduceAdd, Int.reduceSub, Int.reduceMul, Int.reduceNeg, Int.zero_add, Int.add_zero, nm_eq, bd_some, bv_some, aI_ok, aL_ok, aS_ok, dv_ok, dw_ok, I_add, I_sub, I_mul, I_neg, I_lt, I_le, I_eq, I_nat, J_add, J_sub, J_mul, J_neg, J_lt, J_le, J_eq, I_l, J_i, I_div, J_div, b2_0, b2_1, b2_nar, nar_0, nar_1, zr_0, zr_1, zr_b2, cmp_eq, cmp_le, cmp_lt, cmp_gt, cmp_ge, mx_I, mn_I, mx_L, mn_L, az_I, if_true, if_false, not_true_eq_false, not_false_eq_true, Bool.false_eq_true, i_0, i_1, i_2, i_3, i_4, i_5, i_6, i_7, i_8, i_9, i_10, i_11, i_12, i_16, i_18, i_20, i_24, i_28, i_29, i_30, i_31, i_32, i_33, i_34, i_35, i_37, i_40, i_41, i_42, i_43, i_45, i_46, i_47, i_48, i_57, i_59, i_63, i_64, i_96, i_97, i_98, i_99, i_100, i_101, i_102, i_103, i_104, i_105, i_106, i_107, i_108, i_109, i_110, i_111, i_112, i_113, i_122, i_200, i_255, i_256, i_257, i_258, i_355, i_400, i_999, i_1000, i_1200, i_5680, i_9999, i_10000, i_99999, j_0, j_1, j_2, j_3, j_4, j_5, j_6, j_9, j_10, j_11, j_98, j_99, j_100, j_999, j_1000, j_9999, j_10000, j_99999, j_1000000, r_isFirm hV hR.1, b2_t hp, r_isModel hV hR.1, b2_t hm, r_isIn, b2_t hk]
          rw [e38]
          unfold fX11_below_38
          rw [nm_eq, nm_eq, at_S, if_pos (show I_ 0 ≤ (0 : Int32) by decide), a1, bv_some]
        have fin : ∀ (w : Int32), fX10_below N (I_ p) (I_ m) (I_ k) μ = some (.inl w, μ1) → fX11_below N (I_ p) (I_ m) (I_ k) ν = some (w, ν1) → ∃ z, lawC16 N v μ ν = some z ∧ QO N b V μ ν z := fun w hc hr => by
          refine ⟨_, ?_, q_a hQ w.toInt64 hdu a2 hKd⟩
          simp (disch := omega) only [lawC16, fL_below, fX11_thrown, Int.reduceEq, Int.reduceNe, Int.reduceLT, Int.reduceLE, Int.reduceAdd, Int.reduceSub, Int.reduceMul, Int.reduceNeg, Int.zero_add, Int.add_zero, nm_eq, bd_some, bv_some, aI_ok, aL_ok, aS_ok, dv_ok, dw_ok, I_add, I_sub, I_mul, I_neg, I_lt, I_le, I_eq, I_nat, J_add, J_sub, J_mul, J_neg, J_lt, J_le, J_eq, I_l, J_i, I_div, J_div, b2_0, b2_1, b2_nar, nar_0, nar_1, zr_0, zr_1, zr_b2, cmp_eq, cmp_le, cmp_lt, cmp_gt, cmp_ge, mx_I, mn_I, mx_L, mn_L, az_I, if_true, if_false, not_true_eq_false, not_false_eq_true, Bool.false_eq_true, i_0, i_1, i_2, i_3, i_4, i_5, i_6, i_7, i_8, i_9, i_10, i_11, i_12, i_16, i_18, i_20, i_24, i_28, i_29, i_30, i_31, i_32, i_33, i_34, i_35, i_37, i_40, i_41, i_42, i_43, i_45, i_46, i_47, i_48, i_57, i_59, i_63, i_64, i_96, i_97, i_98, i_99, i_100, i_101, i_102, i_103, i_104, i_105, i_106, i_107, i_108, i_109, i_110, i_111, i_112, i_113, i_122, i_200, i_255, i_256, i_257, i_258, i_355, i_400, i_999, i_1000, i_1200, i_5680, i_9999, i_10000, i_99999, j_0, j_1, j_2, j_3, j_4, j_5, j_6, j_9, j_10, j_11, j_98, j_99, j_100, j_999, j_1000, j_9999, j_10000, j_99999, j_1000000, e, e', ek, hc, hr, bh_l, q_0 a2, n_0, at_SL, cmp_self]
        have aIm : ∀ {β : Type} {μ : Mem} {c : Nat} {g : Int32 → Option β}, aI μ c 6 (I_ m) g = g (μ.1 c m.toNat) := fun {β μ c g} => aI_ok hm.1 (by omega) (by omega)
        have hmb1 := r_mb (N := N) (f := p) (m := m) (Q := True) hV (by omega) a3.1 a3.2.1.1 hl20 (by omega) (by omega) (by omega) (by omega)
        have hmb0 := r_mb (N := N) (f := p) (m := m) (Q := False) hV (by omega) a3.1 a3.2.1.1 hl20 (by omega) (by omega) (by omega) (by omega)
        rw [if_pos trivial, b2_t trivial] at hmb1
        rw [if_neg (fun w => w), b2_f (fun w => w)] at hmb0
        have hout := r_out (N := N) (f := p) (m := m) hV (by omega) a3.1 a3.2.1.1 hl20 (by omega) (by omega) (by omega) (by omega)
        have hco := c_out (N := N) hV hm.1 (by omega) c3.2.2.1.1
        rcases (show k = 0 ∨ k = 1 ∨ k = 2 by omega) with r | r | r
        · subst r
          refine fin (I_ (x_all V p m)) (ec.trans ?_) (er.trans ?_)
          · rw [if_pos (by decide), aIm, (c3.2.2.1.1 m hm.1 (by omega)).1]
          · rw [if_neg (by decide), if_neg (by decide), i_0, hmb0, bd_some]
        · subst r
          refine fin (I_ (x_bel V p m)) (ec.trans ?_) (er.trans ?_)
          · rw [if_neg (by decide), if_pos (by decide), aIm, (c3.2.2.1.1 m hm.1 (by omega)).2]
          · rw [if_neg (by decide), if_pos (by decide), i_1, hmb1, bd_some]
        · subst r
          refine fin (I_ (b2 (p_out V p m))) (ec.trans ?_) (er.trans ?_)
          · rw [if_neg (by decide), if_neg (by decide), if_pos (by decide), hco, bd_some]
            by_cases hh : p_out V p m
            · rw [b2_t hh]; rfl
            · rw [b2_f hh]; rfl
          · rw [if_pos (by decide), hout, bd_some]
            by_cases hh : p_out V p m
            · rw [b2_t hh]; rfl
            · rw [b2_f hh]; rfl
      · have nn : ∀ j : Int, 0 ≤ j → j ≤ 2 → ¬ I_ k = I_ j := fun j a c => by rw [I_eq (by omega) (by omega) (by omega) (by omega)]; omega
        have hc : fX10_below N (I_ p) (I_ m) (I_ k) μ = some (.inr 3, μ1) := by
          rw [ec, i_0, i_1, i_2, if_neg (nn 0 (by omega) (by omega)), if_neg (nn 1 (by omega) (by omega)), if_neg (nn 2 (by omega) (by omega))]
        have hr : fX11_below N (I_ p) (I_ m) (I_ k) ν = some (I_ 0, stI ν 0 0 (I_ 2)) := by
          simp (disch := omega) only [fX11_below, fX11_below_38, Int.reduceEq, Int.reduceNe, Int.reduceLT, Int.reduceLE, Int.reduceAdd, Int.reduceSub, Int.reduceMul, Int.reduceNeg, Int.zero_add, Int.add_zero, nm_eq, bd_some, bv_some, aI_ok, aL_ok, aS_ok, dv_ok, dw_ok, I_add, I_sub, I_mul, I_neg, I_lt, I_le, I_eq, I_nat, J_add, J_sub, J_mul, J_neg, J_lt, J_le, J_eq, I_l, J_i, I_div, J_div, b2_0, b2_1, b2_nar, nar_0, nar_1, zr_0, zr_1, zr_b2, cmp_eq, cmp_le, cmp_lt, cmp_gt, cmp_ge, mx_I, mn_I, mx_L, mn_L, az_I, if_true, if_false, not_true_eq_false, not_false_eq_true, Bool.false_eq_true, i_0, i_1, i_2, i_3, i_4, i_5, i_6, i_7, i_8, i_9, i_10, i_11, i_12, i_16, i_18, i_20, i_24, i_28, i_29, i_30, i_31, i_32, i_33, i_34, i_35, i_37, i_40, i_41, i_42, i_43, i_45, i_46, i_47, i_48, i_57, i_59, i_63, i_64, i_96, i_97, i_98, i_99, i_100, i_101, i_102, i_103, i_104, i_105, i_106, i_107, i_108, i_109, i_110, i_111, i_112, i_113, i_122, i_200, i_255, i_256, i_257, i_258, i_355, i_400, i_999, i_1000, i_1200, i_5680, i_9999, i_10000, i_99999, j_0, j_1, j_2, j_3, j_4, j_5, j_6, j_9, j_10, j_11, j_98, j_99, j_100, j_999, j_1000, j_9999, j_10000, j_99999, j_1000000, r_isFirm hV hR.1, b2_t hp, r_isModel hV hR.1, b2_t hm, r_isIn, b2_f hk, at_S]
        refine ⟨_, ?_, q_xm hQ hdu (I_ 2)⟩
        have n30 : ¬ (3 : Nat) = 0 := by decide
        simp (disch := omega) only [lawC16, fL_below, fX11_thrown, Int.reduceEq, Int.reduceNe, Int.reduceLT, Int.reduceLE, Int.reduceAdd, Int.reduceSub, Int.reduceMul, Int.reduceNeg, Int.zero_add, Int.add_zero, nm_eq, bd_some, bv_some, aI_ok, aL_ok, aS_ok, dv_ok, dw_ok, I_add, I_sub, I_mul, I_neg, I_lt, I_le, I_eq, I_nat, J_add, J_sub, J_mul, J_neg, J_lt, J_le, J_eq, I_l, J_i, I_div, J_div, b2_0, b2_1, b2_nar, nar_0, nar_1, zr_0, zr_1, zr_b2, cmp_eq, cmp_le, cmp_lt, cmp_gt, cmp_ge, mx_I, mn_I, mx_L, mn_L, az_I, if_true, if_false, not_true_eq_false, not_false_eq_true, Bool.false_eq_true, i_0, i_1, i_2, i_3, i_4, i_5, i_6, i_7, i_8, i_9, i_10, i_11, i_12, i_16, i_18, i_20, i_24, i_28, i_29, i_30, i_31, i_32, i_33, i_34, i_35, i_37, i_40, i_41, i_42, i_43, i_45, i_46, i_47, i_48, i_57, i_59, i_63, i_64, i_96, i_97, i_98, i_99, i_100, i_101, i_102, i_103, i_104, i_105, i_106, i_107, i_108, i_109, i_110, i_111, i_112, i_113, i_122, i_200, i_255, i_256, i_257, i_258, i_355, i_400, i_999, i_1000, i_1200, i_5680, i_9999, i_10000, i_99999, j_0, j_1, j_2, j_3, j_4, j_5, j_6, j_9, j_10, j_11, j_98, j_99, j_100, j_999, j_1000, j_9999, j_10000, j_99999, j_1000000, e, e', ek, hc, hr, bh_r, at_S, n30]
    · have hc : fX10_below N (I_ p) (I_ m) (I_ k) μ = some (.inr 0, μ) := by
        unfold fX10_below
        rw [c_needF_y hV hK hp.1 hp.2, bx_l, c_needM_n hV hK m0 m1 hm, bx_r]
      have hr : fX11_below N (I_ p) (I_ m) (I_ k) ν = some (I_ 0, stI ν 0 0 (I_ 1)) := by
        simp (disch := omega) only [fX11_below, fX11_below_38, Int.reduceEq, Int.reduceNe, Int.reduceLT, Int.reduceLE, Int.reduceAdd, Int.reduceSub, Int.reduceMul, Int.reduceNeg, Int.zero_add, Int.add_zero, nm_eq, bd_some, bv_some, aI_ok, aL_ok, aS_ok, dv_ok, dw_ok, I_add, I_sub, I_mul, I_neg, I_lt, I_le, I_eq, I_nat, J_add, J_sub, J_mul, J_neg, J_lt, J_le, J_eq, I_l, J_i, I_div, J_div, b2_0, b2_1, b2_nar, nar_0, nar_1, zr_0, zr_1, zr_b2, cmp_eq, cmp_le, cmp_lt, cmp_gt, cmp_ge, mx_I, mn_I, mx_L, mn_L, az_I, if_true, if_false, not_true_eq_false, not_false_eq_true, Bool.false_eq_true, i_0, i_1, i_2, i_3, i_4, i_5, i_6, i_7, i_8, i_9, i_10, i_11, i_12, i_16, i_18, i_20, i_24, i_28, i_29, i_30, i_31, i_32, i_33, i_34, i_35, i_37, i_40, i_41, i_42, i_43, i_45, i_46, i_47, i_48, i_57, i_59, i_63, i_64, i_96, i_97, i_98, i_99, i_100, i_101, i_102, i_103, i_104, i_105, i_106, i_107, i_108, i_109, i_110, i_111, i_112, i_113, i_122, i_200, i_255, i_256, i_257, i_258, i_355, i_400, i_999, i_1000, i_1200, i_5680, i_9999, i_10000, i_99999, j_0, j_1, j_2, j_3, j_4, j_5, j_6, j_9, j_10, j_11, j_98, j_99, j_100, j_999, j_1000, j_9999, j_10000, j_99999, j_1000000, r_isFirm hV hR.1, b2_t hp, r_isModel hV hR.1, b2_f hm, at_S]
      refine ⟨_, ?_, q_x hQ (I_ 1)⟩
      simp (disch := omega) only [lawC16, fL_below, fX11_thrown, Int.reduceEq, Int.reduceNe, Int.reduceLT, Int.reduceLE, Int.reduceAdd, Int.reduceSub, Int.reduceMul, Int.reduceNeg, Int.zero_add, Int.add_zero, nm_eq, bd_some, bv_some, aI_ok, aL_ok, aS_ok, dv_ok, dw_ok, I_add, I_sub, I_mul, I_neg, I_lt, I_le, I_eq, I_nat, J_add, J_sub, J_mul, J_neg, J_lt, J_le, J_eq, I_l, J_i, I_div, J_div, b2_0, b2_1, b2_nar, nar_0, nar_1, zr_0, zr_1, zr_b2, cmp_eq, cmp_le, cmp_lt, cmp_gt, cmp_ge, mx_I, mn_I, mx_L, mn_L, az_I, if_true, if_false, not_true_eq_false, not_false_eq_true, Bool.false_eq_true, i_0, i_1, i_2, i_3, i_4, i_5, i_6, i_7, i_8, i_9, i_10, i_11, i_12, i_16, i_18, i_20, i_24, i_28, i_29, i_30, i_31, i_32, i_33, i_34, i_35, i_37, i_40, i_41, i_42, i_43, i_45, i_46, i_47, i_48, i_57, i_59, i_63, i_64, i_96, i_97, i_98, i_99, i_100, i_101, i_102, i_103, i_104, i_105, i_106, i_107, i_108, i_109, i_110, i_111, i_112, i_113, i_122, i_200, i_255, i_256, i_257, i_258, i_355, i_400, i_999, i_1000, i_1200, i_5680, i_9999, i_10000, i_99999, j_0, j_1, j_2, j_3, j_4, j_5, j_6, j_9, j_10, j_11, j_98, j_99, j_100, j_999, j_1000, j_9999, j_10000, j_99999, j_1000000, e, e', ek, hc, hr, bh_r, at_S]
  · have hc : fX10_below N (I_ p) (I_ m) (I_ k) μ = some (.inr 0, μ) := by
      unfold fX10_below
      rw [c_needF_n hV hK p0 p1 hp, bx_r]
    have hr : fX11_below N (I_ p) (I_ m) (I_ k) ν = some (I_ 0, stI ν 0 0 (I_ 1)) := by
      have e38 : fX11_below N (I_ p) (I_ m) (I_ k) ν = fX11_below_38 N (I_ p) (I_ m) (I_ k) (I_ 1) ν := by
        unfold fX11_below
        rw [r_isFirm hV hR.1 p0 p1, bd_some, b2_f hp, i_0, if_pos (by decide)]
        rfl
      rw [e38]
      unfold fX11_below_38
      rw [nm_eq, nm_eq, at_S, if_neg (show ¬ I_ 1 ≤ (0 : Int32) by decide)]
      rfl
    refine ⟨_, ?_, q_x hQ (I_ 1)⟩
    simp (disch := omega) only [lawC16, fL_below, fX11_thrown, Int.reduceEq, Int.reduceNe, Int.reduceLT, Int.reduceLE, Int.reduceAdd, Int.reduceSub, Int.reduceMul, Int.reduceNeg, Int.zero_add, Int.add_zero, nm_eq, bd_some, bv_some, aI_ok, aL_ok, aS_ok, dv_ok, dw_ok, I_add, I_sub, I_mul, I_neg, I_lt, I_le, I_eq, I_nat, J_add, J_sub, J_mul, J_neg, J_lt, J_le, J_eq, I_l, J_i, I_div, J_div, b2_0, b2_1, b2_nar, nar_0, nar_1, zr_0, zr_1, zr_b2, cmp_eq, cmp_le, cmp_lt, cmp_gt, cmp_ge, mx_I, mn_I, mx_L, mn_L, az_I, if_true, if_false, not_true_eq_false, not_false_eq_true, Bool.false_eq_true, i_0, i_1, i_2, i_3, i_4, i_5, i_6, i_7, i_8, i_9, i_10, i_11, i_12, i_16, i_18, i_20, i_24, i_28, i_29, i_30, i_31, i_32, i_33, i_34, i_35, i_37, i_40, i_41, i_42, i_43, i_45, i_46, i_47, i_48, i_57, i_59, i_63, i_64, i_96, i_97, i_98, i_99, i_100, i_101, i_102, i_103, i_104, i_105, i_106, i_107, i_108, i_109, i_110, i_111, i_112, i_113, i_122, i_200, i_255, i_256, i_257, i_258, i_355, i_400, i_999, i_1000, i_1200, i_5680, i_9999, i_10000, i_99999, j_0, j_1, j_2, j_3, j_4, j_5, j_6, j_9, j_10, j_11, j_98, j_99, j_100, j_999, j_1000, j_9999, j_10000, j_99999, j_1000000, e, e', ek, hc, hr, bh_r, at_S]
theorem Q18 (hN : 20000 ≤ N) (v : Nat → Int32) (hQ : RQ N b V μ ν) : ∃ z, lawC18 N v μ ν = some z ∧ QO N b V μ ν z := by
  obtain ⟨hV, hW, hK, hR⟩ := hQ
  have hQ : RQ N b V μ ν := ⟨hV, hW, hK, hR⟩
  have hn := hV.1
  unfold vN at hn
  obtain ⟨p, e, p0, p1⟩ := I_ex (v 1)
  obtain ⟨m, e', m0, m1⟩ := I_ex (v 2)
  obtain ⟨l, el, l0, l1⟩ := I_ex (v 3)
  obtain ⟨k, ek, k0, k1⟩ := I_ex (v 4)
  have hgB : ∀ {β : Type} (k : Nat → Option β), gB (μ.2.2 0 6) k = k b := fun k => by rw [hK.2]; exact if_pos hK.1.1
  have refu : ∀ (cx : Nat) (j : Int), ((cx = 0 ∧ j = 1) ∨ (cx = 1 ∧ j = 2)) → fX10_found N (I_ p) (I_ m) (I_ l) (I_ k) μ = some (.inr cx, μ) → fX11_found N (I_ p) (I_ m) (I_ l) (I_ k) ν = some (I_ 0, stI ν 0 0 (I_ j)) → ∃ z, lawC18 N v μ ν = some z ∧ QO N b V μ ν z := fun cx j hx hc hr => by
    refine ⟨_, ?_, q_x hQ (I_ j)⟩
    rcases hx with ⟨y, z⟩ | ⟨y, z⟩ <;> subst y <;> subst z
    · simp (disch := omega) only [lawC18, fL_found, fX11_thrown, Int.reduceEq, Int.reduceNe, Int.reduceLT, Int.reduceLE, Int.reduceAdd, Int.reduceSub, Int.reduceMul, Int.reduceNeg, Int.zero_add, Int.add_zero, nm_eq, bd_some, bv_some, aI_ok, aL_ok, aS_ok, dv_ok, dw_ok, I_add, I_sub, I_mul, I_neg, I_lt, I_le, I_eq, I_nat, J_add, J_sub, J_mul, J_neg, J_lt, J_le, J_eq, I_l, J_i, I_div, J_div, b2_0, b2_1, b2_nar, nar_0, nar_1, zr_0, zr_1, zr_b2, cmp_eq, cmp_le, cmp_lt, cmp_gt, cmp_ge, mx_I, mn_I, mx_L, mn_L, az_I, if_true, if_false, not_true_eq_false, not_false_eq_true, Bool.false_eq_true, i_0, i_1, i_2, i_3, i_4, i_5, i_6, i_7, i_8, i_9, i_10, i_11, i_12, i_16, i_18, i_20, i_24, i_28, i_29, i_30, i_31, i_32, i_33, i_34, i_35, i_37, i_40, i_41, i_42, i_43, i_45, i_46, i_47, i_48, i_57, i_59, i_63, i_64, i_96, i_97, i_98, i_99, i_100, i_101, i_102, i_103, i_104, i_105, i_106, i_107, i_108, i_109, i_110, i_111, i_112, i_113, i_122, i_200, i_255, i_256, i_257, i_258, i_355, i_400, i_999, i_1000, i_1200, i_5680, i_9999, i_10000, i_99999, j_0, j_1, j_2, j_3, j_4, j_5, j_6, j_9, j_10, j_11, j_98, j_99, j_100, j_999, j_1000, j_9999, j_10000, j_99999, j_1000000, e, e', el, ek, hc, hr, bh_r, at_S]
    · simp (disch := omega) only [lawC18, fL_found, fX11_thrown, Int.reduceEq, Int.reduceNe, Int.reduceLT, Int.reduceLE, Int.reduceAdd, Int.reduceSub, Int.reduceMul, Int.reduceNeg, Int.zero_add, Int.add_zero, nm_eq, bd_some, bv_some, aI_ok, aL_ok, aS_ok, dv_ok, dw_ok, I_add, I_sub, I_mul, I_neg, I_lt, I_le, I_eq, I_nat, J_add, J_sub, J_mul, J_neg, J_lt, J_le, J_eq, I_l, J_i, I_div, J_div, b2_0, b2_1, b2_nar, nar_0, nar_1, zr_0, zr_1, zr_b2, cmp_eq, cmp_le, cmp_lt, cmp_gt, cmp_ge, mx_I, mn_I, mx_L, mn_L, az_I, if_true, if_false, not_true_eq_false, not_false_eq_true, Bool.false_eq_true, i_0, i_1, i_2, i_3, i_4, i_5, i_6, i_7, i_8, i_9, i_10, i_11, i_12, i_16, i_18, i_20, i_24, i_28, i_29, i_30, i_31, i_32, i_33, i_34, i_35, i_37, i_40, i_41, i_42, i_43, i_45, i_46, i_47, i_48, i_57, i_59, i_63, i_64, i_96, i_97, i_98, i_99, i_100, i_101, i_102, i_103, i_104, i_105, i_106, i_107, i_108, i_109, i_110, i_111, i_112, i_113, i_122, i_200, i_255, i_256, i_257, i_258, i_355, i_400, i_999, i_1000, i_1200, i_5680, i_9999, i_10000, i_99999, j_0, j_1, j_2, j_3, j_4, j_5, j_6, j_9, j_10, j_11, j_98, j_99, j_100, j_999, j_1000, j_9999, j_10000, j_99999, j_1000000, e, e', el, ek, hc, hr, bh_r, at_S, Nat.one_ne_zero]
  have e55 : ∀ j : Int, (j = 1 ∨ j = 2 ∨ j = 3) → fX11_found_55 N (I_ p) (I_ m) (I_ l) (I_ k) (I_ j) ν = some (I_ 0, stI ν 0 0 (I_ j)) := fun j hj => by
    unfold fX11_found_55
    rw [nm_eq, nm_eq, at_S]
    rcases hj with y | y | y <;> subst y <;> rfl
  by_cases hp : 0 ≤ p ∧ p < fN V
  · by_cases hm : 0 ≤ m ∧ m < mN V
    · by_cases hl : 0 ≤ l ∧ l ≤ 3
      · obtain ⟨μ1, c1, c2, c3⟩ := c_look (N := N) (f := p) hV (by omega) hp.1 (by omega) hK.1
        have hdu := c2.mono (T := P_du) (fun k j h => P_st_du h)
        have cmf := c_mf (N := N) hV (by omega) hp.1 (by omega) (hK.1.st c2) c3 hm.1 hm.2
        have hmd := x_md_in hV (f := p) hm.1 hm.2
        have ec : fX10_found N (I_ p) (I_ m) (I_ l) (I_ k) μ = (if I_ k = (0 : Int32) then (if I_ (x_md V p m) = I_ m then some (.inl (1 : Int32), μ1) else (if I_ (x_md V p m) = (-1 : Int32) then some (.inl (3 : Int32), μ1) else some (.inl (2 : Int32), μ1))) else if I_ k = (1 : Int32) then some (.inl (I_ (x_md V p m)), μ1) else if I_ k = (2 : Int32) then bd (fX8_levelFor N (I_ (x_md V p m)) (I_ l) μ1) fun r3 μ => some (.inl r3, μ) else some (.inr 3, μ1)) := by
          unfold fX10_found
          rw [c_needF_y hV hK hp.1 hp.2, bx_l, c_needM_y hV hK hm.1 hm.2, bx_l, i_0, i_3, c_needW_y (by omega) (by omega) hl.1 hl.2, bx_l, hgB, c1, bv_some, cmf, bd_some]
        by_cases hk : 0 ≤ k ∧ k ≤ 2
        · obtain ⟨ν0, a1, a2, a3, a4⟩ := r_lay (N := N) hV hW (by omega) (hR.K.thr (I_ 0))
          obtain ⟨ν1, d1, d2, d3, d4, d5⟩ := r_finds (N := N) (f := p) (m := m) (l := l) hV (by omega) a3 hp.1 (by omega) hm.1 hm.2 hl.1 hl.2
          have hF := a2.tr (d2.mono (T := P_rq) (fun k j h => by unfold P_rf at h; unfold P_rq; omega))
          have hKd := (hR.K.thr (I_ 0)).laid hF (a3.f d2)
          have d6 : fX11_finds N (I_ p) (I_ m) (I_ l) (stI ν 0 0 (I_ 0)) = some ((), ν1) := by
            rw [← d1]
            unfold fX11_finds
            rw [a1, a4]
          have er : fX11_found N (I_ p) (I_ m) (I_ l) (I_ k) ν = (if I_ k = (0 : Int32) then nm (ν1.1 0 37) fun x9 => some (x9, ν1) else nm (ν1.1 0 37) fun x6 => (if x6 = (3 : Int32) then some ((-1 : Int32), ν1) else (if I_ k = (1 : Int32) then nm (ν1.1 0 38) fun x8 => some (x8, ν1) else nm (ν1.1 0 39) fun x7 => some (x7, ν1)))) := by
            have e5 : fX11_found N (I_ p) (I_ m) (I_ l) (I_ k) ν = fX11_found_55 N (I_ p) (I_ m) (I_ l) (I_ k) (I_ 0) ν := by
              simp (disch := omega) only [fX11_found, Int.reduceEq, Int.reduceNe, Int.reduceLT, Int.reduceLE, Int.reduceAdd, Int.reduceSub, Int.reduceMul, Int.reduceNeg, Int.zero_add, Int.add_zero, nm_eq, bd_some, bv_some, aI_ok, aL_ok, aS_ok, dv_ok, dw_ok, I_add, I_sub, I_mul, I_neg, I_lt, I_le, I_eq, I_nat, J_add, J_sub, J_mul, J_neg, J_lt, J_le, J_eq, I_l, J_i, I_div, J_div, b2_0, b2_1, b2_nar, nar_0, nar_1, zr_0, zr_1, zr_b2, cmp_eq, cmp_le, cmp_lt, cmp_gt, cmp_ge, mx_I, mn_I, mx_L, mn_L, az_I, if_true, if_false, not_true_eq_false, not_false_eq_true, Bool.false_eq_true, i_0, i_1, i_2, i_3, i_4, i_5, i_6, i_7, i_8, i_9, i_10, i_11, i_12, i_16, i_18, i_20, i_24, i_28, i_29, i_30, i_31, i_32, i_33, i_34, i_35, i_37, i_40, i_41, i_42, i_43, i_45, i_46, i_47, i_48, i_57, i_59, i_63, i_64, i_96, i_97, i_98, i_99, i_100, i_101, i_102, i_103, i_104, i_105, i_106, i_107, i_108, i_109, i_110, i_111, i_112, i_113, i_122, i_200, i_255, i_256, i_257, i_258, i_355, i_400, i_999, i_1000, i_1200, i_5680, i_9999, i_10000, i_99999, j_0, j_1, j_2, j_3, j_4, j_5, j_6, j_9, j_10, j_11, j_98, j_99, j_100, j_999, j_1000, j_9999, j_10000, j_99999, j_1000000, r_isFirm hV hR.1, b2_t hp, r_isModel hV hR.1, b2_t hm, r_isIn, b2_t hl, b2_t hk]
            rw [e5]
            unfold fX11_found_55
            rw [nm_eq, nm_eq, at_S, if_pos (show I_ 0 ≤ (0 : Int32) by decide), d6, bv_some]
          have fin : ∀ (w : Int32), fX10_found N (I_ p) (I_ m) (I_ l) (I_ k) μ = some (.inl w, μ1) → fX11_found N (I_ p) (I_ m) (I_ l) (I_ k) ν = some (w, ν1) → ∃ z, lawC18 N v μ ν = some z ∧ QO N b V μ ν z := fun w hc hr => by
            refine ⟨_, ?_, q_a hQ w.toInt64 hdu hF hKd⟩
            simp (disch := omega) only [lawC18, fL_found, fX11_thrown, Int.reduceEq, Int.reduceNe, Int.reduceLT, Int.reduceLE, Int.reduceAdd, Int.reduceSub, Int.reduceMul, Int.reduceNeg, Int.zero_add, Int.add_zero, nm_eq, bd_some, bv_some, aI_ok, aL_ok, aS_ok, dv_ok, dw_ok, I_add, I_sub, I_mul, I_neg, I_lt, I_le, I_eq, I_nat, J_add, J_sub, J_mul, J_neg, J_lt, J_le, J_eq, I_l, J_i, I_div, J_div, b2_0, b2_1, b2_nar, nar_0, nar_1, zr_0, zr_1, zr_b2, cmp_eq, cmp_le, cmp_lt, cmp_gt, cmp_ge, mx_I, mn_I, mx_L, mn_L, az_I, if_true, if_false, not_true_eq_false, not_false_eq_true, Bool.false_eq_true, i_0, i_1, i_2, i_3, i_4, i_5, i_6, i_7, i_8, i_9, i_10, i_11, i_12, i_16, i_18, i_20, i_24, i_28, i_29, i_30, i_31, i_32, i_33, i_34, i_35, i_37, i_40, i_41, i_42, i_43, i_45, i_46, i_47, i_48, i_57, i_59, i_63, i_64, i_96, i_97, i_98, i_99, i_100, i_101, i_102, i_103, i_104, i_105, i_106, i_107, i_108, i_109, i_110, i_111, i_112, i_113, i_122, i_200, i_255, i_256, i_257, i_258, i_355, i_400, i_999, i_1000, i_1200, i_5680, i_9999, i_10000, i_99999, j_0, j_1, j_2, j_3, j_4, j_5, j_6, j_9, j_10, j_11, j_98, j_99, j_100, j_999, j_1000, j_9999, j_10000, j_99999, j_1000000, e, e', el, ek, hc, hr, bh_l, q_0 hF, n_0, at_SL, cmp_self]
          -- how it is found
          have hhw : (x_hw V p m = 1 ∧ x_md V p m = m ∧ ¬ x_md V p m = -1) ∨ (x_hw V p m = 3 ∧ x_md V p m = -1) ∨ (x_hw V p m = 2 ∧ ¬ x_md V p m = m ∧ ¬ x_md V p m = -1) := by
            by_cases hh : 0 < x_hi V p m
            · left
              have x1 : x_hw V p m = 1 := by unfold x_hw; rw [if_pos hh]
              have x2 : x_md V p m = m := by unfold x_md; rw [if_pos hh]
              exact ⟨x1, x2, by omega⟩
            · right
              have x2 : x_md V p m = x_lm V p m := by unfold x_md; rw [if_neg hh]
              by_cases h1 : x_lm V p m = -1
              · left
                exact ⟨by unfold x_hw; rw [if_neg hh, if_pos h1], by omega⟩
              · right
                refine ⟨by unfold x_hw; rw [if_neg hh, if_neg h1], fun w => ?_, by omega⟩
                rcases hmd with y | y
                · omega
                · rw [w] at y; exact hh y.2.2
          rcases (show k = 0 ∨ k = 1 ∨ k = 2 by omega) with r | r | r
          · subst r
            refine fin (I_ (x_hw V p m)) (ec.trans ?_) (er.trans ?_)
            · rw [if_pos (by decide)]
              rcases hhw with ⟨x1, x2, x3⟩ | ⟨x1, x2⟩ | ⟨x1, x2, x3⟩
              · rw [x1, if_pos (by rw [x2])]; rfl
              · have nm' : ¬ I_ (-1) = I_ m := by rw [I_eq (by omega) (by omega) (by omega) (by omega)]; omega
                rw [x1, x2, if_neg nm']; rfl
              · have n1 : ¬ I_ (x_md V p m) = I_ m := by rw [I_eq (by omega) (by omega) (by omega) (by omega)]; exact x2
                have n2 : ¬ I_ (x_md V p m) = (-1 : Int32) := by
                  show ¬ I_ (x_md V p m) = I_ (-1)
                  rw [I_eq (by omega) (by omega) (by omega) (by omega)]; exact x3
                rw [x1, if_neg n1, if_neg n2]; rfl
            · rw [if_pos (by decide), nm_eq, d3]
          · subst r
            refine fin (I_ (x_md V p m)) (ec.trans ?_) (er.trans ?_)
            · rw [if_neg (by decide), if_pos (by decide)]
            · rw [if_neg (by decide), nm_eq, d3]
              rcases hhw with ⟨x1, x2, x3⟩ | ⟨x1, x2⟩ | ⟨x1, x2, x3⟩
              · rw [x1, if_neg (by decide), if_pos (by decide), nm_eq, d4]
              · rw [x1, if_pos (by decide), x2]; rfl
              · rw [x1, if_neg (by decide), if_pos (by decide), nm_eq, d4]
          · subst r
            have hll : ∀ (h : ¬ x_md V p m = -1), fX8_levelFor N (I_ (x_md V p m)) (I_ l) μ1 = some (I_ (x_nl V p (x_md V p m) l), μ1) := fun h => c_lf hV (by omega) c3 (by omega) (by omega) hl.1 hl.2
            rcases hhw with ⟨x1, x2, x3⟩ | ⟨x1, x2⟩ | ⟨x1, x2, x3⟩
            · refine fin (I_ (x_nl V p (x_md V p m) l)) (ec.trans ?_) (er.trans ?_)
              · rw [if_neg (by decide), if_neg (by decide), if_pos (by decide), hll x3, bd_some]
              · rw [if_neg (by decide), nm_eq, d3, x1, if_neg (by decide), if_neg (by decide), nm_eq, d5 x3]
            · refine fin (I_ (-1)) (ec.trans ?_) (er.trans ?_)
              · rw [if_neg (by decide), if_neg (by decide), if_pos (by decide), x2, c_lf_n (by omega), bd_some]
              · rw [if_neg (by decide), nm_eq, d3, x1, if_pos (by decide)]; rfl
            · refine fin (I_ (x_nl V p (x_md V p m) l)) (ec.trans ?_) (er.trans ?_)
              · rw [if_neg (by decide), if_neg (by decide), if_pos (by decide), hll x3, bd_some]
              · rw [if_neg (by decide), nm_eq, d3, x1, if_neg (by decide), if_neg (by decide), nm_eq, d5 x3]
        · have nn : ∀ j : Int, 0 ≤ j → j ≤ 2 → ¬ I_ k = I_ j := fun j a c => by rw [I_eq (by omega) (by omega) (by omega) (by omega)]; omega
          have hc : fX10_found N (I_ p) (I_ m) (I_ l) (I_ k) μ = some (.inr 3, μ1) := by
            rw [ec, i_0, i_1, i_2, if_neg (nn 0 (by omega) (by omega)), if_neg (nn 1 (by omega) (by omega)), if_neg (nn 2 (by omega) (by omega))]
          have hr : fX11_found N (I_ p) (I_ m) (I_ l) (I_ k) ν = some (I_ 0, stI ν 0 0 (I_ 3)) := by
            rw [← e55 3 (by omega)]
            simp (disch := omega) only [fX11_found, Int.reduceEq, Int.reduceNe, Int.reduceLT, Int.reduceLE, Int.reduceAdd, Int.reduceSub, Int.reduceMul, Int.reduceNeg, Int.zero_add, Int.add_zero, nm_eq, bd_some, bv_some, aI_ok, aL_ok, aS_ok, dv_ok, dw_ok, I_add, I_sub, I_mul, I_neg, I_lt, I_le, I_eq, I_nat, J_add, J_sub, J_mul, J_neg, J_lt, J_le, J_eq, I_l, J_i, I_div, J_div, b2_0, b2_1, b2_nar, nar_0, nar_1, zr_0, zr_1, zr_b2, cmp_eq, cmp_le, cmp_lt, cmp_gt, cmp_ge, mx_I, mn_I, mx_L, mn_L, az_I, if_true, if_false, not_true_eq_false, not_false_eq_true, Bool.false_eq_true, i_0, i_1, i_2, i_3, i_4, i_5, i_6, i_7, i_8, i_9, i_10, i_11, i_12, i_16, i_18, i_20, i_24, i_28, i_29, i_30, i_31, i_32, i_33, i_34, i_35, i_37, i_40, i_41, i_42, i_43, i_45, i_46, i_47, i_48, i_57, i_59, i_63, i_64, i_96, i_97, i_98, i_99, i_100, i_101, i_102, i_103, i_104, i_105, i_106, i_107, i_108, i_109, i_110, i_111, i_112, i_113, i_122, i_200, i_255, i_256, i_257, i_258, i_355, i_400, i_999, i_1000, i_1200, i_5680, i_9999, i_10000, i_99999, j_0, j_1, j_2, j_3, j_4, j_5, j_6, j_9, j_10, j_11, j_98, j_99, j_100, j_999, j_1000, j_9999, j_10000, j_99999, j_1000000, r_isFirm hV hR.1, b2_t hp, r_isModel hV hR.1, b2_t hm, r_isIn, b2_t hl, b2_f hk]
          refine ⟨_, ?_, q_xm hQ hdu (I_ 3)⟩
          have n30 : ¬ (3 : Nat) = 0 := by decide
          have n31 : ¬ (3 : Nat) = 1 := by decide
          simp (disch := omega) only [lawC18, fL_found, fX11_thrown, Int.reduceEq, Int.reduceNe, Int.reduceLT, Int.reduceLE, Int.reduceAdd, Int.reduceSub, Int.reduceMul, Int.reduceNeg, Int.zero_add, Int.add_zero, nm_eq, bd_some, bv_some, aI_ok, aL_ok, aS_ok, dv_ok, dw_ok, I_add, I_sub, I_mul, I_neg, I_lt, I_le, I_eq, I_nat, J_add, J_sub, J_mul, J_neg, J_lt, J_le, J_eq, I_l, J_i, I_div, J_div, b2_0, b2_1, b2_nar, nar_0, nar_1, zr_0, zr_1, zr_b2, cmp_eq, cmp_le, cmp_lt, cmp_gt, cmp_ge, mx_I, mn_I, mx_L, mn_L, az_I, if_true, if_false, not_true_eq_false, not_false_eq_true, Bool.false_eq_true, i_0, i_1, i_2, i_3, i_4, i_5, i_6, i_7, i_8, i_9, i_10, i_11, i_12, i_16, i_18, i_20, i_24, i_28, i_29, i_30, i_31, i_32, i_33, i_34, i_35, i_37, i_40, i_41, i_42, i_43, i_45, i_46, i_47, i_48, i_57, i_59, i_63, i_64, i_96, i_97, i_98, i_99, i_100, i_101, i_102, i_103, i_104, i_105, i_106, i_107, i_108, i_109, i_110, i_111, i_112, i_113, i_122, i_200, i_255, i_256, i_257, i_258, i_355, i_400, i_999, i_1000, i_1200, i_5680, i_9999, i_10000, i_99999, j_0, j_1, j_2, j_3, j_4, j_5, j_6, j_9, j_10, j_11, j_98, j_99, j_100, j_999, j_1000, j_9999, j_10000, j_99999, j_1000000, e, e', el, ek, hc, hr, bh_r, at_S, n30, n31]
      · refine refu 1 2 (by omega) ?_ ?_
        · unfold fX10_found
          rw [c_needF_y hV hK hp.1 hp.2, bx_l, c_needM_y hV hK hm.1 hm.2, bx_l, i_0, i_3, c_needW_n (by omega) (by omega) (by omega) l0 l1 hl, bx_r]
        · rw [← e55 2 (by omega)]
          simp (disch := omega) only [fX11_found, Int.reduceEq, Int.reduceNe, Int.reduceLT, Int.reduceLE, Int.reduceAdd, Int.reduceSub, Int.reduceMul, Int.reduceNeg, Int.zero_add, Int.add_zero, nm_eq, bd_some, bv_some, aI_ok, aL_ok, aS_ok, dv_ok, dw_ok, I_add, I_sub, I_mul, I_neg, I_lt, I_le, I_eq, I_nat, J_add, J_sub, J_mul, J_neg, J_lt, J_le, J_eq, I_l, J_i, I_div, J_div, b2_0, b2_1, b2_nar, nar_0, nar_1, zr_0, zr_1, zr_b2, cmp_eq, cmp_le, cmp_lt, cmp_gt, cmp_ge, mx_I, mn_I, mx_L, mn_L, az_I, if_true, if_false, not_true_eq_false, not_false_eq_true, Bool.false_eq_true, i_0, i_1, i_2, i_3, i_4, i_5, i_6, i_7, i_8, i_9, i_10, i_11, i_12, i_16, i_18, i_20, i_24, i_28, i_29, i_30, i_31, i_32, i_33, i_34, i_35, i_37, i_40, i_41, i_42, i_43, i_45, i_46, i_47, i_48, i_57, i_59, i_63, i_64, i_96, i_97, i_98, i_99, i_100, i_101, i_102, i_103, i_104, i_105, i_106, i_107, i_108, i_109, i_110, i_111, i_112, i_113, i_122, i_200, i_255, i_256, i_257, i_258, i_355, i_400, i_999, i_1000, i_1200, i_5680, i_9999, i_10000, i_99999, j_0, j_1, j_2, j_3, j_4, j_5, j_6, j_9, j_10, j_11, j_98, j_99, j_100, j_999, j_1000, j_9999, j_10000, j_99999, j_1000000, r_isFirm hV hR.1, b2_t hp, r_isModel hV hR.1, b2_t hm, r_isIn, b2_f hl]
    · refine refu 0 1 (by omega) ?_ ?_
      · unfold fX10_found
        rw [c_needF_y hV hK hp.1 hp.2, bx_l, c_needM_n hV hK m0 m1 hm, bx_r]
      · rw [← e55 1 (by omega)]
        simp (disch := omega) only [fX11_found, Int.reduceEq, Int.reduceNe, Int.reduceLT, Int.reduceLE, Int.reduceAdd, Int.reduceSub, Int.reduceMul, Int.reduceNeg, Int.zero_add, Int.add_zero, nm_eq, bd_some, bv_some, aI_ok, aL_ok, aS_ok, dv_ok, dw_ok, I_add, I_sub, I_mul, I_neg, I_lt, I_le, I_eq, I_nat, J_add, J_sub, J_mul, J_neg, J_lt, J_le, J_eq, I_l, J_i, I_div, J_div, b2_0, b2_1, b2_nar, nar_0, nar_1, zr_0, zr_1, zr_b2, cmp_eq, cmp_le, cmp_lt, cmp_gt, cmp_ge, mx_I, mn_I, mx_L, mn_L, az_I, if_true, if_false, not_true_eq_false, not_false_eq_true, Bool.false_eq_true, i_0, i_1, i_2, i_3, i_4, i_5, i_6, i_7, i_8, i_9, i_10, i_11, i_12, i_16, i_18, i_20, i_24, i_28, i_29, i_30, i_31, i_32, i_33, i_34, i_35, i_37, i_40, i_41, i_42, i_43, i_45, i_46, i_47, i_48, i_57, i_59, i_63, i_64, i_96, i_97, i_98, i_99, i_100, i_101, i_102, i_103, i_104, i_105, i_106, i_107, i_108, i_109, i_110, i_111, i_112, i_113, i_122, i_200, i_255, i_256, i_257, i_258, i_355, i_400, i_999, i_1000, i_1200, i_5680, i_9999, i_10000, i_99999, j_0, j_1, j_2, j_3, j_4, j_5, j_6, j_9, j_10, j_11, j_98, j_99, j_100, j_999, j_1000, j_9999, j_10000, j_99999, j_1000000, r_isFirm hV hR.1, b2_t hp, r_isModel hV hR.1, b2_f hm]
  · refine refu 0 1 (by omega) ?_ ?_
    · unfold fX10_found
      rw [c_needF_n hV hK p0 p1 hp, bx_r]
    · rw [← e55 1 (by omega)]
      unfold fX11_found
      rw [r_isFirm hV hR.1 p0 p1, bd_some, b2_f hp, i_0, if_pos (by decide)]
      rfl
end
