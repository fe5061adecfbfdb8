/-! The law's cases of the questions: what both sides keep, and how an answer is compared. -/
def P_qc (k j : Nat) : Prop := P_du k j ∨ (k = 90 ∧ j = 0)
def P_qr (k j : Nat) : Prop := P_rq k j ∨ (k = 0 ∧ j = 0)
def RQ (N b : Nat) (V : Vw) (μ ν : Mem) : Prop := vB V ∧ vO V ∧ CK b V μ ∧ RKs N V ν
def QO (N b : Nat) (V : Vw) (μ ν : Mem) (z : Mem × Mem) : Prop := Fr P_qc μ z.1 ∧ Fr P_qr ν z.2 ∧ RQ N b V z.1 z.2
theorem bx_l {τ : Type} {u : Unit} {μ : Mem} {k : Mem → Option ((τ ⊕ Nat) × Mem)} : bx (some (.inl u, μ)) k = k μ := rfl
theorem bx_r {τ : Type} {e : Nat} {μ : Mem} {k : Mem → Option ((τ ⊕ Nat) × Mem)} : bx (some (.inr e, μ)) k = some (.inr e, μ) := rfl
theorem bh_l {τ α : Type} {r : τ} {μ : Mem} {kx : Nat → Mem → Option α} {k : τ → Mem → Option α} : bh (some (.inl r, μ)) kx k = k r μ := rfl
theorem bh_r {τ α : Type} {e : Nat} {μ : Mem} {kx : Nat → Mem → Option α} {k : τ → Mem → Option α} : bh (some (.inr e, μ)) kx k = kx e μ := rfl
theorem I_ex (x : Int32) : ∃ p, x = I_ p ∧ -2147483648 ≤ p ∧ p < 2147483648 := by
  refine ⟨x.toInt, ?_, ?_, ?_⟩
  · unfold I_
    exact (Int32.ofInt_toInt x).symm
  · have := Int32.le_toInt x
    omega
  · have := Int32.toInt_lt x
    omega
section
variable {N : Nat} {b : Nat} {V : Vw} {ν μ : Mem} {f p : Int}
theorem c_needF_y (hV : vB V) (hK : CK b V μ) (p0 : 0 ≤ p) (p1 : p < fN V) : fX10_needFirm N (I_ p) μ = some (.inl (), μ) := by
  have hn := hV.1
  unfold vN at hn
  have hB := hK.1
  have h0 : ¬ p < 0 := by omega
  simp (disch := omega) only [fX10_needFirm, Int.reduceEq, Int.reduceNe, Int.reduceLT, Int.reduceLE, Int.reduceAdd, Int.reduceSub, Int.reduceMul, Int.reduceNeg, Int.zero_add, Int.add_zero, nm_eq, bd_some, bv_some, aI_ok, aL_ok, aS_ok, dv_ok, dw_ok, I_add, I_sub, I_mul, I_neg, I_lt, I_le, I_eq, I_nat, J_add, J_sub, J_mul, J_neg, J_lt, J_le, J_eq, I_l, J_i, I_div, J_div, b2_0, b2_1, b2_nar, nar_0, nar_1, zr_0, zr_1, zr_b2, cmp_eq, cmp_le, cmp_lt, cmp_gt, cmp_ge, mx_I, mn_I, mx_L, mn_L, az_I, if_true, if_false, not_true_eq_false, not_false_eq_true, i_0, i_1, i_2, i_3, i_4, i_5, i_6, i_7, i_8, i_9, i_10, i_11, i_12, i_16, i_18, i_20, i_24, i_28, i_29, i_30, i_31, i_32, i_33, i_34, i_35, i_37, i_40, i_41, i_42, i_43, i_45, i_46, i_47, i_48, i_57, i_59, i_63, i_64, i_96, i_97, i_98, i_99, i_100, i_101, i_102, i_103, i_104, i_105, i_106, i_107, i_108, i_109, i_110, i_111, i_112, i_113, i_122, i_200, i_255, i_256, i_257, i_258, i_355, i_400, i_999, i_1000, i_1200, i_5680, i_9999, i_10000, i_99999, j_0, j_1, j_2, j_3, j_4, j_5, j_6, j_9, j_10, j_11, j_98, j_99, j_100, j_999, j_1000, j_9999, j_10000, j_99999, j_1000000, h0, hK.2, gB_k hB.1, CB_f hB, p1]
theorem c_needF_n (hV : vB V) (hK : CK b V μ) (p0 : -2147483648 ≤ p) (p1 : p < 2147483648) (h : ¬ (0 ≤ p ∧ p < fN V)) : fX10_needFirm N (I_ p) μ = some (.inr 0, μ) := by
  have hn := hV.1
  unfold vN at hn
  have hB := hK.1
  by_cases h0 : p < 0
  · simp (disch := omega) only [fX10_needFirm, Int.reduceEq, Int.reduceNe, Int.reduceLT, Int.reduceLE, Int.reduceAdd, Int.reduceSub, Int.reduceMul, Int.reduceNeg, Int.zero_add, Int.add_zero, nm_eq, bd_some, bv_some, aI_ok, aL_ok, aS_ok, dv_ok, dw_ok, I_add, I_sub, I_mul, I_neg, I_lt, I_le, I_eq, I_nat, J_add, J_sub, J_mul, J_neg, J_lt, J_le, J_eq, I_l, J_i, I_div, J_div, b2_0, b2_1, b2_nar, nar_0, nar_1, zr_0, zr_1, zr_b2, cmp_eq, cmp_le, cmp_lt, cmp_gt, cmp_ge, mx_I, mn_I, mx_L, mn_L, az_I, if_true, if_false, not_true_eq_false, not_false_eq_true, i_0, i_1, i_2, i_3, i_4, i_5, i_6, i_7, i_8, i_9, i_10, i_11, i_12, i_16, i_18, i_20, i_24, i_28, i_29, i_30, i_31, i_32, i_33, i_34, i_35, i_37, i_40, i_41, i_42, i_43, i_45, i_46, i_47, i_48, i_57, i_59, i_63, i_64, i_96, i_97, i_98, i_99, i_100, i_101, i_102, i_103, i_104, i_105, i_106, i_107, i_108, i_109, i_110, i_111, i_112, i_113, i_122, i_200, i_255, i_256, i_257, i_258, i_355, i_400, i_999, i_1000, i_1200, i_5680, i_9999, i_10000, i_99999, j_0, j_1, j_2, j_3, j_4, j_5, j_6, j_9, j_10, j_11, j_98, j_99, j_100, j_999, j_1000, j_9999, j_10000, j_99999, j_1000000, h0]
  · have h1 : ¬ p < fN V := by omega
    simp (disch := omega) only [fX10_needFirm, Int.reduceEq, Int.reduceNe, Int.reduceLT, Int.reduceLE, Int.reduceAdd, Int.reduceSub, Int.reduceMul, Int.reduceNeg, Int.zero_add, Int.add_zero, nm_eq, bd_some, bv_some, aI_ok, aL_ok, aS_ok, dv_ok, dw_ok, I_add, I_sub, I_mul, I_neg, I_lt, I_le, I_eq, I_nat, J_add, J_sub, J_mul, J_neg, J_lt, J_le, J_eq, I_l, J_i, I_div, J_div, b2_0, b2_1, b2_nar, nar_0, nar_1, zr_0, zr_1, zr_b2, cmp_eq, cmp_le, cmp_lt, cmp_gt, cmp_ge, mx_I, mn_I, mx_L, mn_L, az_I, if_true, if_false, not_true_eq_false, not_false_eq_true, i_0, i_1, i_2, i_3, i_4, i_5, i_6, i_7, i_8, i_9, i_10, i_11, i_12, i_16, i_18, i_20, i_24, i_28, i_29, i_30, i_31, i_32, i_33, i_34, i_35, i_37, i_40, i_41, i_42, i_43, i_45, i_46, i_47, i_48, i_57, i_59, i_63, i_64, i_96, i_97, i_98, i_99, i_100, i_101, i_102, i_103, i_104, i_105, i_106, i_107, i_108, i_109, i_110, i_111, i_112, i_113, i_122, i_200, i_255, i_256, i_257, i_258, i_355, i_400, i_999, i_1000, i_1200, i_5680, i_9999, i_10000, i_99999, j_0, j_1, j_2, j_3, j_4, j_5, j_6, j_9, j_10, j_11, j_98, j_99, j_100, j_999, j_1000, j_9999, j_10000, j_99999, j_1000000, h0, hK.2, gB_k hB.1, CB_f hB, h1]
theorem c_needW_y {lo hi : Int} (l0 : -100000 ≤ lo) (h0 : hi ≤ 100000) (p0 : lo ≤ p) (p1 : p ≤ hi) : fX10_needWithin N (I_ p) (I_ lo) (I_ hi) μ = some (.inl (), μ) := by
  have h : ¬ p < lo := by omega
  simp (disch := omega) only [fX10_needWithin, Int.reduceEq, Int.reduceNe, Int.reduceLT, Int.reduceLE, Int.reduceAdd, Int.reduceSub, Int.reduceMul, Int.reduceNeg, Int.zero_add, Int.add_zero, nm_eq, bd_some, bv_some, aI_ok, aL_ok, aS_ok, dv_ok, dw_ok, I_add, I_sub, I_mul, I_neg, I_lt, I_le, I_eq, I_nat, J_add, J_sub, J_mul, J_neg, J_lt, J_le, J_eq, I_l, J_i, I_div, J_div, b2_0, b2_1, b2_nar, nar_0, nar_1, zr_0, zr_1, zr_b2, cmp_eq, cmp_le, cmp_lt, cmp_gt, cmp_ge, mx_I, mn_I, mx_L, mn_L, az_I, if_true, if_false, not_true_eq_false, not_false_eq_true, i_0, i_1, i_2, i_3, i_4, i_5, i_6, i_7, i_8, i_9, i_10, i_11, i_12, i_16, i_18, i_20, i_24, i_28, i_29, i_30, i_31, i_32, i_33, i_34, i_35, i_37, i_40, i_41, i_42, i_43, i_45, i_46, i_47, i_48, i_57, i_59, i_63, i_64, i_96, i_97, i_98, i_99, i_100, i_101, i_102, i_103, i_104, i_105, i_106, i_107, i_108, i_109, i_110, i_111, i_112, i_113, i_122, i_200, i_255, i_256, i_257, i_258, i_355, i_400, i_999, i_1000, i_1200, i_5680, i_9999, i_10000, i_99999, j_0, j_1, j_2, j_3, j_4, j_5, j_6, j_9, j_10, j_11, j_98, j_99, j_100, j_999, j_1000, j_9999, j_10000, j_99999, j_1000000, h, p1]
theorem c_needW_n {lo hi : Int} (l0 : -100000 ≤ lo) (l1 : lo ≤ hi) (h0 : hi ≤ 100000) (p0 : -2147483648 ≤ p) (p1 : p < 2147483648) (hp : ¬ (lo ≤ p ∧ p ≤ hi)) : fX10_needWithin N (I_ p) (I_ lo) (I_ hi) μ = some (.inr 1, μ) := by
  by_cases h : p < lo
  · simp (disch := omega) only [fX10_needWithin, Int.reduceEq, Int.reduceNe, Int.reduceLT, Int.reduceLE, Int.reduceAdd, Int.reduceSub, Int.reduceMul, Int.reduceNeg, Int.zero_add, Int.add_zero, nm_eq, bd_some, bv_some, aI_ok, aL_ok, aS_ok, dv_ok, dw_ok, I_add, I_sub, I_mul, I_neg, I_lt, I_le, I_eq, I_nat, J_add, J_sub, J_mul, J_neg, J_lt, J_le, J_eq, I_l, J_i, I_div, J_div, b2_0, b2_1, b2_nar, nar_0, nar_1, zr_0, zr_1, zr_b2, cmp_eq, cmp_le, cmp_lt, cmp_gt, cmp_ge, mx_I, mn_I, mx_L, mn_L, az_I, if_true, if_false, not_true_eq_false, not_false_eq_true, i_0, i_1, i_2, i_3, i_4, i_5, i_6, i_7, i_8, i_9, i_10, i_11, i_12, i_16, i_18, i_20, i_24, i_28, i_29, i_30, i_31, i_32, i_33, i_34, i_35, i_37, i_40, i_41, i_42, i_43, i_45, i_46, i_47, i_48, i_57, i_59, i_63, i_64, i_96, i_97, i_98, i_99, i_100, i_101, i_102, i_103, i_104, i_105, i_106, i_107, i_108, i_109, i_110, i_111, i_112, i_113, i_122, i_200, i_255, i_256, i_257, i_258, i_355, i_400, i_999, i_1000, i_1200, i_5680, i_9999, i_10000, i_99999, j_0, j_1, j_2, j_3, j_4, j_5, j_6, j_9, j_10, j_11, j_98, j_99, j_100, j_999, j_1000, j_9999, j_10000, j_99999, j_1000000, h]
  · have h1 : ¬ p ≤ hi := by omega
    simp (disch := omega) only [fX10_needWithin, Int.reduceEq, Int.reduceNe, Int.reduceLT, Int.reduceLE, Int.reduceAdd, Int.reduceSub, Int.reduceMul, Int.reduceNeg, Int.zero_add, Int.add_zero, nm_eq, bd_some, bv_some, aI_ok, aL_ok, aS_ok, dv_ok, dw_ok, I_add, I_sub, I_mul, I_neg, I_lt, I_le, I_eq, I_nat, J_add, J_sub, J_mul, J_neg, J_lt, J_le, J_eq, I_l, J_i, I_div, J_div, b2_0, b2_1, b2_nar, nar_0, nar_1, zr_0, zr_1, zr_b2, cmp_eq, cmp_le, cmp_lt, cmp_gt, cmp_ge, mx_I, mn_I, mx_L, mn_L, az_I, if_true, if_false, not_true_eq_false, not_false_eq_true, i_0, i_1, i_2, i_3, i_4, i_5, i_6, i_7, i_8, i_9, i_10, i_11, i_12, i_16, i_18, i_20, i_24, i_28, i_29, i_30, i_31, i_32, i_33, i_34, i_35, i_37, i_40, i_41, i_42, i_43, i_45, i_46, i_47, i_48, i_57, i_59, i_63, i_64, i_96, i_97, i_98, i_99, i_100, i_101, i_102, i_103, i_104, i_105, i_106, i_107, i_108, i_109, i_110, i_111, i_112, i_113, i_122, i_200, i_255, i_256, i_257, i_258, i_355, i_400, i_999, i_1000, i_1200, i_5680, i_9999, i_10000, i_99999, j_0, j_1, j_2, j_3, j_4, j_5, j_6, j_9, j_10, j_11, j_98, j_99, j_100, j_999, j_1000, j_9999, j_10000, j_99999, j_1000000, h, h1]
theorem RKs.thr (h : RKs N V ν) (x : Int32) : RKs N V (stI ν 0 0 x) := by
  have hF : Fr (fun k j => k = 0 ∧ j = 0) ν (stI ν 0 0 x) := Fr.rf.stI ⟨rfl, rfl⟩
  have hp : ∀ k j, P_rb k j → ¬ (k = 0 ∧ j = 0) := fun k j h => by unfold P_rb at h; omega
  exact ⟨h.1.F hF hp, h.2.1.F hF hp, (h.K.thr x).2.2⟩
theorem CK.out (h : CK b V μ) (x : Int64) : CK b V (stL μ 90 0 x) := h
theorem q_thr (x : Int32) : Fr P_qr ν (stI ν 0 0 x) := Fr.rf.stI (Or.inr ⟨rfl, rfl⟩)
theorem q_out (x : Int64) : Fr P_qc μ (stL μ 90 0 x) := Fr.rf.stL (Or.inr ⟨rfl, rfl⟩)
/-- a question that is refused -/
theorem q_x (hQ : RQ N b V μ ν) (k : Int32) : QO N b V μ ν (μ, stI ν 0 0 k) := ⟨Fr.rf, q_thr k, hQ.1, hQ.2.1, hQ.2.2.1, hQ.2.2.2.thr k⟩
/-- a question that is answered -/
theorem q_a {μ1 ν1 : Mem} (hQ : RQ N b V μ ν) (x : Int64) (h1 : Fr P_du μ μ1) (h2 : Fr P_rq (stI ν 0 0 (I_ 0)) ν1) (hK : RKd N V ν1) : QO N b V μ ν (stL μ1 90 0 x, ν1) := ⟨(h1.mono (fun k j h => Or.inl h)).tr (q_out x), (q_thr (I_ 0)).tr (h2.mono (fun k j h => Or.inl h)), hQ.1, hQ.2.1, (hQ.2.2.1.du h1).out x, (hQ.2.2.2.thr (I_ 0)).F h2 hK⟩
theorem q_0 {ν1 : Mem} (h2 : Fr P_rq (stI ν 0 0 (I_ 0)) ν1) : ν1.1 0 0 = I_ 0 := by
  rw [(h2 0 0 (by unfold P_rq; omega)).1, at_S]
theorem n_0 : Int.toNat 0 = 0 := rfl
theorem at_SL {μ : Mem} {c j : Nat} {v : Int64} : (stL μ c j v).2.1 c j = v := by rw [st_L, if_pos ⟨rfl, rfl⟩]
theorem cmp_self (x : Int64) : lg_cmp x x = 0 := by
  unfold lg_cmp
  simp
theorem Q24 (hN : 20000 ≤ N) (v : Nat → Int32) (hQ : RQ N b V μ ν) : ∃ z, lawC24 N v μ ν = some z ∧ QO N b V μ ν z := by
  obtain ⟨hV, hW, hK, hR⟩ := hQ
  have hQ : RQ N b V μ ν := ⟨hV, hW, hK, hR⟩
  have hn := hV.1
  unfold vN at hn
  obtain ⟨p, e, p0, p1⟩ := I_ex (v 1)
  by_cases hp : 0 ≤ p ∧ p < fN V
  · obtain ⟨ν1, a1, a2, a3⟩ := r_valK (N := N) (f := p) hV hW (by omega) hp.1 (by omega) (hR.K.thr (I_ 0))
    refine ⟨_, ?_, q_a hQ (J_ (x_val V p)) Fr.rf a2 a3⟩
    simp (disch := omega) only [lawC24, fL_value, fX10_value, fX11_value, fX11_value_14, fX11_thrown, Int.reduceEq, Int.reduceNe, Int.reduceLT, Int.reduceLE, Int.reduceAdd, Int.reduceSub, Int.reduceMul, Int.reduceNeg, Int.zero_add, Int.add_zero, nm_eq, bd_some, bv_some, aI_ok, aL_ok, aS_ok, dv_ok, dw_ok, I_add, I_sub, I_mul, I_neg, I_lt, I_le, I_eq, I_nat, J_add, J_sub, J_mul, J_neg, J_lt, J_le, J_eq, I_l, J_i, I_div, J_div, b2_0, b2_1, b2_nar, nar_0, nar_1, zr_0, zr_1, zr_b2, cmp_eq, cmp_le, cmp_lt, cmp_gt, cmp_ge, mx_I, mn_I, mx_L, mn_L, az_I, if_true, if_false, not_true_eq_false, not_false_eq_true, i_0, i_1, i_2, i_3, i_4, i_5, i_6, i_7, i_8, i_9, i_10, i_11, i_12, i_16, i_18, i_20, i_24, i_28, i_29, i_30, i_31, i_32, i_33, i_34, i_35, i_37, i_40, i_41, i_42, i_43, i_45, i_46, i_47, i_48, i_57, i_59, i_63, i_64, i_96, i_97, i_98, i_99, i_100, i_101, i_102, i_103, i_104, i_105, i_106, i_107, i_108, i_109, i_110, i_111, i_112, i_113, i_122, i_200, i_255, i_256, i_257, i_258, i_355, i_400, i_999, i_1000, i_1200, i_5680, i_9999, i_10000, i_99999, j_0, j_1, j_2, j_3, j_4, j_5, j_6, j_9, j_10, j_11, j_98, j_99, j_100, j_999, j_1000, j_9999, j_10000, j_99999, j_1000000, e, c_needF_y hV hK hp.1 hp.2, bx_l, bh_l, hK.2, gB_k hK.1.1, c_exVal hV hK.1.2.1 (show 100 ≤ N by omega), r_isFirm hV hR.1, b2_t hp, at_S, a1, q_0 a2, n_0, at_SL, cmp_self]
  · refine ⟨_, ?_, q_x hQ (I_ 1)⟩
    simp (disch := omega) only [lawC24, fL_value, fX10_value, fX11_value, fX11_value_14, fX11_thrown, Int.reduceEq, Int.reduceNe, Int.reduceLT, Int.reduceLE, Int.reduceAdd, Int.reduceSub, Int.reduceMul, Int.reduceNeg, Int.zero_add, Int.add_zero, nm_eq, bd_some, bv_some, aI_ok, aL_ok, aS_ok, dv_ok, dw_ok, I_add, I_sub, I_mul, I_neg, I_lt, I_le, I_eq, I_nat, J_add, J_sub, J_mul, J_neg, J_lt, J_le, J_eq, I_l, J_i, I_div, J_div, b2_0, b2_1, b2_nar, nar_0, nar_1, zr_0, zr_1, zr_b2, cmp_eq, cmp_le, cmp_lt, cmp_gt, cmp_ge, mx_I, mn_I, mx_L, mn_L, az_I, if_true, if_false, not_true_eq_false, not_false_eq_true, i_0, i_1, i_2, i_3, i_4, i_5, i_6, i_7, i_8, i_9, i_10, i_11, i_12, i_16, i_18, i_20, i_24, i_28, i_29, i_30, i_31, i_32, i_33, i_34, i_35, i_37, i_40, i_41, i_42, i_43, i_45, i_46, i_47, i_48, i_57, i_59, i_63, i_64, i_96, i_97, i_98, i_99, i_100, i_101, i_102, i_103, i_104, i_105, i_106, i_107, i_108, i_109, i_110, i_111, i_112, i_113, i_122, i_200, i_255, i_256, i_257, i_258, i_355, i_400, i_999, i_1000, i_1200, i_5680, i_9999, i_10000, i_99999, j_0, j_1, j_2, j_3, j_4, j_5, j_6, j_9, j_10, j_11, j_98, j_99, j_100, j_999, j_1000, j_9999, j_10000, j_99999, j_1000000, e, c_needF_n hV hK p0 p1 hp, bx_r, bh_r, r_isFirm hV hR.1, b2_f hp, at_S]
theorem z_ex (x : Int32) : ∃ (Z : Prop) (_ : Decidable Z), (if x = 0 then (0 : Int32) else 1) = I_ (b2 Z) := by
  refine ⟨¬ x = 0, inferInstance, ?_⟩
  by_cases h : x = 0
  · rw [if_pos h, b2_f (fun w => w h)]; rfl
  · rw [if_neg h, b2_t h]; rfl
theorem Q25 (hN : 20000 ≤ N) (v : Nat → Int32) (hQ : RQ N b V μ ν) : ∃ z, lawC25 N v μ ν = some z ∧ QO N b V μ ν z := by
  obtain ⟨hV, hW, hK, hR⟩ := hQ
  have hQ : RQ N b V μ ν := ⟨hV, hW, hK, hR⟩
  have hn := hV.1
  unfold vN at hn
  obtain ⟨p, e, p0, p1⟩ := I_ex (v 1)
  obtain ⟨q, e', q0, q1⟩ := I_ex (v 2)
  obtain ⟨Z, _, ez⟩ := z_ex (v 3)
  unfold lawC25
  rw [ez]
  by_cases hp : 0 ≤ p ∧ p < fN V
  · by_cases hq : 0 ≤ q ∧ q ≤ 2
    · obtain ⟨ν1, a1, a2, a3⟩ := r_tm (N := N) (f := p) (t := q) (Z := Z) hV hW (by omega) hp.1 hp.2 hq.1 hq.2 (hR.K.thr (I_ 0))
      obtain ⟨μ1, c1, c2⟩ := c_tm (N := N) (f := p) (t := q) (Z := Z) hV (by omega) hp.1 hp.2 hq.1 hq.2 hK.1
      refine ⟨_, ?_, q_a hQ (J_ (x_tm V p q Z)) (c2.mono (fun k j h => P_cp_du h)) a2 a3⟩
      have hx := x_tm_in (V := V) (f := p) (t := q) (Z := Z)
      simp (disch := omega) only [fL_margin, fX10_margin, fX11_margin, fX11_margin_25, fX11_isMethod, fX11_thrown, Int.reduceEq, Int.reduceNe, Int.reduceLT, Int.reduceLE, Int.reduceAdd, Int.reduceSub, Int.reduceMul, Int.reduceNeg, Int.zero_add, Int.add_zero, nm_eq, bd_some, bv_some, aI_ok, aL_ok, aS_ok, dv_ok, dw_ok, I_add, I_sub, I_mul, I_neg, I_lt, I_le, I_eq, I_nat, J_add, J_sub, J_mul, J_neg, J_lt, J_le, J_eq, I_l, J_i, I_div, J_div, b2_0, b2_1, b2_nar, nar_0, nar_1, zr_0, zr_1, zr_b2, cmp_eq, cmp_le, cmp_lt, cmp_gt, cmp_ge, mx_I, mn_I, mx_L, mn_L, az_I, if_true, if_false, not_true_eq_false, not_false_eq_true, i_0, i_1, i_2, i_3, i_4, i_5, i_6, i_7, i_8, i_9, i_10, i_11, i_12, i_16, i_18, i_20, i_24, i_28, i_29, i_30, i_31, i_32, i_33, i_34, i_35, i_37, i_40, i_41, i_42, i_43, i_45, i_46, i_47, i_48, i_57, i_59, i_63, i_64, i_96, i_97, i_98, i_99, i_100, i_101, i_102, i_103, i_104, i_105, i_106, i_107, i_108, i_109, i_110, i_111, i_112, i_113, i_122, i_200, i_255, i_256, i_257, i_258, i_355, i_400, i_999, i_1000, i_1200, i_5680, i_9999, i_10000, i_99999, j_0, j_1, j_2, j_3, j_4, j_5, j_6, j_9, j_10, j_11, j_98, j_99, j_100, j_999, j_1000, j_9999, j_10000, j_99999, j_1000000, e, e', c_needF_y hV hK hp.1 hp.2, c_needW_y (N := N) (μ := μ) (p := q) (lo := 0) (hi := 2) (by omega) (by omega) hq.1 hq.2, bx_l, bh_l, hK.2, gB_k hK.1.1, c1, r_isFirm hV hR.1, r_isIn, b2_t hp, b2_t hq, at_S, a1, q_0 a2, n_0, at_SL, cmp_self]
    · refine ⟨_, ?_, q_x hQ (I_ 2)⟩
      simp (disch := omega) only [fL_margin, fX10_margin, fX11_margin, fX11_margin_25, fX11_isMethod, fX11_thrown, Int.reduceEq, Int.reduceNe, Int.reduceLT, Int.reduceLE, Int.reduceAdd, Int.reduceSub, Int.reduceMul, Int.reduceNeg, Int.zero_add, Int.add_zero, nm_eq, bd_some, bv_some, aI_ok, aL_ok, aS_ok, dv_ok, dw_ok, I_add, I_sub, I_mul, I_neg, I_lt, I_le, I_eq, I_nat, J_add, J_sub, J_mul, J_neg, J_lt, J_le, J_eq, I_l, J_i, I_div, J_div, b2_0, b2_1, b2_nar, nar_0, nar_1, zr_0, zr_1, zr_b2, cmp_eq, cmp_le, cmp_lt, cmp_gt, cmp_ge, mx_I, mn_I, mx_L, mn_L, az_I, if_true, if_false, not_true_eq_false, not_false_eq_true, i_0, i_1, i_2, i_3, i_4, i_5, i_6, i_7, i_8, i_9, i_10, i_11, i_12, i_16, i_18, i_20, i_24, i_28, i_29, i_30, i_31, i_32, i_33, i_34, i_35, i_37, i_40, i_41, i_42, i_43, i_45, i_46, i_47, i_48, i_57, i_59, i_63, i_64, i_96, i_97, i_98, i_99, i_100, i_101, i_102, i_103, i_104, i_105, i_106, i_107, i_108, i_109, i_110, i_111, i_112, i_113, i_122, i_200, i_255, i_256, i_257, i_258, i_355, i_400, i_999, i_1000, i_1200, i_5680, i_9999, i_10000, i_99999, j_0, j_1, j_2, j_3, j_4, j_5, j_6, j_9, j_10, j_11, j_98, j_99, j_100, j_999, j_1000, j_9999, j_10000, j_99999, j_1000000, e, e', c_needF_y hV hK hp.1 hp.2, c_needW_n (N := N) (μ := μ) (p := q) (lo := 0) (hi := 2) (by omega) (by omega) (by omega) q0 q1 hq, bx_l, bx_r, bh_r, r_isFirm hV hR.1, r_isIn, b2_t hp, b2_f hq, at_S, Nat.one_ne_zero]
  · refine ⟨_, ?_, q_x hQ (I_ 1)⟩
    simp (disch := omega) only [fL_margin, fX10_margin, fX11_margin, fX11_margin_25, fX11_thrown, Int.reduceEq, Int.reduceNe, Int.reduceLT, Int.reduceLE, Int.reduceAdd, Int.reduceSub, Int.reduceMul, Int.reduceNeg, Int.zero_add, Int.add_zero, nm_eq, bd_some, bv_some, aI_ok, aL_ok, aS_ok, dv_ok, dw_ok, I_add, I_sub, I_mul, I_neg, I_lt, I_le, I_eq, I_nat, J_add, J_sub, J_mul, J_neg, J_lt, J_le, J_eq, I_l, J_i, I_div, J_div, b2_0, b2_1, b2_nar, nar_0, nar_1, zr_0, zr_1, zr_b2, cmp_eq, cmp_le, cmp_lt, cmp_gt, cmp_ge, mx_I, mn_I, mx_L, mn_L, az_I, if_true, if_false, not_true_eq_false, not_false_eq_true, i_0, i_1, i_2, i_3, i_4, i_5, i_6, i_7, i_8, i_9, i_10, i_11, i_12, i_16, i_18, i_20, i_24, i_28, i_29, i_30, i_31, i_32, i_33, i_34, i_35, i_37, i_40, i_41, i_42, i_43, i_45, i_46, i_47, i_48, i_57, i_59, i_63, i_64, i_96, i_97, i_98, i_99, i_100, i_101, i_102, i_103, i_104, i_105, i_106, i_107, i_108, i_109, i_110, i_111, i_112, i_113, i_122, i_200, i_255, i_256, i_257, i_258, i_355, i_400, i_999, i_1000, i_1200, i_5680, i_9999, i_10000, i_99999, j_0, j_1, j_2, j_3, j_4, j_5, j_6, j_9, j_10, j_11, j_98, j_99, j_100, j_999, j_1000, j_9999, j_10000, j_99999, j_1000000, e, e', c_needF_n hV hK p0 p1 hp, bx_r, bh_r, r_isFirm hV hR.1, b2_f hp, at_S]
theorem Q36 (hN : 20000 ≤ N) (v : Nat → Int32) (hQ : RQ N b V μ ν) : ∃ z, lawC36 N v μ ν = some z ∧ QO N b V μ ν z := by
  obtain ⟨hV, hW, hK, hR⟩ := hQ
  have hn := hV.1
  unfold vN at hn
  obtain ⟨p, e, p0, p1⟩ := I_ex (v 1)
  obtain ⟨μ1, c1, c2⟩ := c_rk (N := N) hV (by omega) hK p0 p1
  obtain ⟨ν1, a1, a2, a3⟩ := r_rk7 (N := N) (p := p) hV hW (by omega) p0 p1 (fN V).toNat N 0 _ (by omega) (by omega) (by omega) (hR.K.thr (I_ 0))
  have a1 : fX11_ranked_7 N N (I_ p) (I_ 0) (stI ν 0 0 (I_ 0)) = some (I_ (x_rk V p), ν1) := a1
  refine ⟨(μ1, ν1), ?_, c2.mono (fun k j h => Or.inl h), (q_thr (I_ 0)).tr (a2.mono (fun k j h => Or.inl h)), hV, hW, hK.du c2, (hR.thr (I_ 0)).F a2 a3⟩
  simp (disch := omega) only [lawC36, fX11_ranked, Int.reduceEq, Int.reduceNe, Int.reduceLT, Int.reduceLE, Int.reduceAdd, Int.reduceSub, Int.reduceMul, Int.reduceNeg, Int.zero_add, Int.add_zero, nm_eq, bd_some, bv_some, aI_ok, aL_ok, aS_ok, dv_ok, dw_ok, I_add, I_sub, I_mul, I_neg, I_lt, I_le, I_eq, I_nat, J_add, J_sub, J_mul, J_neg, J_lt, J_le, J_eq, I_l, J_i, I_div, J_div, b2_0, b2_1, b2_nar, nar_0, nar_1, zr_0, zr_1, zr_b2, cmp_eq, cmp_le, cmp_lt, cmp_gt, cmp_ge, mx_I, mn_I, mx_L, mn_L, az_I, if_true, if_false, not_true_eq_false, not_false_eq_true, i_0, i_1, i_2, i_3, i_4, i_5, i_6, i_7, i_8, i_9, i_10, i_11, i_12, i_16, i_18, i_20, i_24, i_28, i_29, i_30, i_31, i_32, i_33, i_34, i_35, i_37, i_40, i_41, i_42, i_43, i_45, i_46, i_47, i_48, i_57, i_59, i_63, i_64, i_96, i_97, i_98, i_99, i_100, i_101, i_102, i_103, i_104, i_105, i_106, i_107, i_108, i_109, i_110, i_111, i_112, i_113, i_122, i_200, i_255, i_256, i_257, i_258, i_355, i_400, i_999, i_1000, i_1200, i_5680, i_9999, i_10000, i_99999, j_0, j_1, j_2, j_3, j_4, j_5, j_6, j_9, j_10, j_11, j_98, j_99, j_100, j_999, j_1000, j_9999, j_10000, j_99999, j_1000000, e, c1, a1]
end
