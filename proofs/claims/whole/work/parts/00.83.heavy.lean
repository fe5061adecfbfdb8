/-! heaviest and ranked, on both sides; the class's relation CK. -/
def CK (b : Nat) (V : Vw) (μ : Mem) : Prop := CB b V μ ∧ μ.2.2 0 6 = b
theorem gB_k {β : Type} {b : Nat} {k : Nat → Option β} (h : kB b) : gB b k = k b := if_pos h
theorem P_cp_du {k j : Nat} (h : P_cp k j) : P_du k j := by unfold P_cp at h; unfold P_du; omega
theorem P_st_du {k j : Nat} (h : P_st k j) : P_du k j := by unfold P_st at h; unfold P_du; omega
theorem P_pm_du {k j : Nat} (h : P_pm k j) : P_du k j := by unfold P_pm at h; unfold P_du; omega
theorem CK.du {b : Nat} {V : Vw} {μ μ' : Mem} (h : CK b V μ) (g : Fr P_du μ μ') : CK b V μ' := ⟨h.1.du g, by rw [(g 0 6 (by unfold P_du; omega)).2.2]; exact h.2⟩
theorem CK.cp {b : Nat} {V : Vw} {μ μ' : Mem} (h : CK b V μ) (g : Fr P_cp μ μ') : CK b V μ' := h.du (g.mono (fun k j q => P_cp_du q))
def wN (V : Vw) (z : Int) : Int := x_ma (v_no V z) (s_fm V z) (s_se V 0) 0 (s_se V 1 = 1)
def hv1 (V : Vw) (f : Int) (G : Prop) [Decidable G] (z best : Int) : Int := if s_li V z = 1 ∧ s_fm V z = f then (if best = -1 then z else if (if G then wN V z < wN V best else wN V best < wN V z) then z else best) else best
def hvf (V : Vw) (f : Int) (G : Prop) [Decidable G] : Nat → Int → Int → Int
  | 0, _, best => best
  | d + 1, z, best => hvf V f G d (z + 1) (hv1 V f G z best)
def x_hv (V : Vw) (f : Int) (G : Prop) [Decidable G] : Int := hvf V f G (zN V) 0 (-1)
section
variable {N : Nat} {b : Nat} {V : Vw} {ν μ : Mem} {f t i v : Int}
theorem wN_in (V : Vw) (z : Int) : 0 ≤ wN V z ∧ wN V z ≤ 99999 := x_ma_in _ _ _ _
theorem x_wt_w {z : Int} (h : s_fm V z = f) : x_wt V z = wN V z - x_ma V f (s_se V 0) 0 (s_se V 1 = 1) := by
  unfold x_wt wN
  rw [h]
theorem hv_skip {G : Prop} [Decidable G] {z best : Int} (h : ¬ (s_li V z = 1 ∧ s_fm V z = f)) : hv1 V f G z best = best := if_neg h
theorem hv_new {G : Prop} [Decidable G] {z best : Int} (h : s_li V z = 1 ∧ s_fm V z = f) (hb : best = -1) : hv1 V f G z best = z := by
  unfold hv1
  rw [if_pos h, if_pos hb]
theorem hv_t {G : Prop} [Decidable G] {z best : Int} (h : s_li V z = 1 ∧ s_fm V z = f) (hb : best ≠ -1) (hc : if G then wN V z < wN V best else wN V best < wN V z) : hv1 V f G z best = z := by
  unfold hv1
  rw [if_pos h, if_neg hb, if_pos hc]
theorem hv_f {G : Prop} [Decidable G] {z best : Int} (h : s_li V z = 1 ∧ s_fm V z = f) (hb : best ≠ -1) (hc : ¬ (if G then wN V z < wN V best else wN V best < wN V z)) : hv1 V f G z best = best := by
  unfold hv1
  rw [if_pos h, if_neg hb, if_neg hc]
def hw (V : Vw) (best : Int) : Int := if best = -1 then 0 else wN V best
def hu (V : Vw) (f best : Int) : Int := if best = -1 then 0 else wN V best - x_ma V f (s_se V 0) 0 (s_se V 1 = 1)
theorem c_hv {G : Prop} [Decidable G] (hV : vB V) (hN : 100 ≤ N) (f0 : 0 ≤ f) (f1 : f < 4) : ∀ (d n : Nat) (z best : Int) (μ : Mem), d < n → 0 ≤ z → z + d = sN V → (best = -1 ∨ (0 ≤ best ∧ best < z ∧ s_fm V best = f)) → CK b V μ → ∃ μ', fX10_heaviest_22 N n b (I_ f) (I_ (b2 G)) (I_ best) (I_ (hw V best)) (I_ z) μ = some (.inl (I_ (hvf V f G d z best)), μ') ∧ Fr P_du μ μ' := by
  have hn := hV.1
  unfold vN at hn
  intro d
  induction d with
  | zero =>
    intro n z best μ h1 h2 h3 h4 hK
    obtain ⟨n, rfl⟩ : ∃ m, n = m + 1 := ⟨n - 1, by omega⟩
    have hle : sN V ≤ z := by omega
    have hB := hK.1
    have hS := hB.2.1
    refine ⟨μ, ?_, Fr.rf⟩
    simp (disch := omega) only [fX10_heaviest_22, Int.reduceEq, Int.reduceNe, Int.reduceLT, Int.reduceLE, Int.reduceAdd, Int.reduceSub, Int.reduceMul, Int.reduceNeg, Int.zero_add, Int.add_zero, nm_eq, bd_some, bv_some, aI_ok, aL_ok, aS_ok, dv_ok, dw_ok, I_add, I_sub, I_mul, I_neg, I_lt, I_le, I_eq, I_nat, J_add, J_sub, J_mul, J_neg, J_lt, J_le, J_eq, I_l, J_i, I_div, J_div, b2_0, b2_1, b2_nar, nar_0, nar_1, zr_0, zr_1, zr_b2, cmp_eq, cmp_le, cmp_lt, cmp_gt, cmp_ge, mx_I, mn_I, mx_L, mn_L, az_I, if_true, if_false, not_true_eq_false, not_false_eq_true, i_0, i_1, i_2, i_3, i_4, i_5, i_6, i_7, i_8, i_9, i_10, i_11, i_12, i_16, i_18, i_20, i_24, i_28, i_29, i_30, i_31, i_32, i_33, i_34, i_35, i_37, i_40, i_41, i_42, i_43, i_45, i_46, i_47, i_48, i_57, i_59, i_63, i_64, i_96, i_97, i_98, i_99, i_100, i_101, i_102, i_103, i_104, i_105, i_106, i_107, i_108, i_109, i_110, i_111, i_112, i_113, i_122, i_200, i_255, i_256, i_257, i_258, i_355, i_400, i_999, i_1000, i_1200, i_5680, i_9999, i_10000, i_99999, j_0, j_1, j_2, j_3, j_4, j_5, j_6, j_9, j_10, j_11, j_98, j_99, j_100, j_999, j_1000, j_9999, j_10000, j_99999, j_1000000, SB_n hS, SB_mk hS, SB_fm hS, SB_md hS, SB_lv hS, SB_mo hS, SB_mn hS, SB_pr hS, SB_of hS, SB_nt hS, SB_li hS, hle, hvf]
  | succ d ih =>
    intro n z best μ h1 h2 h3 h4 hK
    obtain ⟨n, rfl⟩ : ∃ m, n = m + 1 := ⟨n - 1, by omega⟩
    have hle : ¬ sN V ≤ z := by omega
    have hlt : z < sN V := by omega
    have hv := hV.2.1 z h2 hlt
    unfold vS at hv
    have hB := hK.1
    have hS := hB.2.1
    unfold hvf
    by_cases hl : s_li V z = 1
    · by_cases hf : s_fm V z = f
      · obtain ⟨μ1, a1, a2⟩ := c_without (N := N) hV hN hB h2 hlt hl
        have a1 : fX2_marginWithout N b (I_ z) μ = some (I_ (wN V z), μ1) := a1
        have w1 := wN_in V z
        have w2 := wN_in V best
        have hK1 := hK.cp a2
        have hq : s_li V z = 1 ∧ s_fm V z = f := ⟨hl, hf⟩
        have aF := a2.mono (T := P_du) (fun k j q => P_cp_du q)
        by_cases hb : best = -1
        · have e := hv_new (G := G) hq hb
          rw [e]
          obtain ⟨μ', e1, e2⟩ := ih n (z + 1) z μ1 (by omega) (by omega) (by omega) (Or.inr ⟨h2, by omega, hf⟩) hK1
          have eh : hw V z = wN V z := if_neg (by omega)
          rw [eh] at e1
          refine ⟨μ', ?_, aF.tr e2⟩
          simp (disch := omega) only [fX10_heaviest_22, Int.reduceEq, Int.reduceNe, Int.reduceLT, Int.reduceLE, Int.reduceAdd, Int.reduceSub, Int.reduceMul, Int.reduceNeg, Int.zero_add, Int.add_zero, nm_eq, bd_some, bv_some, aI_ok, aL_ok, aS_ok, dv_ok, dw_ok, I_add, I_sub, I_mul, I_neg, I_lt, I_le, I_eq, I_nat, J_add, J_sub, J_mul, J_neg, J_lt, J_le, J_eq, I_l, J_i, I_div, J_div, b2_0, b2_1, b2_nar, nar_0, nar_1, zr_0, zr_1, zr_b2, cmp_eq, cmp_le, cmp_lt, cmp_gt, cmp_ge, mx_I, mn_I, mx_L, mn_L, az_I, if_true, if_false, not_true_eq_false, not_false_eq_true, i_0, i_1, i_2, i_3, i_4, i_5, i_6, i_7, i_8, i_9, i_10, i_11, i_12, i_16, i_18, i_20, i_24, i_28, i_29, i_30, i_31, i_32, i_33, i_34, i_35, i_37, i_40, i_41, i_42, i_43, i_45, i_46, i_47, i_48, i_57, i_59, i_63, i_64, i_96, i_97, i_98, i_99, i_100, i_101, i_102, i_103, i_104, i_105, i_106, i_107, i_108, i_109, i_110, i_111, i_112, i_113, i_122, i_200, i_255, i_256, i_257, i_258, i_355, i_400, i_999, i_1000, i_1200, i_5680, i_9999, i_10000, i_99999, j_0, j_1, j_2, j_3, j_4, j_5, j_6, j_9, j_10, j_11, j_98, j_99, j_100, j_999, j_1000, j_9999, j_10000, j_99999, j_1000000, SB_n hS, SB_mk hS, SB_fm hS, SB_md hS, SB_lv hS, SB_mo hS, SB_mn hS, SB_pr hS, SB_of hS, SB_nt hS, SB_li hS, hle, hl, hf, hK.2, gB_k hB.1, a1, hb, e1]
        · have ew : hw V best = wN V best := if_neg hb
          rw [ew]
          by_cases hc : (if G then wN V z < wN V best else wN V best < wN V z)
          · rw [hv_t hq hb hc]
            obtain ⟨μ', e1, e2⟩ := ih n (z + 1) z μ1 (by omega) (by omega) (by omega) (Or.inr ⟨h2, by omega, hf⟩) hK1
            have eh : hw V z = wN V z := if_neg (by omega)
            rw [eh] at e1
            refine ⟨μ', ?_, aF.tr e2⟩
            by_cases hG : G
            · rw [if_pos hG] at hc
              have hc' : ¬ wN V best ≤ wN V z := by omega
              rw [b2_t hG] at e1 ⊢
              simp (disch := omega) only [fX10_heaviest_22, Int.reduceEq, Int.reduceNe, Int.reduceLT, Int.reduceLE, Int.reduceAdd, Int.reduceSub, Int.reduceMul, Int.reduceNeg, Int.zero_add, Int.add_zero, nm_eq, bd_some, bv_some, aI_ok, aL_ok, aS_ok, dv_ok, dw_ok, I_add, I_sub, I_mul, I_neg, I_lt, I_le, I_eq, I_nat, J_add, J_sub, J_mul, J_neg, J_lt, J_le, J_eq, I_l, J_i, I_div, J_div, b2_0, b2_1, b2_nar, nar_0, nar_1, zr_0, zr_1, zr_b2, cmp_eq, cmp_le, cmp_lt, cmp_gt, cmp_ge, mx_I, mn_I, mx_L, mn_L, az_I, if_true, if_false, not_true_eq_false, not_false_eq_true, i_0, i_1, i_2, i_3, i_4, i_5, i_6, i_7, i_8, i_9, i_10, i_11, i_12, i_16, i_18, i_20, i_24, i_28, i_29, i_30, i_31, i_32, i_33, i_34, i_35, i_37, i_40, i_41, i_42, i_43, i_45, i_46, i_47, i_48, i_57, i_59, i_63, i_64, i_96, i_97, i_98, i_99, i_100, i_101, i_102, i_103, i_104, i_105, i_106, i_107, i_108, i_109, i_110, i_111, i_112, i_113, i_122, i_200, i_255, i_256, i_257, i_258, i_355, i_400, i_999, i_1000, i_1200, i_5680, i_9999, i_10000, i_99999, j_0, j_1, j_2, j_3, j_4, j_5, j_6, j_9, j_10, j_11, j_98, j_99, j_100, j_999, j_1000, j_9999, j_10000, j_99999, j_1000000, SB_n hS, SB_mk hS, SB_fm hS, SB_md hS, SB_lv hS, SB_mo hS, SB_mn hS, SB_pr hS, SB_of hS, SB_nt hS, SB_li hS, hle, hl, hf, hK.2, gB_k hB.1, a1, hb, hc', e1]
            · rw [if_neg hG] at hc
              have hc' : ¬ wN V z ≤ wN V best := by omega
              rw [b2_f hG] at e1 ⊢
              simp (disch := omega) only [fX10_heaviest_22, Int.reduceEq, Int.reduceNe, Int.reduceLT, Int.reduceLE, Int.reduceAdd, Int.reduceSub, Int.reduceMul, Int.reduceNeg, Int.zero_add, Int.add_zero, nm_eq, bd_some, bv_some, aI_ok, aL_ok, aS_ok, dv_ok, dw_ok, I_add, I_sub, I_mul, I_neg, I_lt, I_le, I_eq, I_nat, J_add, J_sub, J_mul, J_neg, J_lt, J_le, J_eq, I_l, J_i, I_div, J_div, b2_0, b2_1, b2_nar, nar_0, nar_1, zr_0, zr_1, zr_b2, cmp_eq, cmp_le, cmp_lt, cmp_gt, cmp_ge, mx_I, mn_I, mx_L, mn_L, az_I, if_true, if_false, not_true_eq_false, not_false_eq_true, i_0, i_1, i_2, i_3, i_4, i_5, i_6, i_7, i_8, i_9, i_10, i_11, i_12, i_16, i_18, i_20, i_24, i_28, i_29, i_30, i_31, i_32, i_33, i_34, i_35, i_37, i_40, i_41, i_42, i_43, i_45, i_46, i_47, i_48, i_57, i_59, i_63, i_64, i_96, i_97, i_98, i_99, i_100, i_101, i_102, i_103, i_104, i_105, i_106, i_107, i_108, i_109, i_110, i_111, i_112, i_113, i_122, i_200, i_255, i_256, i_257, i_258, i_355, i_400, i_999, i_1000, i_1200, i_5680, i_9999, i_10000, i_99999, j_0, j_1, j_2, j_3, j_4, j_5, j_6, j_9, j_10, j_11, j_98, j_99, j_100, j_999, j_1000, j_9999, j_10000, j_99999, j_1000000, SB_n hS, SB_mk hS, SB_fm hS, SB_md hS, SB_lv hS, SB_mo hS, SB_mn hS, SB_pr hS, SB_of hS, SB_nt hS, SB_li hS, hle, hl, hf, hK.2, gB_k hB.1, a1, hb, hc', e1]
          · rw [hv_f hq hb hc]
            obtain ⟨μ', e1, e2⟩ := ih n (z + 1) best μ1 (by omega) (by omega) (by omega) (by omega) hK1
            rw [ew] at e1
            refine ⟨μ', ?_, aF.tr e2⟩
            by_cases hG : G
            · rw [if_pos hG] at hc
              have hc' : wN V best ≤ wN V z := by omega
              rw [b2_t hG] at e1 ⊢
              simp (disch := omega) only [fX10_heaviest_22, Int.reduceEq, Int.reduceNe, Int.reduceLT, Int.reduceLE, Int.reduceAdd, Int.reduceSub, Int.reduceMul, Int.reduceNeg, Int.zero_add, Int.add_zero, nm_eq, bd_some, bv_some, aI_ok, aL_ok, aS_ok, dv_ok, dw_ok, I_add, I_sub, I_mul, I_neg, I_lt, I_le, I_eq, I_nat, J_add, J_sub, J_mul, J_neg, J_lt, J_le, J_eq, I_l, J_i, I_div, J_div, b2_0, b2_1, b2_nar, nar_0, nar_1, zr_0, zr_1, zr_b2, cmp_eq, cmp_le, cmp_lt, cmp_gt, cmp_ge, mx_I, mn_I, mx_L, mn_L, az_I, if_true, if_false, not_true_eq_false, not_false_eq_true, i_0, i_1, i_2, i_3, i_4, i_5, i_6, i_7, i_8, i_9, i_10, i_11, i_12, i_16, i_18, i_20, i_24, i_28, i_29, i_30, i_31, i_32, i_33, i_34, i_35, i_37, i_40, i_41, i_42, i_43, i_45, i_46, i_47, i_48, i_57, i_59, i_63, i_64, i_96, i_97, i_98, i_99, i_100, i_101, i_102, i_103, i_104, i_105, i_106, i_107, i_108, i_109, i_110, i_111, i_112, i_113, i_122, i_200, i_255, i_256, i_257, i_258, i_355, i_400, i_999, i_1000, i_1200, i_5680, i_9999, i_10000, i_99999, j_0, j_1, j_2, j_3, j_4, j_5, j_6, j_9, j_10, j_11, j_98, j_99, j_100, j_999, j_1000, j_9999, j_10000, j_99999, j_1000000, SB_n hS, SB_mk hS, SB_fm hS, SB_md hS, SB_lv hS, SB_mo hS, SB_mn hS, SB_pr hS, SB_of hS, SB_nt hS, SB_li hS, hle, hl, hf, hK.2, gB_k hB.1, a1, hb, hc', e1]
            · rw [if_neg hG] at hc
              have hc' : wN V z ≤ wN V best := by omega
              rw [b2_f hG] at e1 ⊢
              simp (disch := omega) only [fX10_heaviest_22, Int.reduceEq, Int.reduceNe, Int.reduceLT, Int.reduceLE, Int.reduceAdd, Int.reduceSub, Int.reduceMul, Int.reduceNeg, Int.zero_add, Int.add_zero, nm_eq, bd_some, bv_some, aI_ok, aL_ok, aS_ok, dv_ok, dw_ok, I_add, I_sub, I_mul, I_neg, I_lt, I_le, I_eq, I_nat, J_add, J_sub, J_mul, J_neg, J_lt, J_le, J_eq, I_l, J_i, I_div, J_div, b2_0, b2_1, b2_nar, nar_0, nar_1, zr_0, zr_1, zr_b2, cmp_eq, cmp_le, cmp_lt, cmp_gt, cmp_ge, mx_I, mn_I, mx_L, mn_L, az_I, if_true, if_false, not_true_eq_false, not_false_eq_true, i_0, i_1, i_2, i_3, i_4, i_5, i_6, i_7, i_8, i_9, i_10, i_11, i_12, i_16, i_18, i_20, i_24, i_28, i_29, i_30, i_31, i_32, i_33, i_34, i_35, i_37, i_40, i_41, i_42, i_43, i_45, i_46, i_47, i_48, i_57, i_59, i_63, i_64, i_96, i_97, i_98, i_99, i_100, i_101, i_102, i_103, i_104, i_105, i_106, i_107, i_108, i_109, i_110, i_111, i_112, i_113, i_122, i_200, i_255, i_256, i_257, i_258, i_355, i_400, i_999, i_1000, i_1200, i_5680, i_9999, i_10000, i_99999, j_0, j_1, j_2, j_3, j_4, j_5, j_6, j_9, j_10, j_11, j_98, j_99, j_100, j_999, j_1000, j_9999, j_10000, j_99999, j_1000000, SB_n hS, SB_mk hS, SB_fm hS, SB_md hS, SB_lv hS, SB_mo hS, SB_mn hS, SB_pr hS, SB_of hS, SB_nt hS, SB_li hS, hle, hl, hf, hK.2, gB_k hB.1, a1, hb, hc', e1]
      · rw [hv_skip (fun q => hf q.2)]
        obtain ⟨μ', e1, e2⟩ := ih n (z + 1) best μ (by omega) (by omega) (by omega) (by omega) hK
        refine ⟨μ', ?_, e2⟩
        simp (disch := omega) only [fX10_heaviest_22, Int.reduceEq, Int.reduceNe, Int.reduceLT, Int.reduceLE, Int.reduceAdd, Int.reduceSub, Int.reduceMul, Int.reduceNeg, Int.zero_add, Int.add_zero, nm_eq, bd_some, bv_some, aI_ok, aL_ok, aS_ok, dv_ok, dw_ok, I_add, I_sub, I_mul, I_neg, I_lt, I_le, I_eq, I_nat, J_add, J_sub, J_mul, J_neg, J_lt, J_le, J_eq, I_l, J_i, I_div, J_div, b2_0, b2_1, b2_nar, nar_0, nar_1, zr_0, zr_1, zr_b2, cmp_eq, cmp_le, cmp_lt, cmp_gt, cmp_ge, mx_I, mn_I, mx_L, mn_L, az_I, if_true, if_false, not_true_eq_false, not_false_eq_true, i_0, i_1, i_2, i_3, i_4, i_5, i_6, i_7, i_8, i_9, i_10, i_11, i_12, i_16, i_18, i_20, i_24, i_28, i_29, i_30, i_31, i_32, i_33, i_34, i_35, i_37, i_40, i_41, i_42, i_43, i_45, i_46, i_47, i_48, i_57, i_59, i_63, i_64, i_96, i_97, i_98, i_99, i_100, i_101, i_102, i_103, i_104, i_105, i_106, i_107, i_108, i_109, i_110, i_111, i_112, i_113, i_122, i_200, i_255, i_256, i_257, i_258, i_355, i_400, i_999, i_1000, i_1200, i_5680, i_9999, i_10000, i_99999, j_0, j_1, j_2, j_3, j_4, j_5, j_6, j_9, j_10, j_11, j_98, j_99, j_100, j_999, j_1000, j_9999, j_10000, j_99999, j_1000000, SB_n hS, SB_mk hS, SB_fm hS, SB_md hS, SB_lv hS, SB_mo hS, SB_mn hS, SB_pr hS, SB_of hS, SB_nt hS, SB_li hS, hle, hl, hf, e1]
    · rw [hv_skip (fun q => hl q.1)]
      have hl0 : s_li V z = 0 := by omega
      obtain ⟨μ', e1, e2⟩ := ih n (z + 1) best μ (by omega) (by omega) (by omega) (by omega) hK
      refine ⟨μ', ?_, e2⟩
      simp (disch := omega) only [fX10_heaviest_22, Int.reduceEq, Int.reduceNe, Int.reduceLT, Int.reduceLE, Int.reduceAdd, Int.reduceSub, Int.reduceMul, Int.reduceNeg, Int.zero_add, Int.add_zero, nm_eq, bd_some, bv_some, aI_ok, aL_ok, aS_ok, dv_ok, dw_ok, I_add, I_sub, I_mul, I_neg, I_lt, I_le, I_eq, I_nat, J_add, J_sub, J_mul, J_neg, J_lt, J_le, J_eq, I_l, J_i, I_div, J_div, b2_0, b2_1, b2_nar, nar_0, nar_1, zr_0, zr_1, zr_b2, cmp_eq, cmp_le, cmp_lt, cmp_gt, cmp_ge, mx_I, mn_I, mx_L, mn_L, az_I, if_true, if_false, not_true_eq_false, not_false_eq_true, i_0, i_1, i_2, i_3, i_4, i_5, i_6, i_7, i_8, i_9, i_10, i_11, i_12, i_16, i_18, i_20, i_24, i_28, i_29, i_30, i_31, i_32, i_33, i_34, i_35, i_37, i_40, i_41, i_42, i_43, i_45, i_46, i_47, i_48, i_57, i_59, i_63, i_64, i_96, i_97, i_98, i_99, i_100, i_101, i_102, i_103, i_104, i_105, i_106, i_107, i_108, i_109, i_110, i_111, i_112, i_113, i_122, i_200, i_255, i_256, i_257, i_258, i_355, i_400, i_999, i_1000, i_1200, i_5680, i_9999, i_10000, i_99999, j_0, j_1, j_2, j_3, j_4, j_5, j_6, j_9, j_10, j_11, j_98, j_99, j_100, j_999, j_1000, j_9999, j_10000, j_99999, j_1000000, SB_n hS, SB_mk hS, SB_fm hS, SB_md hS, SB_lv hS, SB_mo hS, SB_mn hS, SB_pr hS, SB_of hS, SB_nt hS, SB_li hS, hle, hl0, e1]
theorem r_hv {G : Prop} [Decidable G] (hV : vB V) (hW : vO V) (hN : 100 ≤ N) (f0 : 0 ≤ f) (f1 : f < 4) : ∀ (d n : Nat) (z best : Int) (ν : Mem), d < n → 0 ≤ z → z + d = sN V → (best = -1 ∨ (0 ≤ best ∧ best < z ∧ s_fm V best = f)) → RKs N V ν → ∃ ν', fX11_heaviest_34 N n (I_ f) (I_ (b2 G)) (I_ best) (I_ (hu V f best)) (I_ z) ν = some (I_ (hvf V f G d z best), ν') ∧ Fr P_rq ν ν' ∧ RKs N V ν' := by
  have hn := hV.1
  unfold vN at hn
  intro d
  induction d with
  | zero =>
    intro n z best ν h1 h2 h3 h4 hK
    obtain ⟨n, rfl⟩ : ∃ m, n = m + 1 := ⟨n - 1, by omega⟩
    have hle : sN V ≤ z := by omega
    refine ⟨ν, ?_, Fr.rf, hK⟩
    simp (disch := omega) only [fX11_heaviest_34, Int.reduceEq, Int.reduceNe, Int.reduceLT, Int.reduceLE, Int.reduceAdd, Int.reduceSub, Int.reduceMul, Int.reduceNeg, Int.zero_add, Int.add_zero, nm_eq, bd_some, bv_some, aI_ok, aL_ok, aS_ok, dv_ok, dw_ok, I_add, I_sub, I_mul, I_neg, I_lt, I_le, I_eq, I_nat, J_add, J_sub, J_mul, J_neg, J_lt, J_le, J_eq, I_l, J_i, I_div, J_div, b2_0, b2_1, b2_nar, nar_0, nar_1, zr_0, zr_1, zr_b2, cmp_eq, cmp_le, cmp_lt, cmp_gt, cmp_ge, mx_I, mn_I, mx_L, mn_L, az_I, if_true, if_false, not_true_eq_false, not_false_eq_true, i_0, i_1, i_2, i_3, i_4, i_5, i_6, i_7, i_8, i_9, i_10, i_11, i_12, i_16, i_18, i_20, i_24, i_28, i_29, i_30, i_31, i_32, i_33, i_34, i_35, i_37, i_40, i_41, i_42, i_43, i_45, i_46, i_47, i_48, i_57, i_59, i_63, i_64, i_96, i_97, i_98, i_99, i_100, i_101, i_102, i_103, i_104, i_105, i_106, i_107, i_108, i_109, i_110, i_111, i_112, i_113, i_122, i_200, i_255, i_256, i_257, i_258, i_355, i_400, i_999, i_1000, i_1200, i_5680, i_9999, i_10000, i_99999, j_0, j_1, j_2, j_3, j_4, j_5, j_6, j_9, j_10, j_11, j_98, j_99, j_100, j_999, j_1000, j_9999, j_10000, j_99999, j_1000000, RB_n hK.1, hle, hvf]
  | succ d ih =>
    intro n z best ν h1 h2 h3 h4 hK
    obtain ⟨n, rfl⟩ : ∃ m, n = m + 1 := ⟨n - 1, by omega⟩
    have hle : ¬ sN V ≤ z := by omega
    have hlt : z < sN V := by omega
    have hv := hV.2.1 z h2 hlt
    unfold vS at hv
    unfold hvf
    by_cases hl : s_li V z = 1
    · by_cases hf : s_fm V z = f
      · obtain ⟨ν1, a1, a2, hK1⟩ := r_wt (N := N) hV hW hN h2 hlt hl hK
        rw [x_wt_w hf] at a1
        have w0 := x_ma_in (Z := (s_se V 1 = 1)) V f (s_se V 0) 0
        have w1 := wN_in V z
        have w2 := wN_in V best
        have hq : s_li V z = 1 ∧ s_fm V z = f := ⟨hl, hf⟩
        by_cases hb : best = -1
        · have e := hv_new (G := G) hq hb
          rw [e]
          obtain ⟨μ', e1, e2, e3⟩ := ih n (z + 1) z ν1 (by omega) (by omega) (by omega) (Or.inr ⟨h2, by omega, hf⟩) hK1
          have eh : hu V f z = wN V z - x_ma V f (s_se V 0) 0 (s_se V 1 = 1) := if_neg (by omega)
          rw [eh] at e1
          refine ⟨μ', ?_, a2.tr e2, e3⟩
          simp (disch := omega) only [fX11_heaviest_34, Int.reduceEq, Int.reduceNe, Int.reduceLT, Int.reduceLE, Int.reduceAdd, Int.reduceSub, Int.reduceMul, Int.reduceNeg, Int.zero_add, Int.add_zero, nm_eq, bd_some, bv_some, aI_ok, aL_ok, aS_ok, dv_ok, dw_ok, I_add, I_sub, I_mul, I_neg, I_lt, I_le, I_eq, I_nat, J_add, J_sub, J_mul, J_neg, J_lt, J_le, J_eq, I_l, J_i, I_div, J_div, b2_0, b2_1, b2_nar, nar_0, nar_1, zr_0, zr_1, zr_b2, cmp_eq, cmp_le, cmp_lt, cmp_gt, cmp_ge, mx_I, mn_I, mx_L, mn_L, az_I, if_true, if_false, not_true_eq_false, not_false_eq_true, i_0, i_1, i_2, i_3, i_4, i_5, i_6, i_7, i_8, i_9, i_10, i_11, i_12, i_16, i_18, i_20, i_24, i_28, i_29, i_30, i_31, i_32, i_33, i_34, i_35, i_37, i_40, i_41, i_42, i_43, i_45, i_46, i_47, i_48, i_57, i_59, i_63, i_64, i_96, i_97, i_98, i_99, i_100, i_101, i_102, i_103, i_104, i_105, i_106, i_107, i_108, i_109, i_110, i_111, i_112, i_113, i_122, i_200, i_255, i_256, i_257, i_258, i_355, i_400, i_999, i_1000, i_1200, i_5680, i_9999, i_10000, i_99999, j_0, j_1, j_2, j_3, j_4, j_5, j_6, j_9, j_10, j_11, j_98, j_99, j_100, j_999, j_1000, j_9999, j_10000, j_99999, j_1000000, RB_n hK.1, hle, r_sale hV hK.1, b2_t hl, r_of1 hV hK.1, hf, a1, hb, e1]
        · have ew : hu V f best = wN V best - x_ma V f (s_se V 0) 0 (s_se V 1 = 1) := if_neg hb
          rw [ew]
          by_cases hc : (if G then wN V z < wN V best else wN V best < wN V z)
          · rw [hv_t hq hb hc]
            obtain ⟨μ', e1, e2, e3⟩ := ih n (z + 1) z ν1 (by omega) (by omega) (by omega) (Or.inr ⟨h2, by omega, hf⟩) hK1
            have eh : hu V f z = wN V z - x_ma V f (s_se V 0) 0 (s_se V 1 = 1) := if_neg (by omega)
            rw [eh] at e1
            refine ⟨μ', ?_, a2.tr e2, e3⟩
            by_cases hG : G
            · rw [if_pos hG] at hc
              have hc' : ¬ wN V best - x_ma V f (s_se V 0) 0 (s_se V 1 = 1) ≤ wN V z - x_ma V f (s_se V 0) 0 (s_se V 1 = 1) := by omega
              rw [b2_t hG] at e1 ⊢
              simp (disch := omega) only [fX11_heaviest_34, Int.reduceEq, Int.reduceNe, Int.reduceLT, Int.reduceLE, Int.reduceAdd, Int.reduceSub, Int.reduceMul, Int.reduceNeg, Int.zero_add, Int.add_zero, nm_eq, bd_some, bv_some, aI_ok, aL_ok, aS_ok, dv_ok, dw_ok, I_add, I_sub, I_mul, I_neg, I_lt, I_le, I_eq, I_nat, J_add, J_sub, J_mul, J_neg, J_lt, J_le, J_eq, I_l, J_i, I_div, J_div, b2_0, b2_1, b2_nar, nar_0, nar_1, zr_0, zr_1, zr_b2, cmp_eq, cmp_le, cmp_lt, cmp_gt, cmp_ge, mx_I, mn_I, mx_L, mn_L, az_I, if_true, if_false, not_true_eq_false, not_false_eq_true, i_0, i_1, i_2, i_3, i_4, i_5, i_6, i_7, i_8, i_9, i_10, i_11, i_12, i_16, i_18, i_20, i_24, i_28, i_29, i_30, i_31, i_32, i_33, i_34, i_35, i_37, i_40, i_41, i_42, i_43, i_45, i_46, i_47, i_48, i_57, i_59, i_63, i_64, i_96, i_97, i_98, i_99, i_100, i_101, i_102, i_103, i_104, i_105, i_106, i_107, i_108, i_109, i_110, i_111, i_112, i_113, i_122, i_200, i_255, i_256, i_257, i_258, i_355, i_400, i_999, i_1000, i_1200, i_5680, i_9999, i_10000, i_99999, j_0, j_1, j_2, j_3, j_4, j_5, j_6, j_9, j_10, j_11, j_98, j_99, j_100, j_999, j_1000, j_9999, j_10000, j_99999, j_1000000, RB_n hK.1, hle, r_sale hV hK.1, b2_t hl, r_of1 hV hK.1, hf, a1, hb, hc', e1]
            · rw [if_neg hG] at hc
              have hc' : ¬ wN V z - x_ma V f (s_se V 0) 0 (s_se V 1 = 1) ≤ wN V best - x_ma V f (s_se V 0) 0 (s_se V 1 = 1) := by omega
              rw [b2_f hG] at e1 ⊢
              simp (disch := omega) only [fX11_heaviest_34, Int.reduceEq, Int.reduceNe, Int.reduceLT, Int.reduceLE, Int.reduceAdd, Int.reduceSub, Int.reduceMul, Int.reduceNeg, Int.zero_add, Int.add_zero, nm_eq, bd_some, bv_some, aI_ok, aL_ok, aS_ok, dv_ok, dw_ok, I_add, I_sub, I_mul, I_neg, I_lt, I_le, I_eq, I_nat, J_add, J_sub, J_mul, J_neg, J_lt, J_le, J_eq, I_l, J_i, I_div, J_div, b2_0, b2_1, b2_nar, nar_0, nar_1, zr_0, zr_1, zr_b2, cmp_eq, cmp_le, cmp_lt, cmp_gt, cmp_ge, mx_I, mn_I, mx_L, mn_L, az_I, if_true, if_false, not_true_eq_false, not_false_eq_true, i_0, i_1, i_2, i_3, i_4, i_5, i_6, i_7, i_8, i_9, i_10, i_11, i_12, i_16, i_18, i_20, i_24, i_28, i_29, i_30, i_31, i_32, i_33, i_34, i_35, i_37, i_40, i_41, i_42, i_43, i_45, i_46, i_47, i_48, i_57, i_59, i_63, i_64, i_96, i_97, i_98, i_99, i_100, i_101, i_102, i_103, i_104, i_105, i_106, i_107, i_108, i_109, i_110, i_111, i_112, i_113, i_122, i_200, i_255, i_256, i_257, i_258, i_355, i_400, i_999, i_1000, i_1200, i_5680, i_9999, i_10000, i_99999, j_0, j_1, j_2, j_3, j_4, j_5, j_6, j_9, j_10, j_11, j_98, j_99, j_100, j_999, j_1000, j_9999, j_10000, j_99999, j_1000000, RB_n hK.1, hle, r_sale hV hK.1, b2_t hl, r_of1 hV hK.1, hf, a1, hb, hc', e1]
          · rw [hv_f hq hb hc]
            obtain ⟨μ', e1, e2, e3⟩ := ih n (z + 1) best ν1 (by omega) (by omega) (by omega) (by omega) hK1
            rw [ew] at e1
            refine ⟨μ', ?_, a2.tr e2, e3⟩
            by_cases hG : G
            · rw [if_pos hG] at hc
              have hc' : wN V best - x_ma V f (s_se V 0) 0 (s_se V 1 = 1) ≤ wN V z - x_ma V f (s_se V 0) 0 (s_se V 1 = 1) := by omega
              rw [b2_t hG] at e1 ⊢
              simp (disch := omega) only [fX11_heaviest_34, Int.reduceEq, Int.reduceNe, Int.reduceLT, Int.reduceLE, Int.reduceAdd, Int.reduceSub, Int.reduceMul, Int.reduceNeg, Int.zero_add, Int.add_zero, nm_eq, bd_some, bv_some, aI_ok, aL_ok, aS_ok, dv_ok, dw_ok, I_add, I_sub, I_mul, I_neg, I_lt, I_le, I_eq, I_nat, J_add, J_sub, J_mul, J_neg, J_lt, J_le, J_eq, I_l, J_i, I_div, J_div, b2_0, b2_1, b2_nar, nar_0, nar_1, zr_0, zr_1, zr_b2, cmp_eq, cmp_le, cmp_lt, cmp_gt, cmp_ge, mx_I, mn_I, mx_L, mn_L, az_I, if_true, if_false, not_true_eq_false, not_false_eq_true, i_0, i_1, i_2, i_3, i_4, i_5, i_6, i_7, i_8, i_9, i_10, i_11, i_12, i_16, i_18, i_20, i_24, i_28, i_29, i_30, i_31, i_32, i_33, i_34, i_35, i_37, i_40, i_41, i_42, i_43, i_45, i_46, i_47, i_48, i_57, i_59, i_63, i_64, i_96, i_97, i_98, i_99, i_100, i_101, i_102, i_103, i_104, i_105, i_106, i_107, i_108, i_109, i_110, i_111, i_112, i_113, i_122, i_200, i_255, i_256, i_257, i_258, i_355, i_400, i_999, i_1000, i_1200, i_5680, i_9999, i_10000, i_99999, j_0, j_1, j_2, j_3, j_4, j_5, j_6, j_9, j_10, j_11, j_98, j_99, j_100, j_999, j_1000, j_9999, j_10000, j_99999, j_1000000, RB_n hK.1, hle, r_sale hV hK.1, b2_t hl, r_of1 hV hK.1, hf, a1, hb, hc', e1]
            · rw [if_neg hG] at hc
              have hc' : wN V z - x_ma V f (s_se V 0) 0 (s_se V 1 = 1) ≤ wN V best - x_ma V f (s_se V 0) 0 (s_se V 1 = 1) := by omega
              rw [b2_f hG] at e1 ⊢
              simp (disch := omega) only [fX11_heaviest_34, Int.reduceEq, Int.reduceNe, Int.reduceLT, Int.reduceLE, Int.reduceAdd, Int.reduceSub, Int.reduceMul, Int.reduceNeg, Int.zero_add, Int.add_zero, nm_eq, bd_some, bv_some, aI_ok, aL_ok, aS_ok, dv_ok, dw_ok, I_add, I_sub, I_mul, I_neg, I_lt, I_le, I_eq, I_nat, J_add, J_sub, J_mul, J_neg, J_lt, J_le, J_eq, I_l, J_i, I_div, J_div, b2_0, b2_1, b2_nar, nar_0, nar_1, zr_0, zr_1, zr_b2, cmp_eq, cmp_le, cmp_lt, cmp_gt, cmp_ge, mx_I, mn_I, mx_L, mn_L, az_I, if_true, if_false, not_true_eq_false, not_false_eq_true, i_0, i_1, i_2, i_3, i_4, i_5, i_6, i_7, i_8, i_9, i_10, i_11, i_12, i_16, i_18, i_20, i_24, i_28, i_29, i_30, i_31, i_32, i_33, i_34, i_35, i_37, i_40, i_41, i_42, i_43, i_45, i_46, i_47, i_48, i_57, i_59, i_63, i_64, i_96, i_97, i_98, i_99, i_100, i_101, i_102, i_103, i_104, i_105, i_106, i_107, i_108, i_109, i_110, i_111, i_112, i_113, i_122, i_200, i_255, i_256, i_257, i_258, i_355, i_400, i_999, i_1000, i_1200, i_5680, i_9999, i_10000, i_99999, j_0, j_1, j_2, j_3, j_4, j_5, j_6, j_9, j_10, j_11, j_98, j_99, j_100, j_999, j_1000, j_9999, j_10000, j_99999, j_1000000, RB_n hK.1, hle, r_sale hV hK.1, b2_t hl, r_of1 hV hK.1, hf, a1, hb, hc', e1]
      · rw [hv_skip (fun q => hf q.2)]
        obtain ⟨μ', e1, e2⟩ := ih n (z + 1) best ν (by omega) (by omega) (by omega) (by omega) hK
        refine ⟨μ', ?_, e2⟩
        simp (disch := omega) only [fX11_heaviest_34, Int.reduceEq, Int.reduceNe, Int.reduceLT, Int.reduceLE, Int.reduceAdd, Int.reduceSub, Int.reduceMul, Int.reduceNeg, Int.zero_add, Int.add_zero, nm_eq, bd_some, bv_some, aI_ok, aL_ok, aS_ok, dv_ok, dw_ok, I_add, I_sub, I_mul, I_neg, I_lt, I_le, I_eq, I_nat, J_add, J_sub, J_mul, J_neg, J_lt, J_le, J_eq, I_l, J_i, I_div, J_div, b2_0, b2_1, b2_nar, nar_0, nar_1, zr_0, zr_1, zr_b2, cmp_eq, cmp_le, cmp_lt, cmp_gt, cmp_ge, mx_I, mn_I, mx_L, mn_L, az_I, if_true, if_false, not_true_eq_false, not_false_eq_true, i_0, i_1, i_2, i_3, i_4, i_5, i_6, i_7, i_8, i_9, i_10, i_11, i_12, i_16, i_18, i_20, i_24, i_28, i_29, i_30, i_31, i_32, i_33, i_34, i_35, i_37, i_40, i_41, i_42, i_43, i_45, i_46, i_47, i_48, i_57, i_59, i_63, i_64, i_96, i_97, i_98, i_99, i_100, i_101, i_102, i_103, i_104, i_105, i_106, i_107, i_108, i_109, i_110, i_111, i_112, i_113, i_122, i_200, i_255, i_256, i_257, i_258, i_355, i_400, i_999, i_1000, i_1200, i_5680, i_9999, i_10000, i_99999, j_0, j_1, j_2, j_3, j_4, j_5, j_6, j_9, j_10, j_11, j_98, j_99, j_100, j_999, j_1000, j_9999, j_10000, j_99999, j_1000000, RB_n hK.1, hle, r_sale hV hK.1, b2_t hl, r_of1 hV hK.1, hf, e1]
    · rw [hv_skip (fun q => hl q.1)]
      obtain ⟨μ', e1, e2⟩ := ih n (z + 1) best ν (by omega) (by omega) (by omega) (by omega) hK
      refine ⟨μ', ?_, e2⟩
      simp (disch := omega) only [fX11_heaviest_34, Int.reduceEq, Int.reduceNe, Int.reduceLT, Int.reduceLE, Int.reduceAdd, Int.reduceSub, Int.reduceMul, Int.reduceNeg, Int.zero_add, Int.add_zero, nm_eq, bd_some, bv_some, aI_ok, aL_ok, aS_ok, dv_ok, dw_ok, I_add, I_sub, I_mul, I_neg, I_lt, I_le, I_eq, I_nat, J_add, J_sub, J_mul, J_neg, J_lt, J_le, J_eq, I_l, J_i, I_div, J_div, b2_0, b2_1, b2_nar, nar_0, nar_1, zr_0, zr_1, zr_b2, cmp_eq, cmp_le, cmp_lt, cmp_gt, cmp_ge, mx_I, mn_I, mx_L, mn_L, az_I, if_true, if_false, not_true_eq_false, not_false_eq_true, i_0, i_1, i_2, i_3, i_4, i_5, i_6, i_7, i_8, i_9, i_10, i_11, i_12, i_16, i_18, i_20, i_24, i_28, i_29, i_30, i_31, i_32, i_33, i_34, i_35, i_37, i_40, i_41, i_42, i_43, i_45, i_46, i_47, i_48, i_57, i_59, i_63, i_64, i_96, i_97, i_98, i_99, i_100, i_101, i_102, i_103, i_104, i_105, i_106, i_107, i_108, i_109, i_110, i_111, i_112, i_113, i_122, i_200, i_255, i_256, i_257, i_258, i_355, i_400, i_999, i_1000, i_1200, i_5680, i_9999, i_10000, i_99999, j_0, j_1, j_2, j_3, j_4, j_5, j_6, j_9, j_10, j_11, j_98, j_99, j_100, j_999, j_1000, j_9999, j_10000, j_99999, j_1000000, RB_n hK.1, hle, r_sale hV hK.1, b2_f hl, e1]
end
