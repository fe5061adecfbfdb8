/-! price, costs, set, silent. -/
section
variable {N b : Nat} {μ μ' ν ν' : Mem} {V V1 : Vw} {K : Int → List Int}
theorem vB_pr (hV : vB V) (hG : KG K) {p w : Int} (w1 : 1 ≤ w) (w2 : w ≤ 9999) : vB (vW K (vset V 7 p w)) := by
  refine vB_W (vB_set hV (by decide) (fun y y0 y1 => ?_) (by decide) (fun w => absurd w (by decide)) (fun w => absurd w (by decide)) (fun w => absurd w (by decide))) hG
  have hy := hV.2.1 y y0 y1
  unfold vS at hy ⊢
  rw [vs_f (by decide), vs_m (by decide)]
  unfold s_mk s_fm s_md s_lv s_mo s_mn s_pr s_of s_nt s_li at hy ⊢
  rw [vset_ne (by decide), vset_ne (by decide), vset_ne (by decide), vset_ne (by decide), vset_ne (by decide), vset_ne (by decide), vset_at, vset_ne (by decide), vset_ne (by decide), vset_ne (by decide)]
  split <;> omega
theorem A10 (hN : 20000 ≤ N) (v : Nat → Int32) (h : Rl μ ν) : ∃ z, lawC10 N v μ ν = some z ∧ Rl z.1 z.2 := by
  obtain ⟨b, Lm, Am, Lf, Af, K, fo, q, G, a, nx, hA, hB, hC, hT, hR⟩ := h
  obtain ⟨hV, hW, hK, hRk⟩ := hA.rq (N := N) (by omega)
  have hn := hV.1
  unfold vN at hn
  have hb := hK.1.1
  obtain ⟨p, e, p0, p1⟩ := I_ex (v 1)
  obtain ⟨w, e', w0, w1⟩ := I_ex (v 2)
  by_cases hp : 0 ≤ p ∧ p < sN (G 0) ∧ s_li (G 0) p = 1
  · by_cases hw : 1 ≤ w ∧ w ≤ 9999
    · have hv := hV.2.1 p hp.1 hp.2.1
      unfold vS at hv
      have hG := hA.1.2.2.2
      have hV1 : vB (vW K (vset (G 0) 7 p w)) := vB_pr hV hG hw.1 hw.2
      have hE1 : vE K (vW K (vset (G 0) 7 p w)) := vE_W
      obtain ⟨ν1, r1, r2, r3, r4, r5, r6⟩ := r_rem0 (N := N) hN hA hB (vW K (vset (G 0) 7 p w))
      obtain ⟨μ1, c1, c2, c3, c4⟩ := c_tellPr (N := N) hb (by omega) hV hA.2.1 hG hA.2.2.1.2 hA.2.2.2.2.1 hA.2.2.2.2.2.1 hp.1 hp.2.1 hV1 hE1 AG_W
      have hRG1 := hB.1.fr (μ' := μ1) (fun k j hk => (c4 k j (by rcases hb with e | e <;> omega)).1)
      obtain ⟨μ2, k1, k2, k3⟩ := c_keep (N := N) (V1 := vW K (vset (G 0) 7 p w)) (kn := 2) (pl := p) (ol := s_pr (G 0) p) hRG1 ⟨AG_setW (by decide) rfl, by omega, hp.1, fun _ => by rw [vW_s, vs_s (by decide)]; exact hp.2.1, fun w => by omega, fun w => by omega, fun w => by omega, by omega, fun w => by omega⟩
      have gk : ∀ k j, b ≤ k → k ≤ b + 28 → μ2.1 k j = μ1.1 k j := fun k j c d => (k3 k j (by rcases hb with e | e <;> omega)).1
      refine ⟨(stL μ2 90 0 (J_ (s_pr (G 0) p)), stI ν1 1 (dI 7 p) (I_ w)), ?_, ?_⟩
      · have d7 : (35 + 8 * p + 6).toNat = dI 7 p := rfl
        have t0 : (stI ν1 1 (dI 7 p) (I_ w)).1 0 0 = I_ 0 := by rw [st_ne (by omega)]; exact r4
        have hpr : μ.1 (b + 19) p.toNat = I_ (s_pr (G 0) p) := SB_pr hK.1.2.1 hp.1 hp.2.1
        simp (disch := omega) only [lawC10, fL_price, fX10_price, fX11_price, fX11_price_30, fX11_thrown, Int.reduceEq, Int.reduceNe, Int.reduceLT, Int.reduceLE, Int.reduceAdd, Int.reduceSub, Int.reduceMul, Int.reduceNeg, Int.zero_add, Int.add_zero, nm_eq, bd_some, bv_some, aI_ok, aL_ok, aS_ok, dv_ok, dw_ok, I_add, I_sub, I_mul, I_neg, I_lt, I_le, I_eq, I_nat, J_add, J_sub, J_mul, J_neg, J_lt, J_le, J_eq, I_l, J_i, I_div, J_div, b2_0, b2_1, b2_nar, nar_0, nar_1, zr_0, zr_1, zr_b2, cmp_eq, cmp_le, cmp_lt, cmp_gt, cmp_ge, mx_I, mn_I, mx_L, mn_L, az_I, if_true, if_false, not_true_eq_false, not_false_eq_true, Bool.false_eq_true, i_0, i_1, i_2, i_3, i_4, i_5, i_6, i_7, i_8, i_9, i_10, i_11, i_12, i_16, i_18, i_20, i_24, i_28, i_29, i_30, i_31, i_32, i_33, i_34, i_35, i_37, i_40, i_41, i_42, i_43, i_45, i_46, i_47, i_48, i_57, i_59, i_63, i_64, i_96, i_97, i_98, i_99, i_100, i_101, i_102, i_103, i_104, i_105, i_106, i_107, i_108, i_109, i_110, i_111, i_112, i_113, i_122, i_200, i_255, i_256, i_257, i_258, i_355, i_400, i_999, i_1000, i_1200, i_5680, i_9999, i_10000, i_99999, j_0, j_1, j_2, j_3, j_4, j_5, j_6, j_9, j_10, j_11, j_98, j_99, j_100, j_999, j_1000, j_9999, j_10000, j_99999, j_1000000, e, e', c_needS_y hV hK hp, c_needW_y, hw.1, hw.2, and_self, bx_l, bh_l, hK.2, gB_k hK.1.1, hpr, c1, k1, r_isSale hV hRk.1, b2_t hp, r_isIn, b2_t hw, at_S, r1, r_of6 hV (RB_of r5), d7, t0, n_0, at_SL, cmp_self]
      · refine Rl_a (G := G) (G' := gSh (vW K (vset (G 0) 7 p w)) G) hA hC hT hR ?_ ?_ hV1 hE1 (vW_m.trans (vs_m (by decide))) (vW_f.trans (vs_f (by decide))) (c2.fr gk) ?_ ((r5.set hV (ok_ (by omega) (by omega) (by omega) (by omega)) (by omega) hp.1 (by show p < 40; omega)).ag AG_W) ?_ (FB_new hB hV1 hE1 k2 (r2.fr (fun k j hk => st_ne (by omega) j)))
        · exact ((c4.mono (fun k j w => ac_du w)).tr (k3.mono (fun k j w => ac_kp w))).stL (Or.inr (Or.inr (Or.inr ⟨rfl, rfl⟩)))
        · exact r6.tr (Fr.rf.stI (Or.inl rfl))
        · exact fun y y0 y1 => by
            show μ2.1 _ _ = _ ∧ μ2.1 _ _ = _
            rw [gk _ _ (by omega) (by omega), gk _ _ (by omega) (by omega)]; exact c3 y y0 y1
        · rw [st_ne (by omega)]; exact r3
    · refine ⟨(μ, stI ν 0 0 (I_ 2)), ?_, hA.refuse (N := N) (z := (μ, μ)) (by omega) hB hC hT hR (I_ 2)⟩
      simp (disch := omega) only [lawC10, fL_price, fX10_price, fX11_price, fX11_price_30, fX11_thrown, Int.reduceEq, Int.reduceNe, Int.reduceLT, Int.reduceLE, Int.reduceAdd, Int.reduceSub, Int.reduceMul, Int.reduceNeg, Int.zero_add, Int.add_zero, nm_eq, bd_some, bv_some, aI_ok, aL_ok, aS_ok, dv_ok, dw_ok, I_add, I_sub, I_mul, I_neg, I_lt, I_le, I_eq, I_nat, J_add, J_sub, J_mul, J_neg, J_lt, J_le, J_eq, I_l, J_i, I_div, J_div, b2_0, b2_1, b2_nar, nar_0, nar_1, zr_0, zr_1, zr_b2, cmp_eq, cmp_le, cmp_lt, cmp_gt, cmp_ge, mx_I, mn_I, mx_L, mn_L, az_I, if_true, if_false, not_true_eq_false, not_false_eq_true, Bool.false_eq_true, i_0, i_1, i_2, i_3, i_4, i_5, i_6, i_7, i_8, i_9, i_10, i_11, i_12, i_16, i_18, i_20, i_24, i_28, i_29, i_30, i_31, i_32, i_33, i_34, i_35, i_37, i_40, i_41, i_42, i_43, i_45, i_46, i_47, i_48, i_57, i_59, i_63, i_64, i_96, i_97, i_98, i_99, i_100, i_101, i_102, i_103, i_104, i_105, i_106, i_107, i_108, i_109, i_110, i_111, i_112, i_113, i_122, i_200, i_255, i_256, i_257, i_258, i_355, i_400, i_999, i_1000, i_1200, i_5680, i_9999, i_10000, i_99999, j_0, j_1, j_2, j_3, j_4, j_5, j_6, j_9, j_10, j_11, j_98, j_99, j_100, j_999, j_1000, j_9999, j_10000, j_99999, j_1000000, e, e', c_needS_y hV hK hp, c_needW_n, hw, bx_l, bx_r, bh_r, r_isSale hV hRk.1, b2_t hp, r_isIn, b2_f hw, at_S, Nat.one_ne_zero]
  · refine ⟨(μ, stI ν 0 0 (I_ 1)), ?_, hA.refuse (N := N) (z := (μ, μ)) (by omega) hB hC hT hR (I_ 1)⟩
    simp (disch := omega) only [lawC10, fL_price, fX10_price, fX11_price, fX11_price_30, fX11_thrown, Int.reduceEq, Int.reduceNe, Int.reduceLT, Int.reduceLE, Int.reduceAdd, Int.reduceSub, Int.reduceMul, Int.reduceNeg, Int.zero_add, Int.add_zero, nm_eq, bd_some, bv_some, aI_ok, aL_ok, aS_ok, dv_ok, dw_ok, I_add, I_sub, I_mul, I_neg, I_lt, I_le, I_eq, I_nat, J_add, J_sub, J_mul, J_neg, J_lt, J_le, J_eq, I_l, J_i, I_div, J_div, b2_0, b2_1, b2_nar, nar_0, nar_1, zr_0, zr_1, zr_b2, cmp_eq, cmp_le, cmp_lt, cmp_gt, cmp_ge, mx_I, mn_I, mx_L, mn_L, az_I, if_true, if_false, not_true_eq_false, not_false_eq_true, Bool.false_eq_true, i_0, i_1, i_2, i_3, i_4, i_5, i_6, i_7, i_8, i_9, i_10, i_11, i_12, i_16, i_18, i_20, i_24, i_28, i_29, i_30, i_31, i_32, i_33, i_34, i_35, i_37, i_40, i_41, i_42, i_43, i_45, i_46, i_47, i_48, i_57, i_59, i_63, i_64, i_96, i_97, i_98, i_99, i_100, i_101, i_102, i_103, i_104, i_105, i_106, i_107, i_108, i_109, i_110, i_111, i_112, i_113, i_122, i_200, i_255, i_256, i_257, i_258, i_355, i_400, i_999, i_1000, i_1200, i_5680, i_9999, i_10000, i_99999, j_0, j_1, j_2, j_3, j_4, j_5, j_6, j_9, j_10, j_11, j_98, j_99, j_100, j_999, j_1000, j_9999, j_10000, j_99999, j_1000000, e, e', c_needS_n hV hK p0 p1 hp, bx_r, bh_r, r_isSale hV hRk.1, b2_f hp, at_S]
theorem A11 (hN : 20000 ≤ N) (v : Nat → Int32) (h : Rl μ ν) : ∃ z, lawC11 N v μ ν = some z ∧ Rl z.1 z.2 := by
  obtain ⟨b, Lm, Am, Lf, Af, K, fo, q, G, a, nx, hA, hB, hC, hT, hR⟩ := h
  obtain ⟨hV, hW, hK, hRk⟩ := hA.rq (N := N) (by omega)
  have hn := hV.1
  unfold vN at hn
  have hb := hK.1.1
  obtain ⟨p, e, p0, p1⟩ := I_ex (v 1)
  obtain ⟨m, e', m0, m1⟩ := I_ex (v 2)
  obtain ⟨w, e'', w0, w1⟩ := I_ex (v 3)
  by_cases hp : 0 ≤ p ∧ p < fN (G 0)
  · by_cases hm : 0 ≤ m ∧ m < mN (G 0)
    · by_cases hw : 1 ≤ w ∧ w ≤ 9999
      · have hG := hA.1.2.2.2
        have htc := hV.2.2.2.1 (p * 6 + m) (by omega) (by omega)
        have hcb := c_of_in hV (f := p) (m := m) hp.1 (by omega) hm.1 hm.2
        have hV1 : vB (vW K (vset (G 0) 14 (p * 6 + m) w)) := vB_W (vB_set hV (by decide) (fun y y0 y1 => vS_set hV (by decide) y0 y1) (by decide) (fun _ => by omega) (fun w => absurd w (by decide)) (fun w => absurd w (by decide))) hG
        have hE1 : vE K (vW K (vset (G 0) 14 (p * 6 + m) w)) := vE_W
        obtain ⟨ν1, r1, r2, r3, r4, r5, r6⟩ := r_rem0 (N := N) hN hA hB (vW K (vset (G 0) 14 (p * 6 + m) w))
        obtain ⟨μ1, k1, k2, k3⟩ := c_keep (N := N) (V1 := vW K (vset (G 0) 14 (p * 6 + m) w)) (kn := 3) (pl := p * 6 + m) (ol := t_co (G 0) (p * 6 + m)) hB.1 ⟨AG_setW (by decide) rfl, by omega, by omega, fun _ => by omega, fun w => by omega, fun w => by omega, fun w => by omega, by omega, fun w => by omega⟩
        have gk : ∀ k j, b ≤ k → k ≤ b + 28 → μ1.1 k j = μ.1 k j := fun k j c d => (k3 k j (by rcases hb with e | e <;> omega)).1
        have hON1 : ON b (G 0) μ1 := fun y y0 y1 => by rw [gk _ _ (by omega) (by omega), gk _ _ (by omega) (by omega)]; exact hA.2.2.2.2.2.1 y y0 y1
        obtain ⟨μ2, c1, c2, c3, c4⟩ := c_tellCo (N := N) (p := w) hb (by omega) hV hA.2.1 hG hA.2.2.1.2 (hA.2.2.2.2.1.fr gk) hON1 (pl := p * 6 + m) (by omega) (by omega) hV1 hE1 AG_W
        have h06 : μ1.2.2 0 6 = b := by rw [(k3 0 6 (by omega)).2.2]; exact hK.2
        have hRG2 := k2.fr (μ' := μ2) (fun k j hk => (c4 k j (by rcases hb with e | e <;> omega)).1)
        refine ⟨(stL μ2 90 0 (J_ (c_of (G 0) p m)), stI ν1 1 (dI 14 (p * 6 + m)) (I_ w)), ?_, ?_⟩
        · have d14 : (6 * p + m).toNat = dI 14 (p * 6 + m) := by rw [dI_14]; congr 1; omega
          have t0 : (stI ν1 1 (dI 14 (p * 6 + m)) (I_ w)).1 0 0 = I_ 0 := by rw [st_ne (by omega)]; exact r4
          have htcm : μ.1 (b + 26) (p * 6 + m).toNat = I_ (t_co (G 0) (p * 6 + m)) := CB_tc hK.1 (by omega) (by omega)
          simp (disch := omega) only [lawC11, fL_costs, fX10_costs, fX11_costs, fX11_costs_38, fX11_thrown, Int.reduceEq, Int.reduceNe, Int.reduceLT, Int.reduceLE, Int.reduceAdd, Int.reduceSub, Int.reduceMul, Int.reduceNeg, Int.zero_add, Int.add_zero, nm_eq, bd_some, bv_some, aI_ok, aL_ok, aS_ok, dv_ok, dw_ok, I_add, I_sub, I_mul, I_neg, I_lt, I_le, I_eq, I_nat, J_add, J_sub, J_mul, J_neg, J_lt, J_le, J_eq, I_l, J_i, I_div, J_div, b2_0, b2_1, b2_nar, nar_0, nar_1, zr_0, zr_1, zr_b2, cmp_eq, cmp_le, cmp_lt, cmp_gt, cmp_ge, mx_I, mn_I, mx_L, mn_L, az_I, if_true, if_false, not_true_eq_false, not_false_eq_true, Bool.false_eq_true, i_0, i_1, i_2, i_3, i_4, i_5, i_6, i_7, i_8, i_9, i_10, i_11, i_12, i_16, i_18, i_20, i_24, i_28, i_29, i_30, i_31, i_32, i_33, i_34, i_35, i_37, i_40, i_41, i_42, i_43, i_45, i_46, i_47, i_48, i_57, i_59, i_63, i_64, i_96, i_97, i_98, i_99, i_100, i_101, i_102, i_103, i_104, i_105, i_106, i_107, i_108, i_109, i_110, i_111, i_112, i_113, i_122, i_200, i_255, i_256, i_257, i_258, i_355, i_400, i_999, i_1000, i_1200, i_5680, i_9999, i_10000, i_99999, j_0, j_1, j_2, j_3, j_4, j_5, j_6, j_9, j_10, j_11, j_98, j_99, j_100, j_999, j_1000, j_9999, j_10000, j_99999, j_1000000, e, e', e'', c_needF_y hV hK hp.1 hp.2, c_needM_y hV hK hm.1 hm.2, c_needW_y, hw.1, hw.2, bx_l, bh_l, hK.2, gB_k hK.1.1, c_costOf hV hK.1, htcm, k1, h06, c1, r_isFirm hV hRk.1, r_isModel hV hRk.1, b2_t hp, b2_t hm, r_isIn, b2_t hw, and_self, at_S, r1, r_costOf hV (RB_of r5), d14, t0, n_0, at_SL, cmp_self]
        · refine Rl_a (G := G) (G' := gSh (vW K (vset (G 0) 14 (p * 6 + m) w)) G) hA hC hT hR ?_ ?_ hV1 hE1 (vW_m.trans (vs_m (by decide))) (vW_f.trans (vs_f (by decide))) (c2.fr (fun _ _ _ _ => rfl)) (fun y y0 y1 => c3 y y0 y1) ((r5.set hV (ok_ (by omega) (by omega) (by omega) (by omega)) (by omega) (by omega) (by show p * 6 + m < 24; omega)).ag AG_W) ?_ (FB_new hB hV1 hE1 hRG2 (r2.fr (fun k j hk => st_ne (by omega) j)))
          · exact ((k3.mono (fun k j w => ac_kp w)).tr (c4.mono (fun k j w => ac_du w))).stL (Or.inr (Or.inr (Or.inr ⟨rfl, rfl⟩)))
          · exact r6.tr (Fr.rf.stI (Or.inl rfl))
          · rw [st_ne (by omega)]; exact r3
      · refine ⟨(μ, stI ν 0 0 (I_ 2)), ?_, hA.refuse (N := N) (z := (μ, μ)) (by omega) hB hC hT hR (I_ 2)⟩
        simp (disch := omega) only [lawC11, fL_costs, fX10_costs, fX11_costs, fX11_costs_38, fX11_thrown, Int.reduceEq, Int.reduceNe, Int.reduceLT, Int.reduceLE, Int.reduceAdd, Int.reduceSub, Int.reduceMul, Int.reduceNeg, Int.zero_add, Int.add_zero, nm_eq, bd_some, bv_some, aI_ok, aL_ok, aS_ok, dv_ok, dw_ok, I_add, I_sub, I_mul, I_neg, I_lt, I_le, I_eq, I_nat, J_add, J_sub, J_mul, J_neg, J_lt, J_le, J_eq, I_l, J_i, I_div, J_div, b2_0, b2_1, b2_nar, nar_0, nar_1, zr_0, zr_1, zr_b2, cmp_eq, cmp_le, cmp_lt, cmp_gt, cmp_ge, mx_I, mn_I, mx_L, mn_L, az_I, if_true, if_false, not_true_eq_false, not_false_eq_true, Bool.false_eq_true, i_0, i_1, i_2, i_3, i_4, i_5, i_6, i_7, i_8, i_9, i_10, i_11, i_12, i_16, i_18, i_20, i_24, i_28, i_29, i_30, i_31, i_32, i_33, i_34, i_35, i_37, i_40, i_41, i_42, i_43, i_45, i_46, i_47, i_48, i_57, i_59, i_63, i_64, i_96, i_97, i_98, i_99, i_100, i_101, i_102, i_103, i_104, i_105, i_106, i_107, i_108, i_109, i_110, i_111, i_112, i_113, i_122, i_200, i_255, i_256, i_257, i_258, i_355, i_400, i_999, i_1000, i_1200, i_5680, i_9999, i_10000, i_99999, j_0, j_1, j_2, j_3, j_4, j_5, j_6, j_9, j_10, j_11, j_98, j_99, j_100, j_999, j_1000, j_9999, j_10000, j_99999, j_1000000, e, e', e'', c_needF_y hV hK hp.1 hp.2, c_needM_y hV hK hm.1 hm.2, c_needW_n, hw, bx_l, bx_r, bh_r, r_isFirm hV hRk.1, r_isModel hV hRk.1, b2_t hp, b2_t hm, r_isIn, b2_f hw, at_S, Nat.one_ne_zero]
    · refine ⟨(μ, stI ν 0 0 (I_ 1)), ?_, hA.refuse (N := N) (z := (μ, μ)) (by omega) hB hC hT hR (I_ 1)⟩
      simp (disch := omega) only [lawC11, fL_costs, fX10_costs, fX11_costs, fX11_costs_38, fX11_thrown, Int.reduceEq, Int.reduceNe, Int.reduceLT, Int.reduceLE, Int.reduceAdd, Int.reduceSub, Int.reduceMul, Int.reduceNeg, Int.zero_add, Int.add_zero, nm_eq, bd_some, bv_some, aI_ok, aL_ok, aS_ok, dv_ok, dw_ok, I_add, I_sub, I_mul, I_neg, I_lt, I_le, I_eq, I_nat, J_add, J_sub, J_mul, J_neg, J_lt, J_le, J_eq, I_l, J_i, I_div, J_div, b2_0, b2_1, b2_nar, nar_0, nar_1, zr_0, zr_1, zr_b2, cmp_eq, cmp_le, cmp_lt, cmp_gt, cmp_ge, mx_I, mn_I, mx_L, mn_L, az_I, if_true, if_false, not_true_eq_false, not_false_eq_true, Bool.false_eq_true, i_0, i_1, i_2, i_3, i_4, i_5, i_6, i_7, i_8, i_9, i_10, i_11, i_12, i_16, i_18, i_20, i_24, i_28, i_29, i_30, i_31, i_32, i_33, i_34, i_35, i_37, i_40, i_41, i_42, i_43, i_45, i_46, i_47, i_48, i_57, i_59, i_63, i_64, i_96, i_97, i_98, i_99, i_100, i_101, i_102, i_103, i_104, i_105, i_106, i_107, i_108, i_109, i_110, i_111, i_112, i_113, i_122, i_200, i_255, i_256, i_257, i_258, i_355, i_400, i_999, i_1000, i_1200, i_5680, i_9999, i_10000, i_99999, j_0, j_1, j_2, j_3, j_4, j_5, j_6, j_9, j_10, j_11, j_98, j_99, j_100, j_999, j_1000, j_9999, j_10000, j_99999, j_1000000, e, e', e'', c_needF_y hV hK hp.1 hp.2, c_needM_n hV hK m0 m1 hm, bx_l, bx_r, bh_r, r_isFirm hV hRk.1, r_isModel hV hRk.1, b2_t hp, b2_f hm, at_S]
  · refine ⟨(μ, stI ν 0 0 (I_ 1)), ?_, hA.refuse (N := N) (z := (μ, μ)) (by omega) hB hC hT hR (I_ 1)⟩
    simp (disch := omega) only [lawC11, fL_costs, fX10_costs, fX11_costs, fX11_costs_38, fX11_thrown, Int.reduceEq, Int.reduceNe, Int.reduceLT, Int.reduceLE, Int.reduceAdd, Int.reduceSub, Int.reduceMul, Int.reduceNeg, Int.zero_add, Int.add_zero, nm_eq, bd_some, bv_some, aI_ok, aL_ok, aS_ok, dv_ok, dw_ok, I_add, I_sub, I_mul, I_neg, I_lt, I_le, I_eq, I_nat, J_add, J_sub, J_mul, J_neg, J_lt, J_le, J_eq, I_l, J_i, I_div, J_div, b2_0, b2_1, b2_nar, nar_0, nar_1, zr_0, zr_1, zr_b2, cmp_eq, cmp_le, cmp_lt, cmp_gt, cmp_ge, mx_I, mn_I, mx_L, mn_L, az_I, if_true, if_false, not_true_eq_false, not_false_eq_true, Bool.false_eq_true, i_0, i_1, i_2, i_3, i_4, i_5, i_6, i_7, i_8, i_9, i_10, i_11, i_12, i_16, i_18, i_20, i_24, i_28, i_29, i_30, i_31, i_32, i_33, i_34, i_35, i_37, i_40, i_41, i_42, i_43, i_45, i_46, i_47, i_48, i_57, i_59, i_63, i_64, i_96, i_97, i_98, i_99, i_100, i_101, i_102, i_103, i_104, i_105, i_106, i_107, i_108, i_109, i_110, i_111, i_112, i_113, i_122, i_200, i_255, i_256, i_257, i_258, i_355, i_400, i_999, i_1000, i_1200, i_5680, i_9999, i_10000, i_99999, j_0, j_1, j_2, j_3, j_4, j_5, j_6, j_9, j_10, j_11, j_98, j_99, j_100, j_999, j_1000, j_9999, j_10000, j_99999, j_1000000, e, e', e'', c_needF_n hV hK p0 p1 hp, bx_r, bh_r, r_isFirm hV hRk.1, b2_f hp, at_S]
/-- a setting, a firm's silence: nothing of the sales changes -/
theorem off_hi {k0 z0 w y : Int} (h : 15 ≤ k0) : offz K (vset V k0 z0 w) y = offz K V y ∧ netz K (vset V k0 z0 w) y = netz K V y := offz_ag (fun k c d => vset_ne (by omega)) (vset_ne (by omega)) (vset_ne (by omega))
theorem vE_hi {k0 z0 w : Int} (h : 15 ≤ k0) (hE : vE K V) : vE K (vset V k0 z0 w) := fun y y0 y1 => by
  rw [(off_hi h).1, (off_hi h).2]
  rw [vs_s (by omega)] at y1
  show vset V k0 z0 w 8 y = _ ∧ vset V k0 z0 w 9 y = _
  rw [vset_ne (by omega), vset_ne (by omega)]
  exact hE y y0 y1
theorem A_hi (hN : 20000 ≤ N) {b : Nat} {Lm Lf : Int → Int} {Am Af : Int → Int → Int} {fo : Int → Int} {q nx : Int} {G : Nat → Vw} {a : Nat} (hA : FA b (G 0) Lm Am Lf Af K fo q μ ν) (hB : FB K G a nx μ ν) (hC : FC b μ) (hT : FT μ ν) (hR : FR μ ν) {k0 z0 w kn : Int} (hk : k0 = 15 ∨ k0 = 16) (hkn : (k0 = 15 ∧ kn = 5) ∨ (k0 = 16 ∧ kn = 4)) (z00 : 0 ≤ z0) (z1 : z0 < szv 40 6 k0) (hV1 : vB (vset (G 0) k0 z0 w)) (ho : 0 ≤ G 0 k0 z0 ∧ G 0 k0 z0 ≤ 99 ∧ (k0 = 15 → G 0 k0 z0 ≤ 1)) : ∃ μ2 ν1, fX0_keep N (I_ kn) (I_ z0) (I_ (G 0 k0 z0)) (stI μ (b + 12 + k0.toNat) z0.toNat (I_ w)) = some ((), μ2) ∧ μ2.2.2 0 6 = b ∧ fX11_remembers N (stI ν 0 0 (I_ 0)) = some ((), ν1) ∧ ν1.1 0 0 = I_ 0 ∧ PE (G 0) Lm Am Lf Af K ν1 ∧ ∀ x : Int64, Rl (stL μ2 90 0 x) (stI ν1 1 (dI k0 z0) (I_ w)) := by
  have hb := hA.2.2.2.1
  have hV := hA.1.1
  have ok : okk k0 := by unfold okk; omega
  have hE1 : vE K (vset (G 0) k0 z0 w) := vE_hi (by omega) hA.2.1
  obtain ⟨ν1, r1, r2, r3, r4, r5, r6⟩ := r_rem0 (N := N) hN hA hB (vset (G 0) k0 z0 w)
  have hPC1 := hA.2.2.2.2.1.setk (k0 := k0) (z0 := z0) (v := w) ok z00
  have gb : Fr (fun k j => k = b + 12 + k0.toNat) μ (stI μ (b + 12 + k0.toNat) z0.toNat (I_ w)) := Fr.rf.stI rfl
  have hRG1 := hB.1.fr (μ' := stI μ (b + 12 + k0.toNat) z0.toNat (I_ w)) (fun k j hk => (gb k j (by rcases hb with e | e <;> omega)).1)
  have s15 : szv 40 6 15 = 4 := rfl
  have s16 : szv 40 6 16 = 6 := rfl
  have hun : un kn z0 (G 0 k0 z0) (vset (G 0) k0 z0 w) = vset (vset (G 0) k0 z0 w) k0 z0 (G 0 k0 z0) := by
    rcases hkn with ⟨x, y⟩ | ⟨x, y⟩ <;> (subst x; subst y; rfl)
  obtain ⟨μ2, k1, k2, k3⟩ := c_keep (N := N) (V1 := vset (G 0) k0 z0 w) (kn := kn) (pl := z0) (ol := G 0 k0 z0) hRG1 ⟨by rw [hun]; exact AG_set (by omega) rfl, by omega, z00, fun _ => by omega, fun w => by omega, fun x => by rcases hkn with ⟨x, y⟩ | ⟨x, y⟩ <;> subst x <;> omega, fun x => by rcases hkn with ⟨x, y⟩ | ⟨x, y⟩ <;> subst x <;> omega, by omega, fun x => by rcases hkn with ⟨x, y⟩ | ⟨x, y⟩ <;> omega⟩
  have gk : ∀ k j, b ≤ k → k ≤ b + 28 → μ2.1 k j = (stI μ (b + 12 + k0.toNat) z0.toNat (I_ w)).1 k j := fun k j c d => (k3 k j (by rcases hb with e | e <;> omega)).1
  refine ⟨μ2, ν1, k1, ?_, r1, r4, r5, fun x => ?_⟩
  · rw [(k3 0 6 (by omega)).2.2]; exact hA.2.2.2.2.2.2.1
  · refine Rl_a (G := G) (G' := gSh (vset (G 0) k0 z0 w) G) hA hC hT hR ?_ ?_ hV1 hE1 (vs_m (by omega)) (vs_f (by omega)) (hPC1.fr gk) ?_ (r5.set hV ok (by omega) z00 z1) ?_ (FB_new hB hV1 hE1 k2 (r2.fr (fun k j hk => st_ne (by omega) j)))
    · exact ((gb.mono (fun k j w => ac_du (by omega))).tr (k3.mono (fun k j w => ac_kp w))).stL (Or.inr (Or.inr (Or.inr ⟨rfl, rfl⟩)))
    · exact r6.tr (Fr.rf.stI (Or.inl rfl))
    · exact ON.ag hV hA.2.1 hE1 (by show sN (vset (G 0) k0 z0 w) ≤ _; rw [vs_s (by omega)]; omega) hA.2.2.2.2.2.1 (fun k y c d y0 y1 => vset_ne (by omega)) (fun p c d => vset_ne (by omega)) (fun m c d => vset_ne (by omega)) (fun k j w => by
        show μ2.1 k j = _
        rw [gk _ _ (by omega) (by omega)]; exact (gb _ _ (by omega)).1)
    · rw [st_ne (by omega)]; exact r3
theorem A12 (hN : 20000 ≤ N) (v : Nat → Int32) (h : Rl μ ν) : ∃ z, lawC12 N v μ ν = some z ∧ Rl z.1 z.2 := by
  obtain ⟨b, Lm, Am, Lf, Af, K, fo, q, G, a, nx, hA, hB, hC, hT, hR⟩ := h
  obtain ⟨hV, hW, hK, hRk⟩ := hA.rq (N := N) (by omega)
  have hn := hV.1
  unfold vN at hn
  have hb := hK.1.1
  obtain ⟨p, e, p0, p1⟩ := I_ex (v 1)
  obtain ⟨w, e', w0, w1⟩ := I_ex (v 2)
  by_cases hp : 0 ≤ p ∧ p ≤ 5
  · have hc : p = 0 ∨ p = 1 ∨ p = 2 ∨ p = 3 ∨ p = 4 ∨ p = 5 := by omega
    obtain ⟨mx, hmx, mxc⟩ : ∃ mx : Int, (mx = 1 ∨ mx = 2 ∨ mx = 99) ∧ ((p = 0 ∧ mx = 2) ∨ ((p = 1 ∨ p = 2 ∨ p = 3) ∧ mx = 1) ∨ ((p = 4 ∨ p = 5) ∧ mx = 99)) := by
      rcases hc with x | x | x | x | x | x
      · exact ⟨2, by omega, by omega⟩
      · exact ⟨1, by omega, by omega⟩
      · exact ⟨1, by omega, by omega⟩
      · exact ⟨1, by omega, by omega⟩
      · exact ⟨99, by omega, by omega⟩
      · exact ⟨99, by omega, by omega⟩
    have hmost : fX10_mostOfSetting N (I_ p) μ = some (I_ mx, μ) := by
      rcases hc with x | x | x | x | x | x <;> subst x
      · have : mx = 2 := by omega
        subst this; rfl
      · have : mx = 1 := by omega
        subst this; rfl
      · have : mx = 1 := by omega
        subst this; rfl
      · have : mx = 1 := by omega
        subst this; rfl
      · have : mx = 99 := by omega
        subst this; rfl
      · have : mx = 99 := by omega
        subst this; rfl
    have p6 : p < 6 := by omega
    have pn : ¬ p < 0 := by omega
    have hin : ∀ (y : Int32), fX11_set N (I_ p) (I_ w) ν = (if 0 ≤ w ∧ w ≤ mx then fX11_set_53 N (I_ p) (I_ w) (I_ 0) ν else fX11_set_53 N (I_ p) (I_ w) (I_ 2) ν) := fun _ => by
      by_cases hw : 0 ≤ w ∧ w ≤ mx
      · rw [if_pos hw]
        rcases mxc with ⟨x, y⟩ | ⟨x, y⟩ | ⟨x, y⟩
        · subst x; subst y
          simp (disch := omega) only [fX11_set, Int.reduceEq, Int.reduceNe, Int.reduceLT, Int.reduceLE, Int.reduceAdd, Int.reduceSub, Int.reduceMul, Int.reduceNeg, Int.zero_add, Int.add_zero, nm_eq, bd_some, bv_some, aI_ok, aL_ok, aS_ok, dv_ok, dw_ok, I_add, I_sub, I_mul, I_neg, I_lt, I_le, I_eq, I_nat, J_add, J_sub, J_mul, J_neg, J_lt, J_le, J_eq, I_l, J_i, I_div, J_div, b2_0, b2_1, b2_nar, nar_0, nar_1, zr_0, zr_1, zr_b2, cmp_eq, cmp_le, cmp_lt, cmp_gt, cmp_ge, mx_I, mn_I, mx_L, mn_L, az_I, if_true, if_false, not_true_eq_false, not_false_eq_true, Bool.false_eq_true, i_0, i_1, i_2, i_3, i_4, i_5, i_6, i_7, i_8, i_9, i_10, i_11, i_12, i_16, i_18, i_20, i_24, i_28, i_29, i_30, i_31, i_32, i_33, i_34, i_35, i_37, i_40, i_41, i_42, i_43, i_45, i_46, i_47, i_48, i_57, i_59, i_63, i_64, i_96, i_97, i_98, i_99, i_100, i_101, i_102, i_103, i_104, i_105, i_106, i_107, i_108, i_109, i_110, i_111, i_112, i_113, i_122, i_200, i_255, i_256, i_257, i_258, i_355, i_400, i_999, i_1000, i_1200, i_5680, i_9999, i_10000, i_99999, j_0, j_1, j_2, j_3, j_4, j_5, j_6, j_9, j_10, j_11, j_98, j_99, j_100, j_999, j_1000, j_9999, j_10000, j_99999, j_1000000, r_isIn, b2_t hw, and_self]
        · subst y
          have n0 : ¬ p = 0 := by omega
          have n4 : ¬ 4 ≤ p := by omega
          simp (disch := omega) only [fX11_set, Int.reduceEq, Int.reduceNe, Int.reduceLT, Int.reduceLE, Int.reduceAdd, Int.reduceSub, Int.reduceMul, Int.reduceNeg, Int.zero_add, Int.add_zero, nm_eq, bd_some, bv_some, aI_ok, aL_ok, aS_ok, dv_ok, dw_ok, I_add, I_sub, I_mul, I_neg, I_lt, I_le, I_eq, I_nat, J_add, J_sub, J_mul, J_neg, J_lt, J_le, J_eq, I_l, J_i, I_div, J_div, b2_0, b2_1, b2_nar, nar_0, nar_1, zr_0, zr_1, zr_b2, cmp_eq, cmp_le, cmp_lt, cmp_gt, cmp_ge, mx_I, mn_I, mx_L, mn_L, az_I, if_true, if_false, not_true_eq_false, not_false_eq_true, Bool.false_eq_true, i_0, i_1, i_2, i_3, i_4, i_5, i_6, i_7, i_8, i_9, i_10, i_11, i_12, i_16, i_18, i_20, i_24, i_28, i_29, i_30, i_31, i_32, i_33, i_34, i_35, i_37, i_40, i_41, i_42, i_43, i_45, i_46, i_47, i_48, i_57, i_59, i_63, i_64, i_96, i_97, i_98, i_99, i_100, i_101, i_102, i_103, i_104, i_105, i_106, i_107, i_108, i_109, i_110, i_111, i_112, i_113, i_122, i_200, i_255, i_256, i_257, i_258, i_355, i_400, i_999, i_1000, i_1200, i_5680, i_9999, i_10000, i_99999, j_0, j_1, j_2, j_3, j_4, j_5, j_6, j_9, j_10, j_11, j_98, j_99, j_100, j_999, j_1000, j_9999, j_10000, j_99999, j_1000000, r_isIn, b2_t hp, n0, n4, b2_t hw]
        · subst y
          have n0 : ¬ p = 0 := by omega
          have n4 : 4 ≤ p := by omega
          simp (disch := omega) only [fX11_set, Int.reduceEq, Int.reduceNe, Int.reduceLT, Int.reduceLE, Int.reduceAdd, Int.reduceSub, Int.reduceMul, Int.reduceNeg, Int.zero_add, Int.add_zero, nm_eq, bd_some, bv_some, aI_ok, aL_ok, aS_ok, dv_ok, dw_ok, I_add, I_sub, I_mul, I_neg, I_lt, I_le, I_eq, I_nat, J_add, J_sub, J_mul, J_neg, J_lt, J_le, J_eq, I_l, J_i, I_div, J_div, b2_0, b2_1, b2_nar, nar_0, nar_1, zr_0, zr_1, zr_b2, cmp_eq, cmp_le, cmp_lt, cmp_gt, cmp_ge, mx_I, mn_I, mx_L, mn_L, az_I, if_true, if_false, not_true_eq_false, not_false_eq_true, Bool.false_eq_true, i_0, i_1, i_2, i_3, i_4, i_5, i_6, i_7, i_8, i_9, i_10, i_11, i_12, i_16, i_18, i_20, i_24, i_28, i_29, i_30, i_31, i_32, i_33, i_34, i_35, i_37, i_40, i_41, i_42, i_43, i_45, i_46, i_47, i_48, i_57, i_59, i_63, i_64, i_96, i_97, i_98, i_99, i_100, i_101, i_102, i_103, i_104, i_105, i_106, i_107, i_108, i_109, i_110, i_111, i_112, i_113, i_122, i_200, i_255, i_256, i_257, i_258, i_355, i_400, i_999, i_1000, i_1200, i_5680, i_9999, i_10000, i_99999, j_0, j_1, j_2, j_3, j_4, j_5, j_6, j_9, j_10, j_11, j_98, j_99, j_100, j_999, j_1000, j_9999, j_10000, j_99999, j_1000000, r_isIn, b2_t hp, n0, n4, b2_t hw]
      · rw [if_neg hw]
        rcases mxc with ⟨x, y⟩ | ⟨x, y⟩ | ⟨x, y⟩
        · subst x; subst y
          simp (disch := omega) only [fX11_set, Int.reduceEq, Int.reduceNe, Int.reduceLT, Int.reduceLE, Int.reduceAdd, Int.reduceSub, Int.reduceMul, Int.reduceNeg, Int.zero_add, Int.add_zero, nm_eq, bd_some, bv_some, aI_ok, aL_ok, aS_ok, dv_ok, dw_ok, I_add, I_sub, I_mul, I_neg, I_lt, I_le, I_eq, I_nat, J_add, J_sub, J_mul, J_neg, J_lt, J_le, J_eq, I_l, J_i, I_div, J_div, b2_0, b2_1, b2_nar, nar_0, nar_1, zr_0, zr_1, zr_b2, cmp_eq, cmp_le, cmp_lt, cmp_gt, cmp_ge, mx_I, mn_I, mx_L, mn_L, az_I, if_true, if_false, not_true_eq_false, not_false_eq_true, Bool.false_eq_true, i_0, i_1, i_2, i_3, i_4, i_5, i_6, i_7, i_8, i_9, i_10, i_11, i_12, i_16, i_18, i_20, i_24, i_28, i_29, i_30, i_31, i_32, i_33, i_34, i_35, i_37, i_40, i_41, i_42, i_43, i_45, i_46, i_47, i_48, i_57, i_59, i_63, i_64, i_96, i_97, i_98, i_99, i_100, i_101, i_102, i_103, i_104, i_105, i_106, i_107, i_108, i_109, i_110, i_111, i_112, i_113, i_122, i_200, i_255, i_256, i_257, i_258, i_355, i_400, i_999, i_1000, i_1200, i_5680, i_9999, i_10000, i_99999, j_0, j_1, j_2, j_3, j_4, j_5, j_6, j_9, j_10, j_11, j_98, j_99, j_100, j_999, j_1000, j_9999, j_10000, j_99999, j_1000000, r_isIn, b2_f hw, and_self]
        · subst y
          have n0 : ¬ p = 0 := by omega
          have n4 : ¬ 4 ≤ p := by omega
          simp (disch := omega) only [fX11_set, Int.reduceEq, Int.reduceNe, Int.reduceLT, Int.reduceLE, Int.reduceAdd, Int.reduceSub, Int.reduceMul, Int.reduceNeg, Int.zero_add, Int.add_zero, nm_eq, bd_some, bv_some, aI_ok, aL_ok, aS_ok, dv_ok, dw_ok, I_add, I_sub, I_mul, I_neg, I_lt, I_le, I_eq, I_nat, J_add, J_sub, J_mul, J_neg, J_lt, J_le, J_eq, I_l, J_i, I_div, J_div, b2_0, b2_1, b2_nar, nar_0, nar_1, zr_0, zr_1, zr_b2, cmp_eq, cmp_le, cmp_lt, cmp_gt, cmp_ge, mx_I, mn_I, mx_L, mn_L, az_I, if_true, if_false, not_true_eq_false, not_false_eq_true, Bool.false_eq_true, i_0, i_1, i_2, i_3, i_4, i_5, i_6, i_7, i_8, i_9, i_10, i_11, i_12, i_16, i_18, i_20, i_24, i_28, i_29, i_30, i_31, i_32, i_33, i_34, i_35, i_37, i_40, i_41, i_42, i_43, i_45, i_46, i_47, i_48, i_57, i_59, i_63, i_64, i_96, i_97, i_98, i_99, i_100, i_101, i_102, i_103, i_104, i_105, i_106, i_107, i_108, i_109, i_110, i_111, i_112, i_113, i_122, i_200, i_255, i_256, i_257, i_258, i_355, i_400, i_999, i_1000, i_1200, i_5680, i_9999, i_10000, i_99999, j_0, j_1, j_2, j_3, j_4, j_5, j_6, j_9, j_10, j_11, j_98, j_99, j_100, j_999, j_1000, j_9999, j_10000, j_99999, j_1000000, r_isIn, b2_t hp, n0, n4, b2_f hw]
        · subst y
          have n0 : ¬ p = 0 := by omega
          have n4 : 4 ≤ p := by omega
          simp (disch := omega) only [fX11_set, Int.reduceEq, Int.reduceNe, Int.reduceLT, Int.reduceLE, Int.reduceAdd, Int.reduceSub, Int.reduceMul, Int.reduceNeg, Int.zero_add, Int.add_zero, nm_eq, bd_some, bv_some, aI_ok, aL_ok, aS_ok, dv_ok, dw_ok, I_add, I_sub, I_mul, I_neg, I_lt, I_le, I_eq, I_nat, J_add, J_sub, J_mul, J_neg, J_lt, J_le, J_eq, I_l, J_i, I_div, J_div, b2_0, b2_1, b2_nar, nar_0, nar_1, zr_0, zr_1, zr_b2, cmp_eq, cmp_le, cmp_lt, cmp_gt, cmp_ge, mx_I, mn_I, mx_L, mn_L, az_I, if_true, if_false, not_true_eq_false, not_false_eq_true, Bool.false_eq_true, i_0, i_1, i_2, i_3, i_4, i_5, i_6, i_7, i_8, i_9, i_10, i_11, i_12, i_16, i_18, i_20, i_24, i_28, i_29, i_30, i_31, i_32, i_33, i_34, i_35, i_37, i_40, i_41, i_42, i_43, i_45, i_46, i_47, i_48, i_57, i_59, i_63, i_64, i_96, i_97, i_98, i_99, i_100, i_101, i_102, i_103, i_104, i_105, i_106, i_107, i_108, i_109, i_110, i_111, i_112, i_113, i_122, i_200, i_255, i_256, i_257, i_258, i_355, i_400, i_999, i_1000, i_1200, i_5680, i_9999, i_10000, i_99999, j_0, j_1, j_2, j_3, j_4, j_5, j_6, j_9, j_10, j_11, j_98, j_99, j_100, j_999, j_1000, j_9999, j_10000, j_99999, j_1000000, r_isIn, b2_t hp, n0, n4, b2_f hw]
    have hold : 0 ≤ G 0 16 p ∧ G 0 16 p ≤ 99 := by
      unfold s_se at hn
      rcases hc with x | x | x | x | x | x <;> subst x <;> omega
    by_cases hw : 0 ≤ w ∧ w ≤ mx
    · have hV1 : vB (vset (G 0) 16 p w) := vB_set hV (by decide) (fun y y0 y1 => vS_set hV (by decide) y0 y1) (by decide) (fun w => absurd w (by decide)) (fun w => absurd w (by decide)) (fun _ => ⟨fun _ => by omega, fun _ => by omega, fun _ => by omega, fun _ => by omega, fun _ => by omega, fun _ => by omega⟩)
      obtain ⟨μ2, ν1, k1, k2, k3, k4, k5, k6⟩ := A_hi (N := N) hN hA hB hC hT hR (k0 := 16) (z0 := p) (w := w) (kn := 4) (Or.inr rfl) (Or.inr ⟨rfl, rfl⟩) hp.1 (by show p < 6; omega) hV1 ⟨hold.1, hold.2, fun x => by omega⟩
      refine ⟨(stL μ2 90 0 (J_ (G 0 16 p)), stI ν1 1 (dI 16 p) (I_ w)), ?_, k6 _⟩
      have k1' : fX0_keep N (I_ 4) (I_ p) (I_ (G 0 16 p)) (stI μ (b + 28) p.toNat (I_ w)) = some ((), μ2) := k1
      have hse : μ.1 (b + 28) p.toNat = I_ (G 0 16 p) := CB_se hK.1 hp.1 p6
      have hsr : ν1.1 1 (28 + p).toNat = I_ (G 0 16 p) := RB_se (RB_of k5) hp.1 p6
      have d16 : (28 + p).toNat = dI 16 p := rfl
      have t0 : (stI ν1 1 (dI 16 p) (I_ w)).1 0 0 = I_ 0 := by rw [st_ne (by omega)]; exact k4
      have hset : fX11_set N (I_ p) (I_ w) ν = some (I_ (G 0 16 p), stI ν1 1 (dI 16 p) (I_ w)) := by
        rw [hin 0, if_pos hw]
        rw [d16] at hsr
        simp (disch := omega) only [fX11_set_53, Int.reduceEq, Int.reduceNe, Int.reduceLT, Int.reduceLE, Int.reduceAdd, Int.reduceSub, Int.reduceMul, Int.reduceNeg, Int.zero_add, Int.add_zero, nm_eq, bd_some, bv_some, aI_ok, aL_ok, aS_ok, dv_ok, dw_ok, I_add, I_sub, I_mul, I_neg, I_lt, I_le, I_eq, I_nat, J_add, J_sub, J_mul, J_neg, J_lt, J_le, J_eq, I_l, J_i, I_div, J_div, b2_0, b2_1, b2_nar, nar_0, nar_1, zr_0, zr_1, zr_b2, cmp_eq, cmp_le, cmp_lt, cmp_gt, cmp_ge, mx_I, mn_I, mx_L, mn_L, az_I, if_true, if_false, not_true_eq_false, not_false_eq_true, Bool.false_eq_true, i_0, i_1, i_2, i_3, i_4, i_5, i_6, i_7, i_8, i_9, i_10, i_11, i_12, i_16, i_18, i_20, i_24, i_28, i_29, i_30, i_31, i_32, i_33, i_34, i_35, i_37, i_40, i_41, i_42, i_43, i_45, i_46, i_47, i_48, i_57, i_59, i_63, i_64, i_96, i_97, i_98, i_99, i_100, i_101, i_102, i_103, i_104, i_105, i_106, i_107, i_108, i_109, i_110, i_111, i_112, i_113, i_122, i_200, i_255, i_256, i_257, i_258, i_355, i_400, i_999, i_1000, i_1200, i_5680, i_9999, i_10000, i_99999, j_0, j_1, j_2, j_3, j_4, j_5, j_6, j_9, j_10, j_11, j_98, j_99, j_100, j_999, j_1000, j_9999, j_10000, j_99999, j_1000000, at_S, k3, d16, hsr]
      have hneed : fX10_needWithin N (I_ w) (I_ 0) (I_ mx) μ = some (.inl (), μ) := c_needW_y (by omega) (by omega) hw.1 hw.2
      simp (disch := omega) only [lawC12, fL_set, fX10_set, fX11_thrown, Int.reduceEq, Int.reduceNe, Int.reduceLT, Int.reduceLE, Int.reduceAdd, Int.reduceSub, Int.reduceMul, Int.reduceNeg, Int.zero_add, Int.add_zero, nm_eq, bd_some, bv_some, aI_ok, aL_ok, aS_ok, dv_ok, dw_ok, I_add, I_sub, I_mul, I_neg, I_lt, I_le, I_eq, I_nat, J_add, J_sub, J_mul, J_neg, J_lt, J_le, J_eq, I_l, J_i, I_div, J_div, b2_0, b2_1, b2_nar, nar_0, nar_1, zr_0, zr_1, zr_b2, cmp_eq, cmp_le, cmp_lt, cmp_gt, cmp_ge, mx_I, mn_I, mx_L, mn_L, az_I, if_true, if_false, not_true_eq_false, not_false_eq_true, Bool.false_eq_true, i_0, i_1, i_2, i_3, i_4, i_5, i_6, i_7, i_8, i_9, i_10, i_11, i_12, i_16, i_18, i_20, i_24, i_28, i_29, i_30, i_31, i_32, i_33, i_34, i_35, i_37, i_40, i_41, i_42, i_43, i_45, i_46, i_47, i_48, i_57, i_59, i_63, i_64, i_96, i_97, i_98, i_99, i_100, i_101, i_102, i_103, i_104, i_105, i_106, i_107, i_108, i_109, i_110, i_111, i_112, i_113, i_122, i_200, i_255, i_256, i_257, i_258, i_355, i_400, i_999, i_1000, i_1200, i_5680, i_9999, i_10000, i_99999, j_0, j_1, j_2, j_3, j_4, j_5, j_6, j_9, j_10, j_11, j_98, j_99, j_100, j_999, j_1000, j_9999, j_10000, j_99999, j_1000000, e, e', pn, p6, hmost, hneed, bx_l, bh_l, hK.2, gB_k hK.1.1, hse, k1', hset, t0, n_0, at_SL, cmp_self]
    · refine ⟨(μ, stI ν 0 0 (I_ 2)), ?_, hA.refuse (N := N) (z := (μ, μ)) (by omega) hB hC hT hR (I_ 2)⟩
      have hset : fX11_set N (I_ p) (I_ w) ν = some (I_ 0, stI ν 0 0 (I_ 2)) := by
        rw [hin 0, if_neg hw]
        simp (disch := omega) only [fX11_set_53, Int.reduceEq, Int.reduceNe, Int.reduceLT, Int.reduceLE, Int.reduceAdd, Int.reduceSub, Int.reduceMul, Int.reduceNeg, Int.zero_add, Int.add_zero, nm_eq, bd_some, bv_some, aI_ok, aL_ok, aS_ok, dv_ok, dw_ok, I_add, I_sub, I_mul, I_neg, I_lt, I_le, I_eq, I_nat, J_add, J_sub, J_mul, J_neg, J_lt, J_le, J_eq, I_l, J_i, I_div, J_div, b2_0, b2_1, b2_nar, nar_0, nar_1, zr_0, zr_1, zr_b2, cmp_eq, cmp_le, cmp_lt, cmp_gt, cmp_ge, mx_I, mn_I, mx_L, mn_L, az_I, if_true, if_false, not_true_eq_false, not_false_eq_true, Bool.false_eq_true, i_0, i_1, i_2, i_3, i_4, i_5, i_6, i_7, i_8, i_9, i_10, i_11, i_12, i_16, i_18, i_20, i_24, i_28, i_29, i_30, i_31, i_32, i_33, i_34, i_35, i_37, i_40, i_41, i_42, i_43, i_45, i_46, i_47, i_48, i_57, i_59, i_63, i_64, i_96, i_97, i_98, i_99, i_100, i_101, i_102, i_103, i_104, i_105, i_106, i_107, i_108, i_109, i_110, i_111, i_112, i_113, i_122, i_200, i_255, i_256, i_257, i_258, i_355, i_400, i_999, i_1000, i_1200, i_5680, i_9999, i_10000, i_99999, j_0, j_1, j_2, j_3, j_4, j_5, j_6, j_9, j_10, j_11, j_98, j_99, j_100, j_999, j_1000, j_9999, j_10000, j_99999, j_1000000, at_S]
      have hneed : fX10_needWithin N (I_ w) (I_ 0) (I_ mx) μ = some (.inr 1, μ) := c_needW_n (by omega) (by omega) (by omega) w0 w1 hw
      have n31 : ¬ (1 : Nat) = 3 := by decide
      simp (disch := omega) only [lawC12, fL_set, fX10_set, fX11_thrown, Int.reduceEq, Int.reduceNe, Int.reduceLT, Int.reduceLE, Int.reduceAdd, Int.reduceSub, Int.reduceMul, Int.reduceNeg, Int.zero_add, Int.add_zero, nm_eq, bd_some, bv_some, aI_ok, aL_ok, aS_ok, dv_ok, dw_ok, I_add, I_sub, I_mul, I_neg, I_lt, I_le, I_eq, I_nat, J_add, J_sub, J_mul, J_neg, J_lt, J_le, J_eq, I_l, J_i, I_div, J_div, b2_0, b2_1, b2_nar, nar_0, nar_1, zr_0, zr_1, zr_b2, cmp_eq, cmp_le, cmp_lt, cmp_gt, cmp_ge, mx_I, mn_I, mx_L, mn_L, az_I, if_true, if_false, not_true_eq_false, not_false_eq_true, Bool.false_eq_true, i_0, i_1, i_2, i_3, i_4, i_5, i_6, i_7, i_8, i_9, i_10, i_11, i_12, i_16, i_18, i_20, i_24, i_28, i_29, i_30, i_31, i_32, i_33, i_34, i_35, i_37, i_40, i_41, i_42, i_43, i_45, i_46, i_47, i_48, i_57, i_59, i_63, i_64, i_96, i_97, i_98, i_99, i_100, i_101, i_102, i_103, i_104, i_105, i_106, i_107, i_108, i_109, i_110, i_111, i_112, i_113, i_122, i_200, i_255, i_256, i_257, i_258, i_355, i_400, i_999, i_1000, i_1200, i_5680, i_9999, i_10000, i_99999, j_0, j_1, j_2, j_3, j_4, j_5, j_6, j_9, j_10, j_11, j_98, j_99, j_100, j_999, j_1000, j_9999, j_10000, j_99999, j_1000000, e, e', pn, p6, hmost, hneed, bx_r, bh_r, hset, at_S, n31]
  · refine ⟨(μ, stI ν 0 0 (I_ 1)), ?_, hA.refuse (N := N) (z := (μ, μ)) (by omega) hB hC hT hR (I_ 1)⟩
    have hset : fX11_set N (I_ p) (I_ w) ν = some (I_ 0, stI ν 0 0 (I_ 1)) := by
      simp (disch := omega) only [fX11_set, fX11_set_53, Int.reduceEq, Int.reduceNe, Int.reduceLT, Int.reduceLE, Int.reduceAdd, Int.reduceSub, Int.reduceMul, Int.reduceNeg, Int.zero_add, Int.add_zero, nm_eq, bd_some, bv_some, aI_ok, aL_ok, aS_ok, dv_ok, dw_ok, I_add, I_sub, I_mul, I_neg, I_lt, I_le, I_eq, I_nat, J_add, J_sub, J_mul, J_neg, J_lt, J_le, J_eq, I_l, J_i, I_div, J_div, b2_0, b2_1, b2_nar, nar_0, nar_1, zr_0, zr_1, zr_b2, cmp_eq, cmp_le, cmp_lt, cmp_gt, cmp_ge, mx_I, mn_I, mx_L, mn_L, az_I, if_true, if_false, not_true_eq_false, not_false_eq_true, Bool.false_eq_true, i_0, i_1, i_2, i_3, i_4, i_5, i_6, i_7, i_8, i_9, i_10, i_11, i_12, i_16, i_18, i_20, i_24, i_28, i_29, i_30, i_31, i_32, i_33, i_34, i_35, i_37, i_40, i_41, i_42, i_43, i_45, i_46, i_47, i_48, i_57, i_59, i_63, i_64, i_96, i_97, i_98, i_99, i_100, i_101, i_102, i_103, i_104, i_105, i_106, i_107, i_108, i_109, i_110, i_111, i_112, i_113, i_122, i_200, i_255, i_256, i_257, i_258, i_355, i_400, i_999, i_1000, i_1200, i_5680, i_9999, i_10000, i_99999, j_0, j_1, j_2, j_3, j_4, j_5, j_6, j_9, j_10, j_11, j_98, j_99, j_100, j_999, j_1000, j_9999, j_10000, j_99999, j_1000000, r_isIn, b2_f hp, at_S]
    by_cases pn : p < 0
    · simp (disch := omega) only [lawC12, fL_set, fX10_set, fX11_thrown, Int.reduceEq, Int.reduceNe, Int.reduceLT, Int.reduceLE, Int.reduceAdd, Int.reduceSub, Int.reduceMul, Int.reduceNeg, Int.zero_add, Int.add_zero, nm_eq, bd_some, bv_some, aI_ok, aL_ok, aS_ok, dv_ok, dw_ok, I_add, I_sub, I_mul, I_neg, I_lt, I_le, I_eq, I_nat, J_add, J_sub, J_mul, J_neg, J_lt, J_le, J_eq, I_l, J_i, I_div, J_div, b2_0, b2_1, b2_nar, nar_0, nar_1, zr_0, zr_1, zr_b2, cmp_eq, cmp_le, cmp_lt, cmp_gt, cmp_ge, mx_I, mn_I, mx_L, mn_L, az_I, if_true, if_false, not_true_eq_false, not_false_eq_true, Bool.false_eq_true, i_0, i_1, i_2, i_3, i_4, i_5, i_6, i_7, i_8, i_9, i_10, i_11, i_12, i_16, i_18, i_20, i_24, i_28, i_29, i_30, i_31, i_32, i_33, i_34, i_35, i_37, i_40, i_41, i_42, i_43, i_45, i_46, i_47, i_48, i_57, i_59, i_63, i_64, i_96, i_97, i_98, i_99, i_100, i_101, i_102, i_103, i_104, i_105, i_106, i_107, i_108, i_109, i_110, i_111, i_112, i_113, i_122, i_200, i_255, i_256, i_257, i_258, i_355, i_400, i_999, i_1000, i_1200, i_5680, i_9999, i_10000, i_99999, j_0, j_1, j_2, j_3, j_4, j_5, j_6, j_9, j_10, j_11, j_98, j_99, j_100, j_999, j_1000, j_9999, j_10000, j_99999, j_1000000, e, e', pn, bh_r, hset, at_S]
    · have p6 : ¬ p < 6 := by omega
      simp (disch := omega) only [lawC12, fL_set, fX10_set, fX11_thrown, Int.reduceEq, Int.reduceNe, Int.reduceLT, Int.reduceLE, Int.reduceAdd, Int.reduceSub, Int.reduceMul, Int.reduceNeg, Int.zero_add, Int.add_zero, nm_eq, bd_some, bv_some, aI_ok, aL_ok, aS_ok, dv_ok, dw_ok, I_add, I_sub, I_mul, I_neg, I_lt, I_le, I_eq, I_nat, J_add, J_sub, J_mul, J_neg, J_lt, J_le, J_eq, I_l, J_i, I_div, J_div, b2_0, b2_1, b2_nar, nar_0, nar_1, zr_0, zr_1, zr_b2, cmp_eq, cmp_le, cmp_lt, cmp_gt, cmp_ge, mx_I, mn_I, mx_L, mn_L, az_I, if_true, if_false, not_true_eq_false, not_false_eq_true, Bool.false_eq_true, i_0, i_1, i_2, i_3, i_4, i_5, i_6, i_7, i_8, i_9, i_10, i_11, i_12, i_16, i_18, i_20, i_24, i_28, i_29, i_30, i_31, i_32, i_33, i_34, i_35, i_37, i_40, i_41, i_42, i_43, i_45, i_46, i_47, i_48, i_57, i_59, i_63, i_64, i_96, i_97, i_98, i_99, i_100, i_101, i_102, i_103, i_104, i_105, i_106, i_107, i_108, i_109, i_110, i_111, i_112, i_113, i_122, i_200, i_255, i_256, i_257, i_258, i_355, i_400, i_999, i_1000, i_1200, i_5680, i_9999, i_10000, i_99999, j_0, j_1, j_2, j_3, j_4, j_5, j_6, j_9, j_10, j_11, j_98, j_99, j_100, j_999, j_1000, j_9999, j_10000, j_99999, j_1000000, e, e', pn, p6, bh_r, hset, at_S]
theorem A13 (hN : 20000 ≤ N) (v : Nat → Int32) (h : Rl μ ν) : ∃ z, lawC13 N v μ ν = some z ∧ Rl z.1 z.2 := by
  obtain ⟨b, Lm, Am, Lf, Af, K, fo, q, G, a, nx, hA, hB, hC, hT, hR⟩ := h
  obtain ⟨hV, hW, hK, hRk⟩ := hA.rq (N := N) (by omega)
  have hn := hV.1
  unfold vN at hn
  have hb := hK.1.1
  obtain ⟨p, e, p0, p1⟩ := I_ex (v 1)
  obtain ⟨Z, _, ez⟩ := z_ex (v 2)
  unfold lawC13
  rw [ez]
  by_cases hp : 0 ≤ p ∧ p < fN (G 0)
  · have hsi := hV.2.2.2.2 p hp.1 (by omega)
    unfold s_si at hsi
    have hzb := b2_in Z
    have hV1 : vB (vset (G 0) 15 p (b2 Z)) := vB_set hV (by decide) (fun y y0 y1 => vS_set hV (by decide) y0 y1) (by decide) (fun w => absurd w (by decide)) (fun _ => hzb) (fun w => absurd w (by decide))
    obtain ⟨μ2, ν1, k1, k2, k3, k4, k5, k6⟩ := A_hi (N := N) hN hA hB hC hT hR (k0 := 15) (z0 := p) (w := b2 Z) (kn := 5) (Or.inl rfl) (Or.inl ⟨rfl, rfl⟩) hp.1 (by show p < 4; omega) hV1 ⟨hsi.1, by omega, fun _ => hsi.2⟩
    refine ⟨(stL μ2 90 0 (J_ (G 0 15 p)), stI ν1 1 (dI 15 p) (I_ (b2 Z))), ?_, k6 _⟩
    have k1' : fX0_keep N (I_ 5) (I_ p) (I_ (G 0 15 p)) (stI μ (b + 27) p.toNat (I_ (b2 Z))) = some ((), μ2) := k1
    have hse : μ.1 (b + 27) p.toNat = I_ (G 0 15 p) := CB_si hK.1 hp.1 (by omega)
    have hsr : ν1.1 1 (24 + p).toNat = I_ (G 0 15 p) := RB_si (RB_of k5) hp.1 (by omega)
    have d15 : (24 + p).toNat = dI 15 p := rfl
    have t0 : (stI ν1 1 (dI 15 p) (I_ (b2 Z))).1 0 0 = I_ 0 := by rw [st_ne (by omega)]; exact k4
    have hset : fX11_silent N (I_ p) (I_ (b2 Z)) ν = some (I_ (G 0 15 p), stI ν1 1 (dI 15 p) (I_ (b2 Z))) := by
      rw [d15] at hsr
      have oc : G 0 15 p = 0 ∨ G 0 15 p = 1 := by omega
      by_cases hz : Z
      · rw [b2_t hz]
        rcases oc with o | o
        · rw [o] at hsr ⊢
          simp (disch := omega) only [fX11_silent, fX11_silent_14, fX11_silent_48, Int.reduceEq, Int.reduceNe, Int.reduceLT, Int.reduceLE, Int.reduceAdd, Int.reduceSub, Int.reduceMul, Int.reduceNeg, Int.zero_add, Int.add_zero, nm_eq, bd_some, bv_some, aI_ok, aL_ok, aS_ok, dv_ok, dw_ok, I_add, I_sub, I_mul, I_neg, I_lt, I_le, I_eq, I_nat, J_add, J_sub, J_mul, J_neg, J_lt, J_le, J_eq, I_l, J_i, I_div, J_div, b2_0, b2_1, b2_nar, nar_0, nar_1, zr_0, zr_1, zr_b2, cmp_eq, cmp_le, cmp_lt, cmp_gt, cmp_ge, mx_I, mn_I, mx_L, mn_L, az_I, if_true, if_false, not_true_eq_false, not_false_eq_true, Bool.false_eq_true, i_0, i_1, i_2, i_3, i_4, i_5, i_6, i_7, i_8, i_9, i_10, i_11, i_12, i_16, i_18, i_20, i_24, i_28, i_29, i_30, i_31, i_32, i_33, i_34, i_35, i_37, i_40, i_41, i_42, i_43, i_45, i_46, i_47, i_48, i_57, i_59, i_63, i_64, i_96, i_97, i_98, i_99, i_100, i_101, i_102, i_103, i_104, i_105, i_106, i_107, i_108, i_109, i_110, i_111, i_112, i_113, i_122, i_200, i_255, i_256, i_257, i_258, i_355, i_400, i_999, i_1000, i_1200, i_5680, i_9999, i_10000, i_99999, j_0, j_1, j_2, j_3, j_4, j_5, j_6, j_9, j_10, j_11, j_98, j_99, j_100, j_999, j_1000, j_9999, j_10000, j_99999, j_1000000, r_isFirm hV hRk.1, b2_t hp, at_S, k3, d15, hsr]
        · rw [o] at hsr ⊢
          simp (disch := omega) only [fX11_silent, fX11_silent_14, fX11_silent_48, Int.reduceEq, Int.reduceNe, Int.reduceLT, Int.reduceLE, Int.reduceAdd, Int.reduceSub, Int.reduceMul, Int.reduceNeg, Int.zero_add, Int.add_zero, nm_eq, bd_some, bv_some, aI_ok, aL_ok, aS_ok, dv_ok, dw_ok, I_add, I_sub, I_mul, I_neg, I_lt, I_le, I_eq, I_nat, J_add, J_sub, J_mul, J_neg, J_lt, J_le, J_eq, I_l, J_i, I_div, J_div, b2_0, b2_1, b2_nar, nar_0, nar_1, zr_0, zr_1, zr_b2, cmp_eq, cmp_le, cmp_lt, cmp_gt, cmp_ge, mx_I, mn_I, mx_L, mn_L, az_I, if_true, if_false, not_true_eq_false, not_false_eq_true, Bool.false_eq_true, i_0, i_1, i_2, i_3, i_4, i_5, i_6, i_7, i_8, i_9, i_10, i_11, i_12, i_16, i_18, i_20, i_24, i_28, i_29, i_30, i_31, i_32, i_33, i_34, i_35, i_37, i_40, i_41, i_42, i_43, i_45, i_46, i_47, i_48, i_57, i_59, i_63, i_64, i_96, i_97, i_98, i_99, i_100, i_101, i_102, i_103, i_104, i_105, i_106, i_107, i_108, i_109, i_110, i_111, i_112, i_113, i_122, i_200, i_255, i_256, i_257, i_258, i_355, i_400, i_999, i_1000, i_1200, i_5680, i_9999, i_10000, i_99999, j_0, j_1, j_2, j_3, j_4, j_5, j_6, j_9, j_10, j_11, j_98, j_99, j_100, j_999, j_1000, j_9999, j_10000, j_99999, j_1000000, r_isFirm hV hRk.1, b2_t hp, at_S, k3, d15, hsr]
      · rw [b2_f hz]
        rcases oc with o | o
        · rw [o] at hsr ⊢
          simp (disch := omega) only [fX11_silent, fX11_silent_14, fX11_silent_48, Int.reduceEq, Int.reduceNe, Int.reduceLT, Int.reduceLE, Int.reduceAdd, Int.reduceSub, Int.reduceMul, Int.reduceNeg, Int.zero_add, Int.add_zero, nm_eq, bd_some, bv_some, aI_ok, aL_ok, aS_ok, dv_ok, dw_ok, I_add, I_sub, I_mul, I_neg, I_lt, I_le, I_eq, I_nat, J_add, J_sub, J_mul, J_neg, J_lt, J_le, J_eq, I_l, J_i, I_div, J_div, b2_0, b2_1, b2_nar, nar_0, nar_1, zr_0, zr_1, zr_b2, cmp_eq, cmp_le, cmp_lt, cmp_gt, cmp_ge, mx_I, mn_I, mx_L, mn_L, az_I, if_true, if_false, not_true_eq_false, not_false_eq_true, Bool.false_eq_true, i_0, i_1, i_2, i_3, i_4, i_5, i_6, i_7, i_8, i_9, i_10, i_11, i_12, i_16, i_18, i_20, i_24, i_28, i_29, i_30, i_31, i_32, i_33, i_34, i_35, i_37, i_40, i_41, i_42, i_43, i_45, i_46, i_47, i_48, i_57, i_59, i_63, i_64, i_96, i_97, i_98, i_99, i_100, i_101, i_102, i_103, i_104, i_105, i_106, i_107, i_108, i_109, i_110, i_111, i_112, i_113, i_122, i_200, i_255, i_256, i_257, i_258, i_355, i_400, i_999, i_1000, i_1200, i_5680, i_9999, i_10000, i_99999, j_0, j_1, j_2, j_3, j_4, j_5, j_6, j_9, j_10, j_11, j_98, j_99, j_100, j_999, j_1000, j_9999, j_10000, j_99999, j_1000000, r_isFirm hV hRk.1, b2_t hp, at_S, k3, d15, hsr]
        · rw [o] at hsr ⊢
          simp (disch := omega) only [fX11_silent, fX11_silent_14, fX11_silent_48, Int.reduceEq, Int.reduceNe, Int.reduceLT, Int.reduceLE, Int.reduceAdd, Int.reduceSub, Int.reduceMul, Int.reduceNeg, Int.zero_add, Int.add_zero, nm_eq, bd_some, bv_some, aI_ok, aL_ok, aS_ok, dv_ok, dw_ok, I_add, I_sub, I_mul, I_neg, I_lt, I_le, I_eq, I_nat, J_add, J_sub, J_mul, J_neg, J_lt, J_le, J_eq, I_l, J_i, I_div, J_div, b2_0, b2_1, b2_nar, nar_0, nar_1, zr_0, zr_1, zr_b2, cmp_eq, cmp_le, cmp_lt, cmp_gt, cmp_ge, mx_I, mn_I, mx_L, mn_L, az_I, if_true, if_false, not_true_eq_false, not_false_eq_true, Bool.false_eq_true, i_0, i_1, i_2, i_3, i_4, i_5, i_6, i_7, i_8, i_9, i_10, i_11, i_12, i_16, i_18, i_20, i_24, i_28, i_29, i_30, i_31, i_32, i_33, i_34, i_35, i_37, i_40, i_41, i_42, i_43, i_45, i_46, i_47, i_48, i_57, i_59, i_63, i_64, i_96, i_97, i_98, i_99, i_100, i_101, i_102, i_103, i_104, i_105, i_106, i_107, i_108, i_109, i_110, i_111, i_112, i_113, i_122, i_200, i_255, i_256, i_257, i_258, i_355, i_400, i_999, i_1000, i_1200, i_5680, i_9999, i_10000, i_99999, j_0, j_1, j_2, j_3, j_4, j_5, j_6, j_9, j_10, j_11, j_98, j_99, j_100, j_999, j_1000, j_9999, j_10000, j_99999, j_1000000, r_isFirm hV hRk.1, b2_t hp, at_S, k3, d15, hsr]
    have oc : G 0 15 p = 0 ∨ G 0 15 p = 1 := by omega
    rcases oc with o | o
    · rw [o] at k1' hse hset ⊢
      simp (disch := omega) only [fL_silent, fX10_silent, fX11_thrown, Int.reduceEq, Int.reduceNe, Int.reduceLT, Int.reduceLE, Int.reduceAdd, Int.reduceSub, Int.reduceMul, Int.reduceNeg, Int.zero_add, Int.add_zero, nm_eq, bd_some, bv_some, aI_ok, aL_ok, aS_ok, dv_ok, dw_ok, I_add, I_sub, I_mul, I_neg, I_lt, I_le, I_eq, I_nat, J_add, J_sub, J_mul, J_neg, J_lt, J_le, J_eq, I_l, J_i, I_div, J_div, b2_0, b2_1, b2_nar, nar_0, nar_1, zr_0, zr_1, zr_b2, cmp_eq, cmp_le, cmp_lt, cmp_gt, cmp_ge, mx_I, mn_I, mx_L, mn_L, az_I, if_true, if_false, not_true_eq_false, not_false_eq_true, Bool.false_eq_true, i_0, i_1, i_2, i_3, i_4, i_5, i_6, i_7, i_8, i_9, i_10, i_11, i_12, i_16, i_18, i_20, i_24, i_28, i_29, i_30, i_31, i_32, i_33, i_34, i_35, i_37, i_40, i_41, i_42, i_43, i_45, i_46, i_47, i_48, i_57, i_59, i_63, i_64, i_96, i_97, i_98, i_99, i_100, i_101, i_102, i_103, i_104, i_105, i_106, i_107, i_108, i_109, i_110, i_111, i_112, i_113, i_122, i_200, i_255, i_256, i_257, i_258, i_355, i_400, i_999, i_1000, i_1200, i_5680, i_9999, i_10000, i_99999, j_0, j_1, j_2, j_3, j_4, j_5, j_6, j_9, j_10, j_11, j_98, j_99, j_100, j_999, j_1000, j_9999, j_10000, j_99999, j_1000000, e, c_needF_y hV hK hp.1 hp.2, bx_l, bh_l, hK.2, gB_k hK.1.1, hse, k1', hset, t0, n_0, at_SL, cmp_self]
    · rw [o] at k1' hse hset ⊢
      simp (disch := omega) only [fL_silent, fX10_silent, fX11_thrown, Int.reduceEq, Int.reduceNe, Int.reduceLT, Int.reduceLE, Int.reduceAdd, Int.reduceSub, Int.reduceMul, Int.reduceNeg, Int.zero_add, Int.add_zero, nm_eq, bd_some, bv_some, aI_ok, aL_ok, aS_ok, dv_ok, dw_ok, I_add, I_sub, I_mul, I_neg, I_lt, I_le, I_eq, I_nat, J_add, J_sub, J_mul, J_neg, J_lt, J_le, J_eq, I_l, J_i, I_div, J_div, b2_0, b2_1, b2_nar, nar_0, nar_1, zr_0, zr_1, zr_b2, cmp_eq, cmp_le, cmp_lt, cmp_gt, cmp_ge, mx_I, mn_I, mx_L, mn_L, az_I, if_true, if_false, not_true_eq_false, not_false_eq_true, Bool.false_eq_true, i_0, i_1, i_2, i_3, i_4, i_5, i_6, i_7, i_8, i_9, i_10, i_11, i_12, i_16, i_18, i_20, i_24, i_28, i_29, i_30, i_31, i_32, i_33, i_34, i_35, i_37, i_40, i_41, i_42, i_43, i_45, i_46, i_47, i_48, i_57, i_59, i_63, i_64, i_96, i_97, i_98, i_99, i_100, i_101, i_102, i_103, i_104, i_105, i_106, i_107, i_108, i_109, i_110, i_111, i_112, i_113, i_122, i_200, i_255, i_256, i_257, i_258, i_355, i_400, i_999, i_1000, i_1200, i_5680, i_9999, i_10000, i_99999, j_0, j_1, j_2, j_3, j_4, j_5, j_6, j_9, j_10, j_11, j_98, j_99, j_100, j_999, j_1000, j_9999, j_10000, j_99999, j_1000000, e, c_needF_y hV hK hp.1 hp.2, bx_l, bh_l, hK.2, gB_k hK.1.1, hse, k1', hset, t0, n_0, at_SL, cmp_self]
  · refine ⟨(μ, stI ν 0 0 (I_ 1)), ?_, hA.refuse (N := N) (z := (μ, μ)) (by omega) hB hC hT hR (I_ 1)⟩
    simp (disch := omega) only [fL_silent, fX10_silent, fX11_silent, fX11_silent_14, fX11_thrown, Int.reduceEq, Int.reduceNe, Int.reduceLT, Int.reduceLE, Int.reduceAdd, Int.reduceSub, Int.reduceMul, Int.reduceNeg, Int.zero_add, Int.add_zero, nm_eq, bd_some, bv_some, aI_ok, aL_ok, aS_ok, dv_ok, dw_ok, I_add, I_sub, I_mul, I_neg, I_lt, I_le, I_eq, I_nat, J_add, J_sub, J_mul, J_neg, J_lt, J_le, J_eq, I_l, J_i, I_div, J_div, b2_0, b2_1, b2_nar, nar_0, nar_1, zr_0, zr_1, zr_b2, cmp_eq, cmp_le, cmp_lt, cmp_gt, cmp_ge, mx_I, mn_I, mx_L, mn_L, az_I, if_true, if_false, not_true_eq_false, not_false_eq_true, Bool.false_eq_true, i_0, i_1, i_2, i_3, i_4, i_5, i_6, i_7, i_8, i_9, i_10, i_11, i_12, i_16, i_18, i_20, i_24, i_28, i_29, i_30, i_31, i_32, i_33, i_34, i_35, i_37, i_40, i_41, i_42, i_43, i_45, i_46, i_47, i_48, i_57, i_59, i_63, i_64, i_96, i_97, i_98, i_99, i_100, i_101, i_102, i_103, i_104, i_105, i_106, i_107, i_108, i_109, i_110, i_111, i_112, i_113, i_122, i_200, i_255, i_256, i_257, i_258, i_355, i_400, i_999, i_1000, i_1200, i_5680, i_9999, i_10000, i_99999, j_0, j_1, j_2, j_3, j_4, j_5, j_6, j_9, j_10, j_11, j_98, j_99, j_100, j_999, j_1000, j_9999, j_10000, j_99999, j_1000000, e, c_needF_n hV hK p0 p1 hp, bx_r, bh_r, r_isFirm hV hRk.1, b2_f hp, at_S]
end
