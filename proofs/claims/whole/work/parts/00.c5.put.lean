/-! put, undo. -/
section
variable {N : Nat} {μ ν : Mem}
theorem A8 (hN : 20000 ≤ N) (v : Nat → Int32) (h : Rl μ ν) : ∃ z, lawC8 N v μ ν = some z ∧ Rl z.1 z.2 := by
  obtain ⟨b, Lm, Am, Lf, Af, K, fo, q, G, a, nx, hA, hB, hC, hT, hR⟩ := h
  obtain ⟨hV, hW, hK, hRk⟩ := hA.rq (N := N) (by omega)
  have hn := hV.1
  unfold vN at hn
  have hb := hK.1.1
  obtain ⟨x1, e1, x10, x11⟩ := I_ex (v 1)
  obtain ⟨x2, e2, x20, x21⟩ := I_ex (v 2)
  obtain ⟨x3, e3, x30, x31⟩ := I_ex (v 3)
  obtain ⟨x4, e4, x40, x41⟩ := I_ex (v 4)
  obtain ⟨x5, e5, x50, x51⟩ := I_ex (v 5)
  obtain ⟨x6, e6, x60, x61⟩ := I_ex (v 6)
  obtain ⟨x7, e7, x70, x71⟩ := I_ex (v 7)
  have r0 : RB (G 0) (stI ν 0 0 (I_ 0)) := (hRk.thr (I_ 0)).1
  have fin : ∀ (cx : Nat) (k : Int), (k = 1 ∨ k = 2 ∨ k = 3) → ((cx = 0 ∧ k = 1) ∨ (cx = 1 ∧ k = 2) ∨ (cx = 2 ∧ k = 3)) → fX10_put N (v 1) (v 2) (v 3) (v 4) (v 5) (v 6) (v 7) μ = some (.inr cx, μ) → fX11_put N (v 1) (v 2) (v 3) (v 4) (v 5) (v 6) (v 7) ν = some (I_ 0, stI ν 0 0 (I_ k)) → ∃ z, lawC8 N v μ ν = some z ∧ Rl z.1 z.2 := fun cx k hk hcx hc hr => by
    refine ⟨(μ, stI ν 0 0 (I_ k)), ?_, hA.refuse (N := N) (z := (μ, μ)) (by omega) hB hC hT hR (I_ k)⟩
    rcases hcx with ⟨y, z⟩ | ⟨y, z⟩ | ⟨y, z⟩ <;> subst y <;> subst z
    · simp (disch := omega) only [lawC8, fL_put, fX11_thrown, Int.reduceEq, Int.reduceNe, Int.reduceLT, Int.reduceLE, Int.reduceAdd, Int.reduceSub, Int.reduceMul, Int.reduceNeg, Int.zero_add, Int.add_zero, nm_eq, bd_some, bv_some, aI_ok, aL_ok, aS_ok, dv_ok, dw_ok, I_add, I_sub, I_mul, I_neg, I_lt, I_le, I_eq, I_nat, J_add, J_sub, J_mul, J_neg, J_lt, J_le, J_eq, I_l, J_i, I_div, J_div, b2_0, b2_1, b2_nar, nar_0, nar_1, zr_0, zr_1, zr_b2, cmp_eq, cmp_le, cmp_lt, cmp_gt, cmp_ge, mx_I, mn_I, mx_L, mn_L, az_I, if_true, if_false, not_true_eq_false, not_false_eq_true, Bool.false_eq_true, i_0, i_1, i_2, i_3, i_4, i_5, i_6, i_7, i_8, i_9, i_10, i_11, i_12, i_16, i_18, i_20, i_24, i_28, i_29, i_30, i_31, i_32, i_33, i_34, i_35, i_37, i_40, i_41, i_42, i_43, i_45, i_46, i_47, i_48, i_57, i_59, i_63, i_64, i_96, i_97, i_98, i_99, i_100, i_101, i_102, i_103, i_104, i_105, i_106, i_107, i_108, i_109, i_110, i_111, i_112, i_113, i_122, i_200, i_255, i_256, i_257, i_258, i_355, i_400, i_999, i_1000, i_1200, i_5680, i_9999, i_10000, i_99999, j_0, j_1, j_2, j_3, j_4, j_5, j_6, j_9, j_10, j_11, j_98, j_99, j_100, j_999, j_1000, j_9999, j_10000, j_99999, j_1000000, hc, hr, bh_r, at_S]
    · simp (disch := omega) only [lawC8, fL_put, fX11_thrown, Int.reduceEq, Int.reduceNe, Int.reduceLT, Int.reduceLE, Int.reduceAdd, Int.reduceSub, Int.reduceMul, Int.reduceNeg, Int.zero_add, Int.add_zero, nm_eq, bd_some, bv_some, aI_ok, aL_ok, aS_ok, dv_ok, dw_ok, I_add, I_sub, I_mul, I_neg, I_lt, I_le, I_eq, I_nat, J_add, J_sub, J_mul, J_neg, J_lt, J_le, J_eq, I_l, J_i, I_div, J_div, b2_0, b2_1, b2_nar, nar_0, nar_1, zr_0, zr_1, zr_b2, cmp_eq, cmp_le, cmp_lt, cmp_gt, cmp_ge, mx_I, mn_I, mx_L, mn_L, az_I, if_true, if_false, not_true_eq_false, not_false_eq_true, Bool.false_eq_true, i_0, i_1, i_2, i_3, i_4, i_5, i_6, i_7, i_8, i_9, i_10, i_11, i_12, i_16, i_18, i_20, i_24, i_28, i_29, i_30, i_31, i_32, i_33, i_34, i_35, i_37, i_40, i_41, i_42, i_43, i_45, i_46, i_47, i_48, i_57, i_59, i_63, i_64, i_96, i_97, i_98, i_99, i_100, i_101, i_102, i_103, i_104, i_105, i_106, i_107, i_108, i_109, i_110, i_111, i_112, i_113, i_122, i_200, i_255, i_256, i_257, i_258, i_355, i_400, i_999, i_1000, i_1200, i_5680, i_9999, i_10000, i_99999, j_0, j_1, j_2, j_3, j_4, j_5, j_6, j_9, j_10, j_11, j_98, j_99, j_100, j_999, j_1000, j_9999, j_10000, j_99999, j_1000000, hc, hr, bh_r, at_S, Nat.one_ne_zero]
    · have n20 : ¬ (2 : Nat) = 0 := by decide
      have n21 : ¬ (2 : Nat) = 1 := by decide
      simp (disch := omega) only [lawC8, fL_put, fX11_thrown, Int.reduceEq, Int.reduceNe, Int.reduceLT, Int.reduceLE, Int.reduceAdd, Int.reduceSub, Int.reduceMul, Int.reduceNeg, Int.zero_add, Int.add_zero, nm_eq, bd_some, bv_some, aI_ok, aL_ok, aS_ok, dv_ok, dw_ok, I_add, I_sub, I_mul, I_neg, I_lt, I_le, I_eq, I_nat, J_add, J_sub, J_mul, J_neg, J_lt, J_le, J_eq, I_l, J_i, I_div, J_div, b2_0, b2_1, b2_nar, nar_0, nar_1, zr_0, zr_1, zr_b2, cmp_eq, cmp_le, cmp_lt, cmp_gt, cmp_ge, mx_I, mn_I, mx_L, mn_L, az_I, if_true, if_false, not_true_eq_false, not_false_eq_true, Bool.false_eq_true, i_0, i_1, i_2, i_3, i_4, i_5, i_6, i_7, i_8, i_9, i_10, i_11, i_12, i_16, i_18, i_20, i_24, i_28, i_29, i_30, i_31, i_32, i_33, i_34, i_35, i_37, i_40, i_41, i_42, i_43, i_45, i_46, i_47, i_48, i_57, i_59, i_63, i_64, i_96, i_97, i_98, i_99, i_100, i_101, i_102, i_103, i_104, i_105, i_106, i_107, i_108, i_109, i_110, i_111, i_112, i_113, i_122, i_200, i_255, i_256, i_257, i_258, i_355, i_400, i_999, i_1000, i_1200, i_5680, i_9999, i_10000, i_99999, j_0, j_1, j_2, j_3, j_4, j_5, j_6, j_9, j_10, j_11, j_98, j_99, j_100, j_999, j_1000, j_9999, j_10000, j_99999, j_1000000, hc, hr, bh_r, at_S, n20, n21]
  rw [e1, e2, e3, e4, e5, e6, e7] at fin
  by_cases h2 : 0 ≤ x2 ∧ x2 < fN (G 0)
  · by_cases h3 : 0 ≤ x3 ∧ x3 < mN (G 0)
    · by_cases h1 : 0 ≤ x1 ∧ x1 ≤ 2
      · by_cases h4 : 0 ≤ x4 ∧ x4 ≤ 3
        · by_cases h5 : 0 ≤ x5 ∧ x5 ≤ 11
          · by_cases h6 : 1 ≤ x6 ∧ x6 ≤ 999
            · by_cases h7 : 1 ≤ x7 ∧ x7 ≤ 9999
              · by_cases h40 : sN (G 0) < 40
                · have hG := hA.1.2.2.2
                  have hV0 : vB (vSa (G 0) (rSale x1 x2 x3 x4 x5 x6 x7)) := vB_sa hV h40 h1 h2 h3 h4 h5 h6 h7 (by show (-1000000 : Int) ≤ 0 ∧ (0 : Int) ≤ 1000000; omega) (by show (0 : Int) ≤ 0 ∧ (0 : Int) ≤ 99999; omega) (by show (0 : Int) ≤ 1 ∧ (1 : Int) ≤ 1; omega)
                  have hV1 := vB_W hV0 hG
                  have hE1 : vE K (vW K (vSa (G 0) (rSale x1 x2 x3 x4 x5 x6 x7))) := vE_W
                  obtain ⟨ν1, r1, r2, r3, r4, r5, r6⟩ := r_rem0 (N := N) hN hA hB (vW K (vSa (G 0) (rSale x1 x2 x3 x4 x5 x6 x7)))
                  obtain ⟨μ1, a1, a2, a3, a4⟩ := c_addS (N := N) (x1 := x1) (x2 := x2) (x3 := x3) (x4 := x4) (x5 := x5) (x6 := x6) (x7 := x7) hb (by omega) h40 hA.2.2.2.2.1.2.1
                  have hPC0 : PC b (vSa (G 0) (rSale x1 x2 x3 x4 x5 x6 x7)) Lm Am Lf Af K fo q μ1 := by
                    obtain ⟨y1, y2, y3, y4, y5⟩ := hA.2.2.2.2.1
                    refine ⟨?_, ?_, ?_, ?_, ?_⟩
                    · rw [vSa_s, vSa_m]
                      exact (y1.row (by omega) a2 (fun k j a c d => (a4 k j (by unfold P_ad; omega)).1)).cong (fun k z a _ _ => by unfold vSa; exact vset_ne (by unfold okk at a; omega))
                    · rw [vSa_s]; exact a3
                    · rw [vSa_m]; exact y3.F a4 (fun k j q => by unfold P_ad at q; omega)
                    · rw [vSa_f]; exact y4.F a4 (fun k j q => by unfold P_ad at q; omega)
                    · exact y5.fr (fun k j a c => (a4 k j (by unfold P_ad; omega)).1)
                  have hPC1 := hPC0.ag (AG_W (K := K))
                  obtain ⟨μ2, b1, b2', b3, b4⟩ := c_work (N := N) (z := sN (G 0)) hb (by omega) hV1 hG hA.2.2.1.2 hPC1 (by omega) (by rw [vW_s, vSa_s]; omega)
                  have hPC2 := hPC1.wo hb (μ' := μ2) (fun k j _ _ c1 c2 c3 => (b4 k j (by unfold P_wo; omega)).1)
                  have g12 : Fr (P_ac b) μ μ2 := (a4.mono (fun k j w => ac_du (by unfold P_ad at w; omega))).tr (b4.mono (fun k j w => ac_du (by unfold P_wo at w; omega)))
                  have hRG2 := hB.1.fr (μ' := μ2) (fun k j hk => by rw [(b4 k j (by unfold P_wo; rcases hb with e | e <;> omega)).1, (a4 k j (by unfold P_ad; rcases hb with e | e <;> omega)).1])
                  obtain ⟨μ3, k1, k2, k3⟩ := c_keep (N := N) (V1 := vW K (vSa (G 0) (rSale x1 x2 x3 x4 x5 x6 x7))) (kn := 0) (pl := sN (G 0)) (ol := 0) hRG2 ⟨by
                    refine ⟨?_, ?_, ?_, fun k z hk z0 z1 => ?_⟩
                    · show sN (G 0) = vset (vW K (vSa (G 0) (rSale x1 x2 x3 x4 x5 x6 x7))) 0 0 (sN (G 0)) 0 0
                      rw [vset_at, if_pos rfl]
                    · show mN (G 0) = vset (vW K (vSa (G 0) (rSale x1 x2 x3 x4 x5 x6 x7))) 0 0 (sN (G 0)) 0 1
                      rw [vset_at, if_neg (by decide)]
                      exact (vW_m.trans vSa_m).symm
                    · show fN (G 0) = vset (vW K (vSa (G 0) (rSale x1 x2 x3 x4 x5 x6 x7))) 0 0 (sN (G 0)) 0 2
                      rw [vset_at, if_neg (by decide)]
                      exact (vW_f.trans vSa_f).symm
                    · have z1' : z < szv (sN (G 0)) (mN (G 0)) k := by
                        have s0 : sN (un 0 (sN (G 0)) 0 (vW K (vSa (G 0) (rSale x1 x2 x3 x4 x5 x6 x7)))) = sN (G 0) := by
                          show vset (vW K (vSa (G 0) (rSale x1 x2 x3 x4 x5 x6 x7))) 0 0 (sN (G 0)) 0 0 = _
                          rw [vset_at, if_pos rfl]
                        have m0 : mN (un 0 (sN (G 0)) 0 (vW K (vSa (G 0) (rSale x1 x2 x3 x4 x5 x6 x7)))) = mN (G 0) := by
                          show vset (vW K (vSa (G 0) (rSale x1 x2 x3 x4 x5 x6 x7))) 0 0 (sN (G 0)) 0 1 = _
                          rw [vset_at, if_neg (by decide)]
                          exact vW_m.trans vSa_m
                        rw [s0, m0] at z1
                        exact z1
                      show G 0 k z = vset (vW K (vSa (G 0) (rSale x1 x2 x3 x4 x5 x6 x7))) 0 0 (sN (G 0)) k z
                      have hk' := hk
                      unfold okk at hk'
                      rw [vset_ne (by omega), vW_ok k z hk, vSa_k (by omega) (fun w => by rw [szv_s (by omega)] at z1'; omega)], by omega, by omega, fun _ => by rw [vW_s, vSa_s]; omega, fun w => by omega, fun w => by omega, fun w => by omega, by omega, fun w => by omega⟩
                  have gk : ∀ k j, b ≤ k → k ≤ b + 28 → μ3.1 k j = μ2.1 k j := fun k j c d => (k3 k j (by rcases hb with e | e <;> omega)).1
                  have h34 : ν1.1 1 (34 : Int).toNat = I_ (sN (G 0)) := r5.2.1
                  have gr : Fr (fun k _ => k = 1) ν1 (rwM 1 (sN (G 0)) x1 x2 x3 x4 x5 x6 x7 ν1) := rwM_F
                  have hPE0 : PE (vSa (G 0) (rSale x1 x2 x3 x4 x5 x6 x7)) Lm Am Lf Af K (rwM 1 (sN (G 0)) x1 x2 x3 x4 x5 x6 x7 ν1) := by
                    obtain ⟨y1, y2, y3, y4, y5⟩ := r5
                    refine ⟨?_, ?_, ?_, ?_, fun k k0 k2 => ?_⟩
                    · rw [vSa_s, vSa_m]
                      have hw8 := y1.fr (g' := ν1.1 1) (h' := (rwM 1 (sN (G 0)) x1 x2 x3 x4 x5 x6 x7 ν1).1 6) (by omega) (fun _ _ _ => rfl) (fun j => (gr 6 j (by omega)).1)
                      exact (hw8.row (by omega) h40 (fun k a e => rwM_r (by omega) a e) (fun j a c _ => rwM_o (by omega) a c)).cong (fun k z a _ _ => by unfold vSa; exact vset_ne (by unfold okk at a; omega))
                    · rw [vSa_s]; exact rwM_34
                    · rw [vSa_m]; exact y3.F gr (fun k j q => by omega)
                    · rw [vSa_f]; exact y4.F gr (fun k j q => by omega)
                    · obtain ⟨u1, u2⟩ := y5 k k0 k2
                      exact ⟨by rw [(gr 9 _ (by omega)).1]; exact u1, rsq_fr _ _ (by omega) (fun j _ _ => ⟨(gr 7 j (by omega)).1, (gr 8 j (by omega)).1⟩) u2⟩
                  refine ⟨(stL μ3 90 0 (J_ (sN (G 0))), rwM 1 (sN (G 0)) x1 x2 x3 x4 x5 x6 x7 ν1), ?_, ?_⟩
                  · have hc : fX10_put N (I_ x1) (I_ x2) (I_ x3) (I_ x4) (I_ x5) (I_ x6) (I_ x7) μ = some (.inl (I_ (sN (G 0))), μ3) := by
                      have h06a : μ1.2.2 0 6 = b := by rw [(a4 0 6 (by unfold P_ad; omega)).2.2]; exact hK.2
                      have hsn : μ.1 (b + 12) 10 = I_ (sN (G 0)) := hA.2.2.2.2.1.2.1
                      simp (disch := omega) only [fX10_put, Int.reduceEq, Int.reduceNe, Int.reduceLT, Int.reduceLE, Int.reduceAdd, Int.reduceSub, Int.reduceMul, Int.reduceNeg, Int.zero_add, Int.add_zero, nm_eq, bd_some, bv_some, aI_ok, aL_ok, aS_ok, dv_ok, dw_ok, I_add, I_sub, I_mul, I_neg, I_lt, I_le, I_eq, I_nat, J_add, J_sub, J_mul, J_neg, J_lt, J_le, J_eq, I_l, J_i, I_div, J_div, b2_0, b2_1, b2_nar, nar_0, nar_1, zr_0, zr_1, zr_b2, cmp_eq, cmp_le, cmp_lt, cmp_gt, cmp_ge, mx_I, mn_I, mx_L, mn_L, az_I, if_true, if_false, not_true_eq_false, not_false_eq_true, Bool.false_eq_true, i_0, i_1, i_2, i_3, i_4, i_5, i_6, i_7, i_8, i_9, i_10, i_11, i_12, i_16, i_18, i_20, i_24, i_28, i_29, i_30, i_31, i_32, i_33, i_34, i_35, i_37, i_40, i_41, i_42, i_43, i_45, i_46, i_47, i_48, i_57, i_59, i_63, i_64, i_96, i_97, i_98, i_99, i_100, i_101, i_102, i_103, i_104, i_105, i_106, i_107, i_108, i_109, i_110, i_111, i_112, i_113, i_122, i_200, i_255, i_256, i_257, i_258, i_355, i_400, i_999, i_1000, i_1200, i_5680, i_9999, i_10000, i_99999, j_0, j_1, j_2, j_3, j_4, j_5, j_6, j_9, j_10, j_11, j_98, j_99, j_100, j_999, j_1000, j_9999, j_10000, j_99999, j_1000000, c_needF_y hV hK h2.1 h2.2, c_needM_y hV hK h3.1 h3.2, c_needW_y, h1.1, h1.2, h4.1, h4.2, h5.1, h5.2, h6.1, h6.2, h7.1, h7.2, bx_l, hK.2, gB_k hK.1.1, hsn, h40, a1, h06a, b1, k1]
                    have hr : fX11_put N (I_ x1) (I_ x2) (I_ x3) (I_ x4) (I_ x5) (I_ x6) (I_ x7) ν = some (I_ (sN (G 0)), rwM 1 (sN (G 0)) x1 x2 x3 x4 x5 x6 x7 ν1) := by
                      have n40 : ¬ sN (G 0) = 40 := by omega
                      have e8 : 35 + 8 * sN (G 0) + 0 = 35 + 8 * sN (G 0) := by omega
                      have st34 : ∀ {ν : Mem} {j : Int} {v : Int32}, 35 ≤ j → (stI ν 1 j.toNat v).1 1 (34 : Int).toNat = ν.1 1 (34 : Int).toNat := fun h => by rw [st_I, if_neg (by omega)]
                      have h34z : (stI ν 0 0 (I_ 0)).1 1 (34 : Int).toNat = I_ (sN (G 0)) := RB_n r0
                      have e1 : sN (G 0) + 1 - 1 = sN (G 0) := by omega
                      unfold rwM
                      simp (disch := omega) only [fX11_put, Int.reduceEq, Int.reduceNe, Int.reduceLT, Int.reduceLE, Int.reduceAdd, Int.reduceSub, Int.reduceMul, Int.reduceNeg, Int.zero_add, Int.add_zero, nm_eq, bd_some, bv_some, aI_ok, aL_ok, aS_ok, dv_ok, dw_ok, I_add, I_sub, I_mul, I_neg, I_lt, I_le, I_eq, I_nat, J_add, J_sub, J_mul, J_neg, J_lt, J_le, J_eq, I_l, J_i, I_div, J_div, b2_0, b2_1, b2_nar, nar_0, nar_1, zr_0, zr_1, zr_b2, cmp_eq, cmp_le, cmp_lt, cmp_gt, cmp_ge, mx_I, mn_I, mx_L, mn_L, az_I, if_true, if_false, not_true_eq_false, not_false_eq_true, Bool.false_eq_true, i_0, i_1, i_2, i_3, i_4, i_5, i_6, i_7, i_8, i_9, i_10, i_11, i_12, i_16, i_18, i_20, i_24, i_28, i_29, i_30, i_31, i_32, i_33, i_34, i_35, i_37, i_40, i_41, i_42, i_43, i_45, i_46, i_47, i_48, i_57, i_59, i_63, i_64, i_96, i_97, i_98, i_99, i_100, i_101, i_102, i_103, i_104, i_105, i_106, i_107, i_108, i_109, i_110, i_111, i_112, i_113, i_122, i_200, i_255, i_256, i_257, i_258, i_355, i_400, i_999, i_1000, i_1200, i_5680, i_9999, i_10000, i_99999, j_0, j_1, j_2, j_3, j_4, j_5, j_6, j_9, j_10, j_11, j_98, j_99, j_100, j_999, j_1000, j_9999, j_10000, j_99999, j_1000000, r_isFirm hV r0, b2_t h2, r_isModel hV r0, b2_t h3, r_isIn, b2_t h1, b2_t h4, b2_t h5, b2_t h6, b2_t h7, h34z, n40, r1, h34, e8, st34, at_S, e1]
                    rw [← e1, ← e2, ← e3, ← e4, ← e5, ← e6, ← e7] at hc hr
                    have t0 : (rwM 1 (sN (G 0)) (x1) x2 x3 x4 x5 x6 x7 ν1).1 0 0 = I_ 0 := by rw [(gr 0 0 (by omega)).1]; exact r4
                    simp (disch := omega) only [lawC8, fL_put, fX11_thrown, Int.reduceEq, Int.reduceNe, Int.reduceLT, Int.reduceLE, Int.reduceAdd, Int.reduceSub, Int.reduceMul, Int.reduceNeg, Int.zero_add, Int.add_zero, nm_eq, bd_some, bv_some, aI_ok, aL_ok, aS_ok, dv_ok, dw_ok, I_add, I_sub, I_mul, I_neg, I_lt, I_le, I_eq, I_nat, J_add, J_sub, J_mul, J_neg, J_lt, J_le, J_eq, I_l, J_i, I_div, J_div, b2_0, b2_1, b2_nar, nar_0, nar_1, zr_0, zr_1, zr_b2, cmp_eq, cmp_le, cmp_lt, cmp_gt, cmp_ge, mx_I, mn_I, mx_L, mn_L, az_I, if_true, if_false, not_true_eq_false, not_false_eq_true, Bool.false_eq_true, i_0, i_1, i_2, i_3, i_4, i_5, i_6, i_7, i_8, i_9, i_10, i_11, i_12, i_16, i_18, i_20, i_24, i_28, i_29, i_30, i_31, i_32, i_33, i_34, i_35, i_37, i_40, i_41, i_42, i_43, i_45, i_46, i_47, i_48, i_57, i_59, i_63, i_64, i_96, i_97, i_98, i_99, i_100, i_101, i_102, i_103, i_104, i_105, i_106, i_107, i_108, i_109, i_110, i_111, i_112, i_113, i_122, i_200, i_255, i_256, i_257, i_258, i_355, i_400, i_999, i_1000, i_1200, i_5680, i_9999, i_10000, i_99999, j_0, j_1, j_2, j_3, j_4, j_5, j_6, j_9, j_10, j_11, j_98, j_99, j_100, j_999, j_1000, j_9999, j_10000, j_99999, j_1000000, hc, hr, bh_l, t0, n_0, at_SL, cmp_self]
                  · refine Rl_a (G := G) (G' := gSh (vW K (vSa (G 0) (rSale x1 x2 x3 x4 x5 x6 x7))) G) hA hC hT hR ?_ ?_ hV1 hE1 (vW_m.trans vSa_m) (vW_f.trans vSa_f) (hPC2.fr gk) ?_ (hPE0.ag AG_W) ?_ (FB_new hB hV1 hE1 k2 (r2.fr (fun k j hk => (gr k j (by omega)).1)))
                    · exact (g12.tr (k3.mono (fun k j w => ac_kp w))).stL (Or.inr (Or.inr (Or.inr ⟨rfl, rfl⟩)))
                    · exact r6.tr (gr.mono (fun k j w => Or.inl w))
                    · intro y y0 y1
                      have he := hE1 y y0 y1
                      show μ3.1 (b + 20) y.toNat = I_ (s_of (vW K (vSa (G 0) (rSale x1 x2 x3 x4 x5 x6 x7))) y) ∧ μ3.1 (b + 21) y.toNat = I_ (s_nt (vW K (vSa (G 0) (rSale x1 x2 x3 x4 x5 x6 x7))) y)
                      rw [gk _ _ (by omega) (by omega), gk _ _ (by omega) (by omega), he.1, he.2]
                      by_cases e : y = sN (G 0)
                      · rw [e]; exact ⟨b2', b3⟩
                      · have y1' : y < sN (G 0) + 1 := by
                          have : sN (gSh (vW K (vSa (G 0) (rSale x1 x2 x3 x4 x5 x6 x7))) G 0) = sN (G 0) + 1 := vW_s.trans vSa_s
                          omega
                        rw [(b4 _ _ (by unfold P_wo; omega)).1, (b4 _ _ (by unfold P_wo; omega)).1, (a4 _ _ (by unfold P_ad; omega)).1, (a4 _ _ (by unfold P_ad; omega)).1]
                        obtain ⟨s1, s2, s3, s4, s5, s6, s7, s8, s9⟩ := sale_in hV y0 (show y < sN (G 0) by omega)
                        have ec := offz_ag (K := K) (z := y) (V1 := vW K (vSa (G 0) (rSale x1 x2 x3 x4 x5 x6 x7))) (U := G 0) (fun k c d => by rw [vW_ok k y (ok_ c (by omega) (by omega) (by omega)), vSa_k (by omega) (fun w => e w.2)]) (by show vW K _ 14 _ = _; rw [vW_ok 14 _ (ok_ (by omega) (by omega) (by omega) (by omega)), vSa_k (by decide) (fun w => by omega)]; rfl) (by show vW K _ 11 _ = _; rw [vW_ok 11 _ (ok_ (by omega) (by omega) (by omega) (by omega)), vSa_k (by decide) (fun w => by omega)]; rfl)
                        have := hA.2.2.2.2.2.1 y y0 (by omega)
                        rw [(hA.2.1 y y0 (by omega)).1, (hA.2.1 y y0 (by omega)).2] at this
                        show _ = I_ (offz K (vW K (vSa (G 0) (rSale x1 x2 x3 x4 x5 x6 x7))) y) ∧ _ = I_ (netz K (vW K (vSa (G 0) (rSale x1 x2 x3 x4 x5 x6 x7))) y)
                        rw [ec.1, ec.2]
                        exact this
                    · rw [(gr 0 30 (by omega)).1]; exact r3
                · have h40' : sN (G 0) = 40 := by omega
                  have hsn : μ.1 (b + 12) 10 = I_ 40 := by rw [← h40']; exact hA.2.2.2.2.1.2.1
                  have h34z : (stI ν 0 0 (I_ 0)).1 1 (34 : Int).toNat = I_ 40 := by rw [← h40']; exact RB_n r0
                  refine fin 2 3 (by omega) (by omega) ?_ ?_
                  · simp (disch := omega) only [fX10_put, Int.reduceEq, Int.reduceNe, Int.reduceLT, Int.reduceLE, Int.reduceAdd, Int.reduceSub, Int.reduceMul, Int.reduceNeg, Int.zero_add, Int.add_zero, nm_eq, bd_some, bv_some, aI_ok, aL_ok, aS_ok, dv_ok, dw_ok, I_add, I_sub, I_mul, I_neg, I_lt, I_le, I_eq, I_nat, J_add, J_sub, J_mul, J_neg, J_lt, J_le, J_eq, I_l, J_i, I_div, J_div, b2_0, b2_1, b2_nar, nar_0, nar_1, zr_0, zr_1, zr_b2, cmp_eq, cmp_le, cmp_lt, cmp_gt, cmp_ge, mx_I, mn_I, mx_L, mn_L, az_I, if_true, if_false, not_true_eq_false, not_false_eq_true, Bool.false_eq_true, i_0, i_1, i_2, i_3, i_4, i_5, i_6, i_7, i_8, i_9, i_10, i_11, i_12, i_16, i_18, i_20, i_24, i_28, i_29, i_30, i_31, i_32, i_33, i_34, i_35, i_37, i_40, i_41, i_42, i_43, i_45, i_46, i_47, i_48, i_57, i_59, i_63, i_64, i_96, i_97, i_98, i_99, i_100, i_101, i_102, i_103, i_104, i_105, i_106, i_107, i_108, i_109, i_110, i_111, i_112, i_113, i_122, i_200, i_255, i_256, i_257, i_258, i_355, i_400, i_999, i_1000, i_1200, i_5680, i_9999, i_10000, i_99999, j_0, j_1, j_2, j_3, j_4, j_5, j_6, j_9, j_10, j_11, j_98, j_99, j_100, j_999, j_1000, j_9999, j_10000, j_99999, j_1000000, c_needF_y hV hK h2.1 h2.2, c_needM_y hV hK h3.1 h3.2, c_needW_y, h1.1, h1.2, h4.1, h4.2, h5.1, h5.2, h6.1, h6.2, h7.1, h7.2, bx_l, hK.2, gB_k hK.1.1, hsn]
                  · simp (disch := omega) only [fX11_put, fX11_fails, Int.reduceEq, Int.reduceNe, Int.reduceLT, Int.reduceLE, Int.reduceAdd, Int.reduceSub, Int.reduceMul, Int.reduceNeg, Int.zero_add, Int.add_zero, nm_eq, bd_some, bv_some, aI_ok, aL_ok, aS_ok, dv_ok, dw_ok, I_add, I_sub, I_mul, I_neg, I_lt, I_le, I_eq, I_nat, J_add, J_sub, J_mul, J_neg, J_lt, J_le, J_eq, I_l, J_i, I_div, J_div, b2_0, b2_1, b2_nar, nar_0, nar_1, zr_0, zr_1, zr_b2, cmp_eq, cmp_le, cmp_lt, cmp_gt, cmp_ge, mx_I, mn_I, mx_L, mn_L, az_I, if_true, if_false, not_true_eq_false, not_false_eq_true, Bool.false_eq_true, i_0, i_1, i_2, i_3, i_4, i_5, i_6, i_7, i_8, i_9, i_10, i_11, i_12, i_16, i_18, i_20, i_24, i_28, i_29, i_30, i_31, i_32, i_33, i_34, i_35, i_37, i_40, i_41, i_42, i_43, i_45, i_46, i_47, i_48, i_57, i_59, i_63, i_64, i_96, i_97, i_98, i_99, i_100, i_101, i_102, i_103, i_104, i_105, i_106, i_107, i_108, i_109, i_110, i_111, i_112, i_113, i_122, i_200, i_255, i_256, i_257, i_258, i_355, i_400, i_999, i_1000, i_1200, i_5680, i_9999, i_10000, i_99999, j_0, j_1, j_2, j_3, j_4, j_5, j_6, j_9, j_10, j_11, j_98, j_99, j_100, j_999, j_1000, j_9999, j_10000, j_99999, j_1000000, r_isFirm hV r0, b2_t h2, r_isModel hV r0, b2_t h3, r_isIn, b2_t h1, b2_t h4, b2_t h5, b2_t h6, b2_t h7, h34z, st_st]
              · refine fin 1 2 (by omega) (by omega) ?_ ?_
                · simp (disch := omega) only [fX10_put, Int.reduceEq, Int.reduceNe, Int.reduceLT, Int.reduceLE, Int.reduceAdd, Int.reduceSub, Int.reduceMul, Int.reduceNeg, Int.zero_add, Int.add_zero, nm_eq, bd_some, bv_some, aI_ok, aL_ok, aS_ok, dv_ok, dw_ok, I_add, I_sub, I_mul, I_neg, I_lt, I_le, I_eq, I_nat, J_add, J_sub, J_mul, J_neg, J_lt, J_le, J_eq, I_l, J_i, I_div, J_div, b2_0, b2_1, b2_nar, nar_0, nar_1, zr_0, zr_1, zr_b2, cmp_eq, cmp_le, cmp_lt, cmp_gt, cmp_ge, mx_I, mn_I, mx_L, mn_L, az_I, if_true, if_false, not_true_eq_false, not_false_eq_true, Bool.false_eq_true, i_0, i_1, i_2, i_3, i_4, i_5, i_6, i_7, i_8, i_9, i_10, i_11, i_12, i_16, i_18, i_20, i_24, i_28, i_29, i_30, i_31, i_32, i_33, i_34, i_35, i_37, i_40, i_41, i_42, i_43, i_45, i_46, i_47, i_48, i_57, i_59, i_63, i_64, i_96, i_97, i_98, i_99, i_100, i_101, i_102, i_103, i_104, i_105, i_106, i_107, i_108, i_109, i_110, i_111, i_112, i_113, i_122, i_200, i_255, i_256, i_257, i_258, i_355, i_400, i_999, i_1000, i_1200, i_5680, i_9999, i_10000, i_99999, j_0, j_1, j_2, j_3, j_4, j_5, j_6, j_9, j_10, j_11, j_98, j_99, j_100, j_999, j_1000, j_9999, j_10000, j_99999, j_1000000, c_needF_y hV hK h2.1 h2.2, c_needM_y hV hK h3.1 h3.2, c_needW_y, c_needW_n, h1.1, h1.2, h4.1, h4.2, h5.1, h5.2, h6.1, h6.2, h7, bx_l, bx_r]
                · simp (disch := omega) only [fX11_put, fX11_fails, Int.reduceEq, Int.reduceNe, Int.reduceLT, Int.reduceLE, Int.reduceAdd, Int.reduceSub, Int.reduceMul, Int.reduceNeg, Int.zero_add, Int.add_zero, nm_eq, bd_some, bv_some, aI_ok, aL_ok, aS_ok, dv_ok, dw_ok, I_add, I_sub, I_mul, I_neg, I_lt, I_le, I_eq, I_nat, J_add, J_sub, J_mul, J_neg, J_lt, J_le, J_eq, I_l, J_i, I_div, J_div, b2_0, b2_1, b2_nar, nar_0, nar_1, zr_0, zr_1, zr_b2, cmp_eq, cmp_le, cmp_lt, cmp_gt, cmp_ge, mx_I, mn_I, mx_L, mn_L, az_I, if_true, if_false, not_true_eq_false, not_false_eq_true, Bool.false_eq_true, i_0, i_1, i_2, i_3, i_4, i_5, i_6, i_7, i_8, i_9, i_10, i_11, i_12, i_16, i_18, i_20, i_24, i_28, i_29, i_30, i_31, i_32, i_33, i_34, i_35, i_37, i_40, i_41, i_42, i_43, i_45, i_46, i_47, i_48, i_57, i_59, i_63, i_64, i_96, i_97, i_98, i_99, i_100, i_101, i_102, i_103, i_104, i_105, i_106, i_107, i_108, i_109, i_110, i_111, i_112, i_113, i_122, i_200, i_255, i_256, i_257, i_258, i_355, i_400, i_999, i_1000, i_1200, i_5680, i_9999, i_10000, i_99999, j_0, j_1, j_2, j_3, j_4, j_5, j_6, j_9, j_10, j_11, j_98, j_99, j_100, j_999, j_1000, j_9999, j_10000, j_99999, j_1000000, r_isFirm hV r0, b2_t h2, r_isModel hV r0, b2_t h3, r_isIn, b2_t h1, b2_t h4, b2_t h5, b2_t h6, b2_f h7, st_st]
            · refine fin 1 2 (by omega) (by omega) ?_ ?_
              · simp (disch := omega) only [fX10_put, Int.reduceEq, Int.reduceNe, Int.reduceLT, Int.reduceLE, Int.reduceAdd, Int.reduceSub, Int.reduceMul, Int.reduceNeg, Int.zero_add, Int.add_zero, nm_eq, bd_some, bv_some, aI_ok, aL_ok, aS_ok, dv_ok, dw_ok, I_add, I_sub, I_mul, I_neg, I_lt, I_le, I_eq, I_nat, J_add, J_sub, J_mul, J_neg, J_lt, J_le, J_eq, I_l, J_i, I_div, J_div, b2_0, b2_1, b2_nar, nar_0, nar_1, zr_0, zr_1, zr_b2, cmp_eq, cmp_le, cmp_lt, cmp_gt, cmp_ge, mx_I, mn_I, mx_L, mn_L, az_I, if_true, if_false, not_true_eq_false, not_false_eq_true, Bool.false_eq_true, i_0, i_1, i_2, i_3, i_4, i_5, i_6, i_7, i_8, i_9, i_10, i_11, i_12, i_16, i_18, i_20, i_24, i_28, i_29, i_30, i_31, i_32, i_33, i_34, i_35, i_37, i_40, i_41, i_42, i_43, i_45, i_46, i_47, i_48, i_57, i_59, i_63, i_64, i_96, i_97, i_98, i_99, i_100, i_101, i_102, i_103, i_104, i_105, i_106, i_107, i_108, i_109, i_110, i_111, i_112, i_113, i_122, i_200, i_255, i_256, i_257, i_258, i_355, i_400, i_999, i_1000, i_1200, i_5680, i_9999, i_10000, i_99999, j_0, j_1, j_2, j_3, j_4, j_5, j_6, j_9, j_10, j_11, j_98, j_99, j_100, j_999, j_1000, j_9999, j_10000, j_99999, j_1000000, c_needF_y hV hK h2.1 h2.2, c_needM_y hV hK h3.1 h3.2, c_needW_y, c_needW_n, h1.1, h1.2, h4.1, h4.2, h5.1, h5.2, h6, bx_l, bx_r]
              · simp (disch := omega) only [fX11_put, fX11_fails, Int.reduceEq, Int.reduceNe, Int.reduceLT, Int.reduceLE, Int.reduceAdd, Int.reduceSub, Int.reduceMul, Int.reduceNeg, Int.zero_add, Int.add_zero, nm_eq, bd_some, bv_some, aI_ok, aL_ok, aS_ok, dv_ok, dw_ok, I_add, I_sub, I_mul, I_neg, I_lt, I_le, I_eq, I_nat, J_add, J_sub, J_mul, J_neg, J_lt, J_le, J_eq, I_l, J_i, I_div, J_div, b2_0, b2_1, b2_nar, nar_0, nar_1, zr_0, zr_1, zr_b2, cmp_eq, cmp_le, cmp_lt, cmp_gt, cmp_ge, mx_I, mn_I, mx_L, mn_L, az_I, if_true, if_false, not_true_eq_false, not_false_eq_true, Bool.false_eq_true, i_0, i_1, i_2, i_3, i_4, i_5, i_6, i_7, i_8, i_9, i_10, i_11, i_12, i_16, i_18, i_20, i_24, i_28, i_29, i_30, i_31, i_32, i_33, i_34, i_35, i_37, i_40, i_41, i_42, i_43, i_45, i_46, i_47, i_48, i_57, i_59, i_63, i_64, i_96, i_97, i_98, i_99, i_100, i_101, i_102, i_103, i_104, i_105, i_106, i_107, i_108, i_109, i_110, i_111, i_112, i_113, i_122, i_200, i_255, i_256, i_257, i_258, i_355, i_400, i_999, i_1000, i_1200, i_5680, i_9999, i_10000, i_99999, j_0, j_1, j_2, j_3, j_4, j_5, j_6, j_9, j_10, j_11, j_98, j_99, j_100, j_999, j_1000, j_9999, j_10000, j_99999, j_1000000, r_isFirm hV r0, b2_t h2, r_isModel hV r0, b2_t h3, r_isIn, b2_t h1, b2_t h4, b2_t h5, b2_f h6, st_st]
          · refine fin 1 2 (by omega) (by omega) ?_ ?_
            · simp (disch := omega) only [fX10_put, Int.reduceEq, Int.reduceNe, Int.reduceLT, Int.reduceLE, Int.reduceAdd, Int.reduceSub, Int.reduceMul, Int.reduceNeg, Int.zero_add, Int.add_zero, nm_eq, bd_some, bv_some, aI_ok, aL_ok, aS_ok, dv_ok, dw_ok, I_add, I_sub, I_mul, I_neg, I_lt, I_le, I_eq, I_nat, J_add, J_sub, J_mul, J_neg, J_lt, J_le, J_eq, I_l, J_i, I_div, J_div, b2_0, b2_1, b2_nar, nar_0, nar_1, zr_0, zr_1, zr_b2, cmp_eq, cmp_le, cmp_lt, cmp_gt, cmp_ge, mx_I, mn_I, mx_L, mn_L, az_I, if_true, if_false, not_true_eq_false, not_false_eq_true, Bool.false_eq_true, i_0, i_1, i_2, i_3, i_4, i_5, i_6, i_7, i_8, i_9, i_10, i_11, i_12, i_16, i_18, i_20, i_24, i_28, i_29, i_30, i_31, i_32, i_33, i_34, i_35, i_37, i_40, i_41, i_42, i_43, i_45, i_46, i_47, i_48, i_57, i_59, i_63, i_64, i_96, i_97, i_98, i_99, i_100, i_101, i_102, i_103, i_104, i_105, i_106, i_107, i_108, i_109, i_110, i_111, i_112, i_113, i_122, i_200, i_255, i_256, i_257, i_258, i_355, i_400, i_999, i_1000, i_1200, i_5680, i_9999, i_10000, i_99999, j_0, j_1, j_2, j_3, j_4, j_5, j_6, j_9, j_10, j_11, j_98, j_99, j_100, j_999, j_1000, j_9999, j_10000, j_99999, j_1000000, c_needF_y hV hK h2.1 h2.2, c_needM_y hV hK h3.1 h3.2, c_needW_y, c_needW_n, h1.1, h1.2, h4.1, h4.2, h5, bx_l, bx_r]
            · simp (disch := omega) only [fX11_put, fX11_fails, Int.reduceEq, Int.reduceNe, Int.reduceLT, Int.reduceLE, Int.reduceAdd, Int.reduceSub, Int.reduceMul, Int.reduceNeg, Int.zero_add, Int.add_zero, nm_eq, bd_some, bv_some, aI_ok, aL_ok, aS_ok, dv_ok, dw_ok, I_add, I_sub, I_mul, I_neg, I_lt, I_le, I_eq, I_nat, J_add, J_sub, J_mul, J_neg, J_lt, J_le, J_eq, I_l, J_i, I_div, J_div, b2_0, b2_1, b2_nar, nar_0, nar_1, zr_0, zr_1, zr_b2, cmp_eq, cmp_le, cmp_lt, cmp_gt, cmp_ge, mx_I, mn_I, mx_L, mn_L, az_I, if_true, if_false, not_true_eq_false, not_false_eq_true, Bool.false_eq_true, i_0, i_1, i_2, i_3, i_4, i_5, i_6, i_7, i_8, i_9, i_10, i_11, i_12, i_16, i_18, i_20, i_24, i_28, i_29, i_30, i_31, i_32, i_33, i_34, i_35, i_37, i_40, i_41, i_42, i_43, i_45, i_46, i_47, i_48, i_57, i_59, i_63, i_64, i_96, i_97, i_98, i_99, i_100, i_101, i_102, i_103, i_104, i_105, i_106, i_107, i_108, i_109, i_110, i_111, i_112, i_113, i_122, i_200, i_255, i_256, i_257, i_258, i_355, i_400, i_999, i_1000, i_1200, i_5680, i_9999, i_10000, i_99999, j_0, j_1, j_2, j_3, j_4, j_5, j_6, j_9, j_10, j_11, j_98, j_99, j_100, j_999, j_1000, j_9999, j_10000, j_99999, j_1000000, r_isFirm hV r0, b2_t h2, r_isModel hV r0, b2_t h3, r_isIn, b2_t h1, b2_t h4, b2_f h5, st_st]
        · refine fin 1 2 (by omega) (by omega) ?_ ?_
          · simp (disch := omega) only [fX10_put, Int.reduceEq, Int.reduceNe, Int.reduceLT, Int.reduceLE, Int.reduceAdd, Int.reduceSub, Int.reduceMul, Int.reduceNeg, Int.zero_add, Int.add_zero, nm_eq, bd_some, bv_some, aI_ok, aL_ok, aS_ok, dv_ok, dw_ok, I_add, I_sub, I_mul, I_neg, I_lt, I_le, I_eq, I_nat, J_add, J_sub, J_mul, J_neg, J_lt, J_le, J_eq, I_l, J_i, I_div, J_div, b2_0, b2_1, b2_nar, nar_0, nar_1, zr_0, zr_1, zr_b2, cmp_eq, cmp_le, cmp_lt, cmp_gt, cmp_ge, mx_I, mn_I, mx_L, mn_L, az_I, if_true, if_false, not_true_eq_false, not_false_eq_true, Bool.false_eq_true, i_0, i_1, i_2, i_3, i_4, i_5, i_6, i_7, i_8, i_9, i_10, i_11, i_12, i_16, i_18, i_20, i_24, i_28, i_29, i_30, i_31, i_32, i_33, i_34, i_35, i_37, i_40, i_41, i_42, i_43, i_45, i_46, i_47, i_48, i_57, i_59, i_63, i_64, i_96, i_97, i_98, i_99, i_100, i_101, i_102, i_103, i_104, i_105, i_106, i_107, i_108, i_109, i_110, i_111, i_112, i_113, i_122, i_200, i_255, i_256, i_257, i_258, i_355, i_400, i_999, i_1000, i_1200, i_5680, i_9999, i_10000, i_99999, j_0, j_1, j_2, j_3, j_4, j_5, j_6, j_9, j_10, j_11, j_98, j_99, j_100, j_999, j_1000, j_9999, j_10000, j_99999, j_1000000, c_needF_y hV hK h2.1 h2.2, c_needM_y hV hK h3.1 h3.2, c_needW_y, c_needW_n, h1.1, h1.2, h4, bx_l, bx_r]
          · simp (disch := omega) only [fX11_put, fX11_fails, Int.reduceEq, Int.reduceNe, Int.reduceLT, Int.reduceLE, Int.reduceAdd, Int.reduceSub, Int.reduceMul, Int.reduceNeg, Int.zero_add, Int.add_zero, nm_eq, bd_some, bv_some, aI_ok, aL_ok, aS_ok, dv_ok, dw_ok, I_add, I_sub, I_mul, I_neg, I_lt, I_le, I_eq, I_nat, J_add, J_sub, J_mul, J_neg, J_lt, J_le, J_eq, I_l, J_i, I_div, J_div, b2_0, b2_1, b2_nar, nar_0, nar_1, zr_0, zr_1, zr_b2, cmp_eq, cmp_le, cmp_lt, cmp_gt, cmp_ge, mx_I, mn_I, mx_L, mn_L, az_I, if_true, if_false, not_true_eq_false, not_false_eq_true, Bool.false_eq_true, i_0, i_1, i_2, i_3, i_4, i_5, i_6, i_7, i_8, i_9, i_10, i_11, i_12, i_16, i_18, i_20, i_24, i_28, i_29, i_30, i_31, i_32, i_33, i_34, i_35, i_37, i_40, i_41, i_42, i_43, i_45, i_46, i_47, i_48, i_57, i_59, i_63, i_64, i_96, i_97, i_98, i_99, i_100, i_101, i_102, i_103, i_104, i_105, i_106, i_107, i_108, i_109, i_110, i_111, i_112, i_113, i_122, i_200, i_255, i_256, i_257, i_258, i_355, i_400, i_999, i_1000, i_1200, i_5680, i_9999, i_10000, i_99999, j_0, j_1, j_2, j_3, j_4, j_5, j_6, j_9, j_10, j_11, j_98, j_99, j_100, j_999, j_1000, j_9999, j_10000, j_99999, j_1000000, r_isFirm hV r0, b2_t h2, r_isModel hV r0, b2_t h3, r_isIn, b2_t h1, b2_f h4, st_st]
      · refine fin 1 2 (by omega) (by omega) ?_ ?_
        · simp (disch := omega) only [fX10_put, Int.reduceEq, Int.reduceNe, Int.reduceLT, Int.reduceLE, Int.reduceAdd, Int.reduceSub, Int.reduceMul, Int.reduceNeg, Int.zero_add, Int.add_zero, nm_eq, bd_some, bv_some, aI_ok, aL_ok, aS_ok, dv_ok, dw_ok, I_add, I_sub, I_mul, I_neg, I_lt, I_le, I_eq, I_nat, J_add, J_sub, J_mul, J_neg, J_lt, J_le, J_eq, I_l, J_i, I_div, J_div, b2_0, b2_1, b2_nar, nar_0, nar_1, zr_0, zr_1, zr_b2, cmp_eq, cmp_le, cmp_lt, cmp_gt, cmp_ge, mx_I, mn_I, mx_L, mn_L, az_I, if_true, if_false, not_true_eq_false, not_false_eq_true, Bool.false_eq_true, i_0, i_1, i_2, i_3, i_4, i_5, i_6, i_7, i_8, i_9, i_10, i_11, i_12, i_16, i_18, i_20, i_24, i_28, i_29, i_30, i_31, i_32, i_33, i_34, i_35, i_37, i_40, i_41, i_42, i_43, i_45, i_46, i_47, i_48, i_57, i_59, i_63, i_64, i_96, i_97, i_98, i_99, i_100, i_101, i_102, i_103, i_104, i_105, i_106, i_107, i_108, i_109, i_110, i_111, i_112, i_113, i_122, i_200, i_255, i_256, i_257, i_258, i_355, i_400, i_999, i_1000, i_1200, i_5680, i_9999, i_10000, i_99999, j_0, j_1, j_2, j_3, j_4, j_5, j_6, j_9, j_10, j_11, j_98, j_99, j_100, j_999, j_1000, j_9999, j_10000, j_99999, j_1000000, c_needF_y hV hK h2.1 h2.2, c_needM_y hV hK h3.1 h3.2, c_needW_n, h1, bx_l, bx_r]
        · simp (disch := omega) only [fX11_put, fX11_fails, Int.reduceEq, Int.reduceNe, Int.reduceLT, Int.reduceLE, Int.reduceAdd, Int.reduceSub, Int.reduceMul, Int.reduceNeg, Int.zero_add, Int.add_zero, nm_eq, bd_some, bv_some, aI_ok, aL_ok, aS_ok, dv_ok, dw_ok, I_add, I_sub, I_mul, I_neg, I_lt, I_le, I_eq, I_nat, J_add, J_sub, J_mul, J_neg, J_lt, J_le, J_eq, I_l, J_i, I_div, J_div, b2_0, b2_1, b2_nar, nar_0, nar_1, zr_0, zr_1, zr_b2, cmp_eq, cmp_le, cmp_lt, cmp_gt, cmp_ge, mx_I, mn_I, mx_L, mn_L, az_I, if_true, if_false, not_true_eq_false, not_false_eq_true, Bool.false_eq_true, i_0, i_1, i_2, i_3, i_4, i_5, i_6, i_7, i_8, i_9, i_10, i_11, i_12, i_16, i_18, i_20, i_24, i_28, i_29, i_30, i_31, i_32, i_33, i_34, i_35, i_37, i_40, i_41, i_42, i_43, i_45, i_46, i_47, i_48, i_57, i_59, i_63, i_64, i_96, i_97, i_98, i_99, i_100, i_101, i_102, i_103, i_104, i_105, i_106, i_107, i_108, i_109, i_110, i_111, i_112, i_113, i_122, i_200, i_255, i_256, i_257, i_258, i_355, i_400, i_999, i_1000, i_1200, i_5680, i_9999, i_10000, i_99999, j_0, j_1, j_2, j_3, j_4, j_5, j_6, j_9, j_10, j_11, j_98, j_99, j_100, j_999, j_1000, j_9999, j_10000, j_99999, j_1000000, r_isFirm hV r0, b2_t h2, r_isModel hV r0, b2_t h3, r_isIn, b2_f h1, st_st]
    · refine fin 0 1 (by omega) (by omega) ?_ ?_
      · unfold fX10_put
        rw [c_needF_y hV hK h2.1 h2.2, bx_l, c_needM_n hV hK x30 x31 h3, bx_r]
      · unfold fX11_put
        rw [nm_eq, i_0, r_isFirm hV r0 x20 x21, bd_some, b2_t h2, if_neg (show ¬ I_ 1 = I_ 0 by decide), r_isModel hV r0 x30 x31, bd_some, b2_f h3, if_pos rfl]
        simp (disch := omega) only [fX11_fails, Int.reduceEq, Int.reduceNe, Int.reduceLT, Int.reduceLE, Int.reduceAdd, Int.reduceSub, Int.reduceMul, Int.reduceNeg, Int.zero_add, Int.add_zero, nm_eq, bd_some, bv_some, aI_ok, aL_ok, aS_ok, dv_ok, dw_ok, I_add, I_sub, I_mul, I_neg, I_lt, I_le, I_eq, I_nat, J_add, J_sub, J_mul, J_neg, J_lt, J_le, J_eq, I_l, J_i, I_div, J_div, b2_0, b2_1, b2_nar, nar_0, nar_1, zr_0, zr_1, zr_b2, cmp_eq, cmp_le, cmp_lt, cmp_gt, cmp_ge, mx_I, mn_I, mx_L, mn_L, az_I, if_true, if_false, not_true_eq_false, not_false_eq_true, Bool.false_eq_true, i_0, i_1, i_2, i_3, i_4, i_5, i_6, i_7, i_8, i_9, i_10, i_11, i_12, i_16, i_18, i_20, i_24, i_28, i_29, i_30, i_31, i_32, i_33, i_34, i_35, i_37, i_40, i_41, i_42, i_43, i_45, i_46, i_47, i_48, i_57, i_59, i_63, i_64, i_96, i_97, i_98, i_99, i_100, i_101, i_102, i_103, i_104, i_105, i_106, i_107, i_108, i_109, i_110, i_111, i_112, i_113, i_122, i_200, i_255, i_256, i_257, i_258, i_355, i_400, i_999, i_1000, i_1200, i_5680, i_9999, i_10000, i_99999, j_0, j_1, j_2, j_3, j_4, j_5, j_6, j_9, j_10, j_11, j_98, j_99, j_100, j_999, j_1000, j_9999, j_10000, j_99999, j_1000000, st_st]
  · refine fin 0 1 (by omega) (by omega) ?_ ?_
    · unfold fX10_put
      rw [c_needF_n hV hK x20 x21 h2, bx_r]
    · unfold fX11_put
      rw [nm_eq, i_0, r_isFirm hV r0 x20 x21, bd_some, b2_f h2, if_pos rfl]
      simp (disch := omega) only [fX11_fails, Int.reduceEq, Int.reduceNe, Int.reduceLT, Int.reduceLE, Int.reduceAdd, Int.reduceSub, Int.reduceMul, Int.reduceNeg, Int.zero_add, Int.add_zero, nm_eq, bd_some, bv_some, aI_ok, aL_ok, aS_ok, dv_ok, dw_ok, I_add, I_sub, I_mul, I_neg, I_lt, I_le, I_eq, I_nat, J_add, J_sub, J_mul, J_neg, J_lt, J_le, J_eq, I_l, J_i, I_div, J_div, b2_0, b2_1, b2_nar, nar_0, nar_1, zr_0, zr_1, zr_b2, cmp_eq, cmp_le, cmp_lt, cmp_gt, cmp_ge, mx_I, mn_I, mx_L, mn_L, az_I, if_true, if_false, not_true_eq_false, not_false_eq_true, Bool.false_eq_true, i_0, i_1, i_2, i_3, i_4, i_5, i_6, i_7, i_8, i_9, i_10, i_11, i_12, i_16, i_18, i_20, i_24, i_28, i_29, i_30, i_31, i_32, i_33, i_34, i_35, i_37, i_40, i_41, i_42, i_43, i_45, i_46, i_47, i_48, i_57, i_59, i_63, i_64, i_96, i_97, i_98, i_99, i_100, i_101, i_102, i_103, i_104, i_105, i_106, i_107, i_108, i_109, i_110, i_111, i_112, i_113, i_122, i_200, i_255, i_256, i_257, i_258, i_355, i_400, i_999, i_1000, i_1200, i_5680, i_9999, i_10000, i_99999, j_0, j_1, j_2, j_3, j_4, j_5, j_6, j_9, j_10, j_11, j_98, j_99, j_100, j_999, j_1000, j_9999, j_10000, j_99999, j_1000000, st_st]
theorem A14 (hN : 20000 ≤ N) (v : Nat → Int32) (h : Rl μ ν) : ∃ z, lawC14 N v μ ν = some z ∧ Rl z.1 z.2 := by
  obtain ⟨b, Lm, Am, Lf, Af, K, fo, q, G, a, nx, hA, hB, hC, hT, hR⟩ := h
  obtain ⟨hV, hW, hK, hRk⟩ := hA.rq (N := N) (by omega)
  have hb := hK.1.1
  have ha := hB.1.2.2.2.1
  match a, hB, ha with
  | 0, hB, _ =>
    have h23 : μ.1 2 3 = I_ 0 := hB.1.1
    have h04 : ν.1 0 4 = I_ 0 := hB.2.1.1
    refine ⟨(μ, stI ν 0 0 (I_ 0)), ?_, hA.refuse (N := N) (z := (μ, μ)) (by omega) hB hC hT hR (I_ 0)⟩
    simp (disch := omega) only [lawC14, fX10_undo, fX11_undo, Int.reduceEq, Int.reduceNe, Int.reduceLT, Int.reduceLE, Int.reduceAdd, Int.reduceSub, Int.reduceMul, Int.reduceNeg, Int.zero_add, Int.add_zero, nm_eq, bd_some, bv_some, aI_ok, aL_ok, aS_ok, dv_ok, dw_ok, I_add, I_sub, I_mul, I_neg, I_lt, I_le, I_eq, I_nat, J_add, J_sub, J_mul, J_neg, J_lt, J_le, J_eq, I_l, J_i, I_div, J_div, b2_0, b2_1, b2_nar, nar_0, nar_1, zr_0, zr_1, zr_b2, cmp_eq, cmp_le, cmp_lt, cmp_gt, cmp_ge, mx_I, mn_I, mx_L, mn_L, az_I, if_true, if_false, not_true_eq_false, not_false_eq_true, Bool.false_eq_true, i_0, i_1, i_2, i_3, i_4, i_5, i_6, i_7, i_8, i_9, i_10, i_11, i_12, i_16, i_18, i_20, i_24, i_28, i_29, i_30, i_31, i_32, i_33, i_34, i_35, i_37, i_40, i_41, i_42, i_43, i_45, i_46, i_47, i_48, i_57, i_59, i_63, i_64, i_96, i_97, i_98, i_99, i_100, i_101, i_102, i_103, i_104, i_105, i_106, i_107, i_108, i_109, i_110, i_111, i_112, i_113, i_122, i_200, i_255, i_256, i_257, i_258, i_355, i_400, i_999, i_1000, i_1200, i_5680, i_9999, i_10000, i_99999, j_0, j_1, j_2, j_3, j_4, j_5, j_6, j_9, j_10, j_11, j_98, j_99, j_100, j_999, j_1000, j_9999, j_10000, j_99999, j_1000000, h23, st_I, st_I2, st_L1, st_L2, st_R1, st_R2, Nat.reduceEqDiff, Nat.reduceAdd, and_true, true_and, and_false, false_and, and_self, if_false, if_true, h04]
  | a + 1, hB, ha =>
    obtain ⟨kn, pl, ol, y1, y2, y3, ag, k05, p0, b1, b2', b3, b4, b5, b6⟩ := hB.1.2.2.2.2 0 (by omega)
    have hun : ∀ k y, ¬ (k = 0 ∧ y = 0) → ¬ (k = 10 ∨ k = 7 ∨ k = 14 ∨ k = 16 ∨ k = 15) → un kn pl ol (G 0) k y = G 0 k y := fun k y h0 hk => by
      have kc : kn = 0 ∨ kn = 1 ∨ kn = 2 ∨ kn = 3 ∨ kn = 4 ∨ kn = 5 := by omega
      rcases kc with e | e | e | e | e | e <;> subst e
      · show vset (G 0) 0 0 pl k y = _
        unfold vset
        exact if_neg (by omega)
      · show vset (G 0) 10 pl 1 k y = _
        unfold vset
        exact if_neg (by omega)
      · show vset (G 0) 7 pl ol k y = _
        unfold vset
        exact if_neg (by omega)
      · show vset (G 0) 14 pl ol k y = _
        unfold vset
        exact if_neg (by omega)
      · show vset (G 0) 16 pl ol k y = _
        unfold vset
        exact if_neg (by omega)
      · show vset (G 0) 15 pl ol k y = _
        unfold vset
        exact if_neg (by omega)
    have hm : mN (G 1) = mN (G 0) := ag.2.1.trans (hun 0 1 (by omega) (by omega))
    have hf : fN (G 1) = fN (G 0) := ag.2.2.1.trans (hun 0 2 (by omega) (by omega))
    have hmu : mN (un kn pl ol (G 0)) = mN (G 0) := hun 0 1 (by omega) (by omega)
    have hr : ∀ k z, 11 ≤ k → k ≤ 13 → 0 ≤ z → z < mN (G 0) → G 1 k z = G 0 k z := fun k z c d z0 z1 => by
      rw [ag.2.2.2 k z (ok_ (by omega) (by omega) (by omega) (by omega)) z0 (by rw [szv_m c d, hmu]; exact z1)]
      exact hun k z (by omega) (by omega)
    obtain ⟨hV1, hE1⟩ := hB.2.2 1 (by omega)
    obtain ⟨μ1, c1, c2, c3, c4, c5⟩ := c_back_ (N := N) hb (by omega) hV hA.2.1 hA.1.2.2.2 hA.2.2.1.2 hA.2.2.2.2.1 hA.2.2.2.2.2.1 hB.1 hV1 hE1
    obtain ⟨ν1, d1, d2, d3, d4, d5, d6⟩ := r_undo (N := N) hN (by omega) hB.sN hA.2.2.2.2.2.2.2.1 hB.2.1 hm hf hr
    refine ⟨(μ1, ν1), ?_, ?_⟩
    · have h23 : μ.1 2 3 = I_ ((a : Int) + 1) := by
        have e2 : ((a + 1 : Nat) : Int) = (a : Int) + 1 := by omega
        rw [← e2]; exact hB.1.1
      have na : ¬ (a : Int) + 1 = 0 := by omega
      have h23' : μ1.1 2 3 = I_ a := c4.1
      simp (disch := omega) only [lawC14, fX10_undo, Int.reduceEq, Int.reduceNe, Int.reduceLT, Int.reduceLE, Int.reduceAdd, Int.reduceSub, Int.reduceMul, Int.reduceNeg, Int.zero_add, Int.add_zero, nm_eq, bd_some, bv_some, aI_ok, aL_ok, aS_ok, dv_ok, dw_ok, I_add, I_sub, I_mul, I_neg, I_lt, I_le, I_eq, I_nat, J_add, J_sub, J_mul, J_neg, J_lt, J_le, J_eq, I_l, J_i, I_div, J_div, b2_0, b2_1, b2_nar, nar_0, nar_1, zr_0, zr_1, zr_b2, cmp_eq, cmp_le, cmp_lt, cmp_gt, cmp_ge, mx_I, mn_I, mx_L, mn_L, az_I, if_true, if_false, not_true_eq_false, not_false_eq_true, Bool.false_eq_true, i_0, i_1, i_2, i_3, i_4, i_5, i_6, i_7, i_8, i_9, i_10, i_11, i_12, i_16, i_18, i_20, i_24, i_28, i_29, i_30, i_31, i_32, i_33, i_34, i_35, i_37, i_40, i_41, i_42, i_43, i_45, i_46, i_47, i_48, i_57, i_59, i_63, i_64, i_96, i_97, i_98, i_99, i_100, i_101, i_102, i_103, i_104, i_105, i_106, i_107, i_108, i_109, i_110, i_111, i_112, i_113, i_122, i_200, i_255, i_256, i_257, i_258, i_355, i_400, i_999, i_1000, i_1200, i_5680, i_9999, i_10000, i_99999, j_0, j_1, j_2, j_3, j_4, j_5, j_6, j_9, j_10, j_11, j_98, j_99, j_100, j_999, j_1000, j_9999, j_10000, j_99999, j_1000000, h23, na, hK.2, gB_k hK.1.1, c1, h23', d1]
    · exact Rl_a (G := G) (G' := fun t => G (t + 1)) hA hC hT hR (c5.mono (fun k j w => w.elim Or.inl ac_du)) (d6.mono (fun k j w => by unfold P_ar; omega)) hV1 hE1 hm hf c2 c3 d2 d4 ⟨c4, d3, fun t ht => hB.2.2 (t + 1) (by omega)⟩
end
