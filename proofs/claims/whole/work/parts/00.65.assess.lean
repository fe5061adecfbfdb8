/-! injuryOf, assess, marginTold. -/
def P_ij (k _ : Nat) : Prop := k = 5
theorem P_ij_ge (k j : Nat) (h : 32 ≤ k) : ¬ P_ij k j := by unfold P_ij; omega
section
variable {N : Nat} {b : Nat} {V : Vw} {f t : Int}
theorem c_ij_l (hV : vB V) (f0 : 0 ≤ f) (f1 : f < 4) : ∀ (d n : Nat) (i : Int) (μ : Mem), d < n → 0 ≤ i → i + d = sN V → CB b V μ → μ.1 5 9 = I_ (sg i.toNat 0 (g_ic V f)) → ∃ μ', fX3_injuryOf_19 N n b (I_ f) (J_ (sg i.toNat 0 (g_is V f))) (J_ (sg i.toNat 0 (g_iw V f))) (I_ i) μ = some (I_ (x_ij V f), μ') ∧ Fr P_ij μ μ' ∧ μ'.1 5 9 = I_ (x_ic V f) := by
  have hn := hV.1
  unfold vN at hn
  intro d
  induction d with
  | zero =>
    intro n i μ h1 h2 h3 hB h5
    obtain ⟨n, rfl⟩ : ∃ m, n = m + 1 := ⟨n - 1, by omega⟩
    have hle : sN V ≤ i := by omega
    have hi : i = sN V := by omega
    subst hi
    refine ⟨μ, ?_, Fr.rf, h5⟩
    have a := x_is_in hV f
    have c := x_iw_in hV f
    have c' := x_ic_in hV f
    have e1 : sg (sN V).toNat 0 (g_is V f) = x_is V f := rfl
    have e2 : sg (sN V).toNat 0 (g_iw V f) = x_iw V f := rfl
    unfold x_ij
    simp (disch := omega) only [fX3_injuryOf_19, fX3_injuryOf_120, Int.reduceEq, Int.reduceNe, Int.reduceLT, Int.reduceLE, Int.reduceAdd, Int.reduceSub, Int.reduceMul, Int.reduceNeg, Int.zero_add, Int.add_zero, nm_eq, bd_some, bv_some, aI_ok, aL_ok, aS_ok, dv_ok, dw_ok, I_add, I_sub, I_mul, I_neg, I_lt, I_le, I_eq, I_nat, J_add, J_sub, J_mul, J_neg, J_lt, J_le, J_eq, I_l, J_i, I_div, J_div, b2_0, b2_1, b2_nar, nar_0, nar_1, zr_0, zr_1, zr_b2, cmp_eq, cmp_le, cmp_lt, cmp_gt, cmp_ge, mx_I, mn_I, mx_L, mn_L, az_I, if_true, if_false, not_true_eq_false, not_false_eq_true, i_0, i_1, i_2, i_3, i_4, i_5, i_6, i_7, i_8, i_9, i_10, i_11, i_12, i_16, i_18, i_20, i_24, i_28, i_29, i_30, i_31, i_32, i_33, i_34, i_35, i_37, i_40, i_41, i_42, i_43, i_45, i_46, i_47, i_48, i_57, i_59, i_63, i_64, i_96, i_97, i_98, i_99, i_100, i_101, i_102, i_103, i_104, i_105, i_106, i_107, i_108, i_109, i_110, i_111, i_112, i_113, i_122, i_200, i_255, i_256, i_257, i_258, i_355, i_400, i_999, i_1000, i_1200, i_5680, i_9999, i_10000, i_99999, j_0, j_1, j_2, j_3, j_4, j_5, j_6, j_9, j_10, j_11, j_98, j_99, j_100, j_999, j_1000, j_9999, j_10000, j_99999, j_1000000, SB_n hB.2.1, hle, e1, e2, c_mg]
  | succ d ih =>
    intro n i μ h1 h2 h3 hB h5
    obtain ⟨n, rfl⟩ : ∃ m, n = m + 1 := ⟨n - 1, by omega⟩
    have hle : ¬ sN V ≤ i := by omega
    have hlt : i < sN V := by omega
    have hv := hV.2.1 i h2 hlt
    unfold vS at hv
    have hM := hV.2.2.1 (s_md V i) (by omega) (by omega)
    unfold vM at hM
    have hS := hB.2.1
    have hb := kB_ge hB.1
    have skip : ¬ p_tg V f i → ∃ μ', fX3_injuryOf_19 N n b (I_ f) (J_ (sg i.toNat 0 (g_is V f))) (J_ (sg i.toNat 0 (g_iw V f))) (I_ (i + 1)) μ = some (I_ (x_ij V f), μ') ∧ Fr P_ij μ μ' ∧ μ'.1 5 9 = I_ (x_ic V f) := fun hne => by
      have z1 : g_is V f i = 0 := by unfold g_is; rw [if_neg hne]
      have z2 : g_iw V f i = 0 := by unfold g_iw; rw [if_neg hne]
      have z3 : g_ic V f i = 0 := by unfold g_ic; rw [if_neg hne]
      have := ih n (i + 1) μ (by omega) (by omega) (by omega) hB (by rw [sg_step h2, z3, Int.add_zero]; exact h5)
      rw [sg_step h2, sg_step h2, z1, z2, Int.add_zero, Int.add_zero] at this
      exact this
    by_cases ht : m_tg V (s_md V i) ≤ 0
    · obtain ⟨μ', e1, e2⟩ := skip (fun q => by have := q.2; omega)
      refine ⟨μ', ?_, e2⟩
      simp (disch := omega) only [fX3_injuryOf_19, Int.reduceEq, Int.reduceNe, Int.reduceLT, Int.reduceLE, Int.reduceAdd, Int.reduceSub, Int.reduceMul, Int.reduceNeg, Int.zero_add, Int.add_zero, nm_eq, bd_some, bv_some, aI_ok, aL_ok, aS_ok, dv_ok, dw_ok, I_add, I_sub, I_mul, I_neg, I_lt, I_le, I_eq, I_nat, J_add, J_sub, J_mul, J_neg, J_lt, J_le, J_eq, I_l, J_i, I_div, J_div, b2_0, b2_1, b2_nar, nar_0, nar_1, zr_0, zr_1, zr_b2, cmp_eq, cmp_le, cmp_lt, cmp_gt, cmp_ge, mx_I, mn_I, mx_L, mn_L, az_I, if_true, if_false, not_true_eq_false, not_false_eq_true, i_0, i_1, i_2, i_3, i_4, i_5, i_6, i_7, i_8, i_9, i_10, i_11, i_12, i_16, i_18, i_20, i_24, i_28, i_29, i_30, i_31, i_32, i_33, i_34, i_35, i_37, i_40, i_41, i_42, i_43, i_45, i_46, i_47, i_48, i_57, i_59, i_63, i_64, i_96, i_97, i_98, i_99, i_100, i_101, i_102, i_103, i_104, i_105, i_106, i_107, i_108, i_109, i_110, i_111, i_112, i_113, i_122, i_200, i_255, i_256, i_257, i_258, i_355, i_400, i_999, i_1000, i_1200, i_5680, i_9999, i_10000, i_99999, j_0, j_1, j_2, j_3, j_4, j_5, j_6, j_9, j_10, j_11, j_98, j_99, j_100, j_999, j_1000, j_9999, j_10000, j_99999, j_1000000, SB_n hS, SB_mk hS, SB_fm hS, SB_md hS, SB_lv hS, SB_mo hS, SB_mn hS, SB_pr hS, SB_of hS, SB_nt hS, SB_li hS, hle, CB_m hB, CB_f hB, CB_co hB, CB_lk hB, CB_tg hB, CB_tc hB, CB_si hB, CB_se hB, ht, e1]
    · by_cases he : p_ex V f i
      · have hp : p_tg V f i := ⟨he, by omega⟩
        have z1 : g_is V f i = 1000 * (m_tg V (s_md V i) - s_nt V i) * s_mn V i := by unfold g_is; rw [if_pos hp]
        have z2 : g_iw V f i = 1000 * s_nt V i * s_mn V i := by unfold g_iw; rw [if_pos hp]
        have z3 : g_ic V f i = s_mn V i := by unfold g_ic; rw [if_pos hp]
        have hF : Fr P_ij μ (stI μ 5 9 (I_ (sg i.toNat 0 (g_ic V f) + s_mn V i))) := Fr.rf.stI rfl
        obtain ⟨μ', e1, e2, e3⟩ := ih n (i + 1) _ (by omega) (by omega) (by omega) (hB.F hF P_ij_ge) (by rw [sg_step h2, z3]; exact at_S)
        rw [sg_step h2, sg_step h2, z1, z2] at e1
        refine ⟨μ', ?_, hF.tr e2, e3⟩
        simp (disch := omega) only [fX3_injuryOf_19, Int.reduceEq, Int.reduceNe, Int.reduceLT, Int.reduceLE, Int.reduceAdd, Int.reduceSub, Int.reduceMul, Int.reduceNeg, Int.zero_add, Int.add_zero, nm_eq, bd_some, bv_some, aI_ok, aL_ok, aS_ok, dv_ok, dw_ok, I_add, I_sub, I_mul, I_neg, I_lt, I_le, I_eq, I_nat, J_add, J_sub, J_mul, J_neg, J_lt, J_le, J_eq, I_l, J_i, I_div, J_div, b2_0, b2_1, b2_nar, nar_0, nar_1, zr_0, zr_1, zr_b2, cmp_eq, cmp_le, cmp_lt, cmp_gt, cmp_ge, mx_I, mn_I, mx_L, mn_L, az_I, if_true, if_false, not_true_eq_false, not_false_eq_true, i_0, i_1, i_2, i_3, i_4, i_5, i_6, i_7, i_8, i_9, i_10, i_11, i_12, i_16, i_18, i_20, i_24, i_28, i_29, i_30, i_31, i_32, i_33, i_34, i_35, i_37, i_40, i_41, i_42, i_43, i_45, i_46, i_47, i_48, i_57, i_59, i_63, i_64, i_96, i_97, i_98, i_99, i_100, i_101, i_102, i_103, i_104, i_105, i_106, i_107, i_108, i_109, i_110, i_111, i_112, i_113, i_122, i_200, i_255, i_256, i_257, i_258, i_355, i_400, i_999, i_1000, i_1200, i_5680, i_9999, i_10000, i_99999, j_0, j_1, j_2, j_3, j_4, j_5, j_6, j_9, j_10, j_11, j_98, j_99, j_100, j_999, j_1000, j_9999, j_10000, j_99999, j_1000000, SB_n hS, SB_mk hS, SB_fm hS, SB_md hS, SB_lv hS, SB_mo hS, SB_mn hS, SB_pr hS, SB_of hS, SB_nt hS, SB_li hS, hle, CB_m hB, CB_f hB, CB_co hB, CB_lk hB, CB_tg hB, CB_tc hB, CB_si hB, CB_se hB, ht, c_isOf hV hS, he, and_self, c_valueAt hV hS, h5, e1]
      · obtain ⟨μ', e1, e2⟩ := skip (fun q => he q.1)
        refine ⟨μ', ?_, e2⟩
        simp (disch := omega) only [fX3_injuryOf_19, Int.reduceEq, Int.reduceNe, Int.reduceLT, Int.reduceLE, Int.reduceAdd, Int.reduceSub, Int.reduceMul, Int.reduceNeg, Int.zero_add, Int.add_zero, nm_eq, bd_some, bv_some, aI_ok, aL_ok, aS_ok, dv_ok, dw_ok, I_add, I_sub, I_mul, I_neg, I_lt, I_le, I_eq, I_nat, J_add, J_sub, J_mul, J_neg, J_lt, J_le, J_eq, I_l, J_i, I_div, J_div, b2_0, b2_1, b2_nar, nar_0, nar_1, zr_0, zr_1, zr_b2, cmp_eq, cmp_le, cmp_lt, cmp_gt, cmp_ge, mx_I, mn_I, mx_L, mn_L, az_I, if_true, if_false, not_true_eq_false, not_false_eq_true, i_0, i_1, i_2, i_3, i_4, i_5, i_6, i_7, i_8, i_9, i_10, i_11, i_12, i_16, i_18, i_20, i_24, i_28, i_29, i_30, i_31, i_32, i_33, i_34, i_35, i_37, i_40, i_41, i_42, i_43, i_45, i_46, i_47, i_48, i_57, i_59, i_63, i_64, i_96, i_97, i_98, i_99, i_100, i_101, i_102, i_103, i_104, i_105, i_106, i_107, i_108, i_109, i_110, i_111, i_112, i_113, i_122, i_200, i_255, i_256, i_257, i_258, i_355, i_400, i_999, i_1000, i_1200, i_5680, i_9999, i_10000, i_99999, j_0, j_1, j_2, j_3, j_4, j_5, j_6, j_9, j_10, j_11, j_98, j_99, j_100, j_999, j_1000, j_9999, j_10000, j_99999, j_1000000, SB_n hS, SB_mk hS, SB_fm hS, SB_md hS, SB_lv hS, SB_mo hS, SB_mn hS, SB_pr hS, SB_of hS, SB_nt hS, SB_li hS, hle, CB_m hB, CB_f hB, CB_co hB, CB_lk hB, CB_tg hB, CB_tc hB, CB_si hB, CB_se hB, ht, c_isOf hV hS, he, e1]
theorem c_ij (hV : vB V) (hN : 100 ≤ N) (f0 : 0 ≤ f) (f1 : f < 4) {μ : Mem} (hB : CB b V μ) : ∃ μ', fX3_injuryOf N b (I_ f) μ = some (I_ (x_ij V f), μ') ∧ Fr P_ij μ μ' ∧ μ'.1 5 9 = I_ (x_ic V f) := by
  have hn := hV.1
  unfold vN at hn
  have hF : Fr P_ij μ (stI μ 5 9 (I_ 0)) := Fr.rf.stI rfl
  obtain ⟨μ', e1, e2, e3⟩ := c_ij_l (N := N) hV f0 f1 (sN V).toNat N 0 _ (by omega) (by omega) (by omega) (hB.F hF P_ij_ge) at_S
  have e1 : fX3_injuryOf_19 N N b (I_ f) (J_ 0) (J_ 0) (I_ 0) (stI μ 5 9 (I_ 0)) = some (I_ (x_ij V f), μ') := e1
  refine ⟨μ', ?_, hF.tr e2, e3⟩
  unfold fX3_injuryOf
  rw [if_pos hB.1]
  simp (disch := omega) only [Int.reduceEq, Int.reduceNe, Int.reduceLT, Int.reduceLE, Int.reduceAdd, Int.reduceSub, Int.reduceMul, Int.reduceNeg, Int.zero_add, Int.add_zero, nm_eq, bd_some, bv_some, aI_ok, aL_ok, aS_ok, dv_ok, dw_ok, I_add, I_sub, I_mul, I_neg, I_lt, I_le, I_eq, I_nat, J_add, J_sub, J_mul, J_neg, J_lt, J_le, J_eq, I_l, J_i, I_div, J_div, b2_0, b2_1, b2_nar, nar_0, nar_1, zr_0, zr_1, zr_b2, cmp_eq, cmp_le, cmp_lt, cmp_gt, cmp_ge, mx_I, mn_I, mx_L, mn_L, az_I, if_true, if_false, not_true_eq_false, not_false_eq_true, i_0, i_1, i_2, i_3, i_4, i_5, i_6, i_7, i_8, i_9, i_10, i_11, i_12, i_16, i_18, i_20, i_24, i_28, i_29, i_30, i_31, i_32, i_33, i_34, i_35, i_37, i_40, i_41, i_42, i_43, i_45, i_46, i_47, i_48, i_57, i_59, i_63, i_64, i_96, i_97, i_98, i_99, i_100, i_101, i_102, i_103, i_104, i_105, i_106, i_107, i_108, i_109, i_110, i_111, i_112, i_113, i_122, i_200, i_255, i_256, i_257, i_258, i_355, i_400, i_999, i_1000, i_1200, i_5680, i_9999, i_10000, i_99999, j_0, j_1, j_2, j_3, j_4, j_5, j_6, j_9, j_10, j_11, j_98, j_99, j_100, j_999, j_1000, j_9999, j_10000, j_99999, j_1000000, e1]
def P_as (i k j : Nat) : Prop := k = 5 ∨ ((k = 23 ∨ k = 24 ∨ k = 25 ∨ k = 26) ∧ j = i)
theorem c_as147 (hV : vB V) (hN : 100 ≤ N) {μ : Mem} (hB : CB b V μ) {i : Int} (h0 : 0 ≤ i) (h1 : i < fN V) (k : Nat → Int32 → Int32 → Mem → Option (Unit × Mem)) (g : Int32) : ∃ μ', fX3_assess_147 N k b g (I_ i) (I_ (x_ra V i)) (I_ i) μ = k b g (I_ (i + 1)) μ' ∧ Fr (P_as i.toNat) μ μ' ∧ μ'.1 24 i.toNat = I_ (x_ra V i) ∧ μ'.1 25 i.toNat = I_ (x_ij V i) ∧ μ'.1 26 i.toNat = I_ (x_du V i) ∧ μ'.1 23 i.toNat = μ.1 23 i.toNat := by
  have hn := hV.1
  unfold vN at hn
  have hb := kB_ge hB.1
  have hr := x_ra_in (V := V) (f := i)
  have hj := x_ij_in (V := V) (f := i)
  have hc := x_ic_in hV i
  have hF1 : Fr (P_as i.toNat) μ (stI μ 24 i.toNat (I_ (x_ra V i))) := Fr.rf.stI (Or.inr ⟨by omega, rfl⟩)
  have ge : ∀ k j, 32 ≤ k → ¬ P_as i.toNat k j := fun k j h => by unfold P_as; omega
  obtain ⟨μ1, a1, a2, a3⟩ := c_ij (N := N) (f := i) hV hN h0 (by omega) (hB.F hF1 ge)
  have hF2 : Fr (P_as i.toNat) μ μ1 := hF1.tr (a2.mono (fun k j h => Or.inl h))
  have hF3 : Fr (P_as i.toNat) μ (stI μ1 25 i.toNat (I_ (x_ij V i))) := hF2.stI (Or.inr ⟨by omega, rfl⟩)
  have hB3 := hB.F hF2 ge
  have r24 : μ1.1 24 i.toNat = I_ (x_ra V i) := by rw [(a2 24 _ (by unfold P_ij; omega)).1]; exact at_S
  have r23 : μ1.1 23 i.toNat = μ.1 23 i.toNat := by rw [(a2 23 _ (by unfold P_ij; omega)).1]; simp (disch := omega) only [st_ne]
  have hF4 : Fr (P_as i.toNat) μ (stI (stI μ1 25 i.toNat (I_ (x_ij V i))) 26 i.toNat (I_ (x_du V i))) := hF3.stI (Or.inr ⟨by omega, rfl⟩)
  refine ⟨_, ?_, hF4, by simp (disch := omega) only [st_ne]; exact r24, by simp (disch := omega) only [st_ne]; exact at_S, at_S, by simp (disch := omega) only [st_ne]; exact r23⟩
  by_cases hs : s_se V 2 = 0
  · have e : x_du V i = x_ra V i := by unfold x_du; rw [if_neg (fun q => q.1 hs)]
    rw [e]
    simp (disch := omega) only [fX3_assess_147, fX3_assess_181, Int.reduceEq, Int.reduceNe, Int.reduceLT, Int.reduceLE, Int.reduceAdd, Int.reduceSub, Int.reduceMul, Int.reduceNeg, Int.zero_add, Int.add_zero, nm_eq, bd_some, bv_some, aI_ok, aL_ok, aS_ok, dv_ok, dw_ok, I_add, I_sub, I_mul, I_neg, I_lt, I_le, I_eq, I_nat, J_add, J_sub, J_mul, J_neg, J_lt, J_le, J_eq, I_l, J_i, I_div, J_div, b2_0, b2_1, b2_nar, nar_0, nar_1, zr_0, zr_1, zr_b2, cmp_eq, cmp_le, cmp_lt, cmp_gt, cmp_ge, mx_I, mn_I, mx_L, mn_L, az_I, if_true, if_false, not_true_eq_false, not_false_eq_true, i_0, i_1, i_2, i_3, i_4, i_5, i_6, i_7, i_8, i_9, i_10, i_11, i_12, i_16, i_18, i_20, i_24, i_28, i_29, i_30, i_31, i_32, i_33, i_34, i_35, i_37, i_40, i_41, i_42, i_43, i_45, i_46, i_47, i_48, i_57, i_59, i_63, i_64, i_96, i_97, i_98, i_99, i_100, i_101, i_102, i_103, i_104, i_105, i_106, i_107, i_108, i_109, i_110, i_111, i_112, i_113, i_122, i_200, i_255, i_256, i_257, i_258, i_355, i_400, i_999, i_1000, i_1200, i_5680, i_9999, i_10000, i_99999, j_0, j_1, j_2, j_3, j_4, j_5, j_6, j_9, j_10, j_11, j_98, j_99, j_100, j_999, j_1000, j_9999, j_10000, j_99999, j_1000000, a1, CB_m hB3, CB_f hB3, CB_co hB3, CB_lk hB3, CB_tg hB3, CB_tc hB3, CB_si hB3, CB_se hB3, hs, st_ne, r24]
  · by_cases hi : x_ic V i ≤ 0
    · have e : x_du V i = x_ra V i := by unfold x_du; rw [if_neg (fun q => by have := q.2; omega)]
      rw [e]
      simp (disch := omega) only [fX3_assess_147, fX3_assess_181, Int.reduceEq, Int.reduceNe, Int.reduceLT, Int.reduceLE, Int.reduceAdd, Int.reduceSub, Int.reduceMul, Int.reduceNeg, Int.zero_add, Int.add_zero, nm_eq, bd_some, bv_some, aI_ok, aL_ok, aS_ok, dv_ok, dw_ok, I_add, I_sub, I_mul, I_neg, I_lt, I_le, I_eq, I_nat, J_add, J_sub, J_mul, J_neg, J_lt, J_le, J_eq, I_l, J_i, I_div, J_div, b2_0, b2_1, b2_nar, nar_0, nar_1, zr_0, zr_1, zr_b2, cmp_eq, cmp_le, cmp_lt, cmp_gt, cmp_ge, mx_I, mn_I, mx_L, mn_L, az_I, if_true, if_false, not_true_eq_false, not_false_eq_true, i_0, i_1, i_2, i_3, i_4, i_5, i_6, i_7, i_8, i_9, i_10, i_11, i_12, i_16, i_18, i_20, i_24, i_28, i_29, i_30, i_31, i_32, i_33, i_34, i_35, i_37, i_40, i_41, i_42, i_43, i_45, i_46, i_47, i_48, i_57, i_59, i_63, i_64, i_96, i_97, i_98, i_99, i_100, i_101, i_102, i_103, i_104, i_105, i_106, i_107, i_108, i_109, i_110, i_111, i_112, i_113, i_122, i_200, i_255, i_256, i_257, i_258, i_355, i_400, i_999, i_1000, i_1200, i_5680, i_9999, i_10000, i_99999, j_0, j_1, j_2, j_3, j_4, j_5, j_6, j_9, j_10, j_11, j_98, j_99, j_100, j_999, j_1000, j_9999, j_10000, j_99999, j_1000000, a1, CB_m hB3, CB_f hB3, CB_co hB3, CB_lk hB3, CB_tg hB3, CB_tc hB3, CB_si hB3, CB_se hB3, hs, st_ne, a3, hi, r24]
    · have e : x_du V i = min (x_ra V i) (x_ij V i) := by unfold x_du; rw [if_pos ⟨hs, by omega⟩]
      rw [e]
      simp (disch := omega) only [fX3_assess_147, fX3_assess_181, Int.reduceEq, Int.reduceNe, Int.reduceLT, Int.reduceLE, Int.reduceAdd, Int.reduceSub, Int.reduceMul, Int.reduceNeg, Int.zero_add, Int.add_zero, nm_eq, bd_some, bv_some, aI_ok, aL_ok, aS_ok, dv_ok, dw_ok, I_add, I_sub, I_mul, I_neg, I_lt, I_le, I_eq, I_nat, J_add, J_sub, J_mul, J_neg, J_lt, J_le, J_eq, I_l, J_i, I_div, J_div, b2_0, b2_1, b2_nar, nar_0, nar_1, zr_0, zr_1, zr_b2, cmp_eq, cmp_le, cmp_lt, cmp_gt, cmp_ge, mx_I, mn_I, mx_L, mn_L, az_I, if_true, if_false, not_true_eq_false, not_false_eq_true, i_0, i_1, i_2, i_3, i_4, i_5, i_6, i_7, i_8, i_9, i_10, i_11, i_12, i_16, i_18, i_20, i_24, i_28, i_29, i_30, i_31, i_32, i_33, i_34, i_35, i_37, i_40, i_41, i_42, i_43, i_45, i_46, i_47, i_48, i_57, i_59, i_63, i_64, i_96, i_97, i_98, i_99, i_100, i_101, i_102, i_103, i_104, i_105, i_106, i_107, i_108, i_109, i_110, i_111, i_112, i_113, i_122, i_200, i_255, i_256, i_257, i_258, i_355, i_400, i_999, i_1000, i_1200, i_5680, i_9999, i_10000, i_99999, j_0, j_1, j_2, j_3, j_4, j_5, j_6, j_9, j_10, j_11, j_98, j_99, j_100, j_999, j_1000, j_9999, j_10000, j_99999, j_1000000, a1, CB_m hB3, CB_f hB3, CB_co hB3, CB_lk hB3, CB_tg hB3, CB_tc hB3, CB_si hB3, CB_se hB3, hs, st_ne, a3, hi, r24, at_I]
theorem c_as90 (hV : vB V) (hN : 100 ≤ N) {μ : Mem} (hB : CB b V μ) (hG : NG V μ) {i : Int} (h0 : 0 ≤ i) (h1 : i < fN V) (h23 : μ.1 23 i.toNat = I_ (x_tn V i)) (k : Nat → Int32 → Int32 → Mem → Option (Unit × Mem)) (g : Int32) : ∃ μ', fX3_assess_90 N k b g (I_ i) μ = k b g (I_ (i + 1)) μ' ∧ Fr (P_as i.toNat) μ μ' ∧ μ'.1 24 i.toNat = I_ (x_ra V i) ∧ μ'.1 25 i.toNat = I_ (x_ij V i) ∧ μ'.1 26 i.toNat = I_ (x_du V i) ∧ μ'.1 23 i.toNat = μ.1 23 i.toNat := by
  have hn := hV.1
  unfold vN at hn
  obtain ⟨μ', e1, e2⟩ := c_as147 (N := N) hV hN hB h0 h1 k g
  refine ⟨μ', ?_, e2⟩
  obtain ⟨r28, r27⟩ := hG i h0 h1
  have hx := x_mn_in hV i 1
  have ht : 0 ≤ x_tn V i ∧ x_tn V i ≤ 99999 := x_tm_in
  by_cases hg : p_ng V i
  · have e : x_ra V i = 0 := by unfold x_ra; rw [if_pos (Or.inl hg)]
    rw [e] at e1
    simp (disch := omega) only [fX3_assess_90, fX3_assess_125, Int.reduceEq, Int.reduceNe, Int.reduceLT, Int.reduceLE, Int.reduceAdd, Int.reduceSub, Int.reduceMul, Int.reduceNeg, Int.zero_add, Int.add_zero, nm_eq, bd_some, bv_some, aI_ok, aL_ok, aS_ok, dv_ok, dw_ok, I_add, I_sub, I_mul, I_neg, I_lt, I_le, I_eq, I_nat, J_add, J_sub, J_mul, J_neg, J_lt, J_le, J_eq, I_l, J_i, I_div, J_div, b2_0, b2_1, b2_nar, nar_0, nar_1, zr_0, zr_1, zr_b2, cmp_eq, cmp_le, cmp_lt, cmp_gt, cmp_ge, mx_I, mn_I, mx_L, mn_L, az_I, if_true, if_false, not_true_eq_false, not_false_eq_true, i_0, i_1, i_2, i_3, i_4, i_5, i_6, i_7, i_8, i_9, i_10, i_11, i_12, i_16, i_18, i_20, i_24, i_28, i_29, i_30, i_31, i_32, i_33, i_34, i_35, i_37, i_40, i_41, i_42, i_43, i_45, i_46, i_47, i_48, i_57, i_59, i_63, i_64, i_96, i_97, i_98, i_99, i_100, i_101, i_102, i_103, i_104, i_105, i_106, i_107, i_108, i_109, i_110, i_111, i_112, i_113, i_122, i_200, i_255, i_256, i_257, i_258, i_355, i_400, i_999, i_1000, i_1200, i_5680, i_9999, i_10000, i_99999, j_0, j_1, j_2, j_3, j_4, j_5, j_6, j_9, j_10, j_11, j_98, j_99, j_100, j_999, j_1000, j_9999, j_10000, j_99999, j_1000000, r27, b2_t hg, e1]
  · by_cases hz : x_mn V i 1 = 0
    · have e : x_ra V i = 0 := by unfold x_ra; rw [if_pos (Or.inr (Or.inl hz))]
      rw [e] at e1
      simp (disch := omega) only [fX3_assess_90, fX3_assess_125, Int.reduceEq, Int.reduceNe, Int.reduceLT, Int.reduceLE, Int.reduceAdd, Int.reduceSub, Int.reduceMul, Int.reduceNeg, Int.zero_add, Int.add_zero, nm_eq, bd_some, bv_some, aI_ok, aL_ok, aS_ok, dv_ok, dw_ok, I_add, I_sub, I_mul, I_neg, I_lt, I_le, I_eq, I_nat, J_add, J_sub, J_mul, J_neg, J_lt, J_le, J_eq, I_l, J_i, I_div, J_div, b2_0, b2_1, b2_nar, nar_0, nar_1, zr_0, zr_1, zr_b2, cmp_eq, cmp_le, cmp_lt, cmp_gt, cmp_ge, mx_I, mn_I, mx_L, mn_L, az_I, if_true, if_false, not_true_eq_false, not_false_eq_true, i_0, i_1, i_2, i_3, i_4, i_5, i_6, i_7, i_8, i_9, i_10, i_11, i_12, i_16, i_18, i_20, i_24, i_28, i_29, i_30, i_31, i_32, i_33, i_34, i_35, i_37, i_40, i_41, i_42, i_43, i_45, i_46, i_47, i_48, i_57, i_59, i_63, i_64, i_96, i_97, i_98, i_99, i_100, i_101, i_102, i_103, i_104, i_105, i_106, i_107, i_108, i_109, i_110, i_111, i_112, i_113, i_122, i_200, i_255, i_256, i_257, i_258, i_355, i_400, i_999, i_1000, i_1200, i_5680, i_9999, i_10000, i_99999, j_0, j_1, j_2, j_3, j_4, j_5, j_6, j_9, j_10, j_11, j_98, j_99, j_100, j_999, j_1000, j_9999, j_10000, j_99999, j_1000000, r27, b2_f hg, r28, hz, e1]
    · by_cases hl : x_tn V i < 200
      · have e : x_ra V i = 0 := by unfold x_ra; rw [if_pos (Or.inr (Or.inr hl))]
        rw [e] at e1
        have hl' : ¬ 200 ≤ x_tn V i := by omega
        simp (disch := omega) only [fX3_assess_90, fX3_assess_125, Int.reduceEq, Int.reduceNe, Int.reduceLT, Int.reduceLE, Int.reduceAdd, Int.reduceSub, Int.reduceMul, Int.reduceNeg, Int.zero_add, Int.add_zero, nm_eq, bd_some, bv_some, aI_ok, aL_ok, aS_ok, dv_ok, dw_ok, I_add, I_sub, I_mul, I_neg, I_lt, I_le, I_eq, I_nat, J_add, J_sub, J_mul, J_neg, J_lt, J_le, J_eq, I_l, J_i, I_div, J_div, b2_0, b2_1, b2_nar, nar_0, nar_1, zr_0, zr_1, zr_b2, cmp_eq, cmp_le, cmp_lt, cmp_gt, cmp_ge, mx_I, mn_I, mx_L, mn_L, az_I, if_true, if_false, not_true_eq_false, not_false_eq_true, i_0, i_1, i_2, i_3, i_4, i_5, i_6, i_7, i_8, i_9, i_10, i_11, i_12, i_16, i_18, i_20, i_24, i_28, i_29, i_30, i_31, i_32, i_33, i_34, i_35, i_37, i_40, i_41, i_42, i_43, i_45, i_46, i_47, i_48, i_57, i_59, i_63, i_64, i_96, i_97, i_98, i_99, i_100, i_101, i_102, i_103, i_104, i_105, i_106, i_107, i_108, i_109, i_110, i_111, i_112, i_113, i_122, i_200, i_255, i_256, i_257, i_258, i_355, i_400, i_999, i_1000, i_1200, i_5680, i_9999, i_10000, i_99999, j_0, j_1, j_2, j_3, j_4, j_5, j_6, j_9, j_10, j_11, j_98, j_99, j_100, j_999, j_1000, j_9999, j_10000, j_99999, j_1000000, r27, b2_f hg, r28, hz, h23, hl', e1]
      · have e : x_ra V i = x_tn V i := by unfold x_ra; rw [if_neg (fun q => q.elim hg (fun q => q.elim hz hl))]
        rw [e] at e1
        have hl' : 200 ≤ x_tn V i := by omega
        simp (disch := omega) only [fX3_assess_90, fX3_assess_125, Int.reduceEq, Int.reduceNe, Int.reduceLT, Int.reduceLE, Int.reduceAdd, Int.reduceSub, Int.reduceMul, Int.reduceNeg, Int.zero_add, Int.add_zero, nm_eq, bd_some, bv_some, aI_ok, aL_ok, aS_ok, dv_ok, dw_ok, I_add, I_sub, I_mul, I_neg, I_lt, I_le, I_eq, I_nat, J_add, J_sub, J_mul, J_neg, J_lt, J_le, J_eq, I_l, J_i, I_div, J_div, b2_0, b2_1, b2_nar, nar_0, nar_1, zr_0, zr_1, zr_b2, cmp_eq, cmp_le, cmp_lt, cmp_gt, cmp_ge, mx_I, mn_I, mx_L, mn_L, az_I, if_true, if_false, not_true_eq_false, not_false_eq_true, i_0, i_1, i_2, i_3, i_4, i_5, i_6, i_7, i_8, i_9, i_10, i_11, i_12, i_16, i_18, i_20, i_24, i_28, i_29, i_30, i_31, i_32, i_33, i_34, i_35, i_37, i_40, i_41, i_42, i_43, i_45, i_46, i_47, i_48, i_57, i_59, i_63, i_64, i_96, i_97, i_98, i_99, i_100, i_101, i_102, i_103, i_104, i_105, i_106, i_107, i_108, i_109, i_110, i_111, i_112, i_113, i_122, i_200, i_255, i_256, i_257, i_258, i_355, i_400, i_999, i_1000, i_1200, i_5680, i_9999, i_10000, i_99999, j_0, j_1, j_2, j_3, j_4, j_5, j_6, j_9, j_10, j_11, j_98, j_99, j_100, j_999, j_1000, j_9999, j_10000, j_99999, j_1000000, r27, b2_f hg, r28, hz, h23, hl', e1]
/-- all firms' numbers stand -/
def DU (V : Vw) (μ : Mem) : Prop := NG V μ ∧ ∀ f, 0 ≤ f → f < fN V → μ.1 23 f.toNat = I_ (x_tn V f) ∧ μ.1 24 f.toNat = I_ (x_ra V f) ∧ μ.1 25 f.toNat = I_ (x_ij V f) ∧ μ.1 26 f.toNat = I_ (x_du V f)
theorem P_du_as {i k j : Nat} (h : P_as i k j) : P_du k j := by unfold P_as at h; unfold P_du; omega
theorem c_as63 (hV : vB V) (hN : 100 ≤ N) : ∀ (d n : Nat) (i : Int) (μ : Mem), d < n → 0 ≤ i → i + d = fN V → CB b V μ → NG V μ → (∀ j, 0 ≤ j → j < i → μ.1 23 j.toNat = I_ (x_tn V j) ∧ μ.1 24 j.toNat = I_ (x_ra V j) ∧ μ.1 25 j.toNat = I_ (x_ij V j) ∧ μ.1 26 j.toNat = I_ (x_du V j)) → (∀ j, i ≤ j → j < fN V → μ.1 23 j.toNat = I_ (x_ma V j (s_se V 0) 0 (s_se V 1 = 1))) → ∃ μ', fX3_assess_63 N n b (I_ (x_gr V (s_se V 0) (s_se V 1 = 1))) (I_ i) μ = some ((), μ') ∧ Fr P_du μ μ' ∧ DU V μ' := by
  have hn := hV.1
  unfold vN at hn
  intro d
  induction d with
  | zero =>
    intro n i μ h1 h2 h3 hB hG hD h23
    obtain ⟨n, rfl⟩ : ∃ m, n = m + 1 := ⟨n - 1, by omega⟩
    have hle : fN V ≤ i := by omega
    refine ⟨μ, ?_, Fr.rf, hG, fun j j0 j1 => hD j j0 (by omega)⟩
    simp (disch := omega) only [fX3_assess_63, Int.reduceEq, Int.reduceNe, Int.reduceLT, Int.reduceLE, Int.reduceAdd, Int.reduceSub, Int.reduceMul, Int.reduceNeg, Int.zero_add, Int.add_zero, nm_eq, bd_some, bv_some, aI_ok, aL_ok, aS_ok, dv_ok, dw_ok, I_add, I_sub, I_mul, I_neg, I_lt, I_le, I_eq, I_nat, J_add, J_sub, J_mul, J_neg, J_lt, J_le, J_eq, I_l, J_i, I_div, J_div, b2_0, b2_1, b2_nar, nar_0, nar_1, zr_0, zr_1, zr_b2, cmp_eq, cmp_le, cmp_lt, cmp_gt, cmp_ge, mx_I, mn_I, mx_L, mn_L, az_I, if_true, if_false, not_true_eq_false, not_false_eq_true, i_0, i_1, i_2, i_3, i_4, i_5, i_6, i_7, i_8, i_9, i_10, i_11, i_12, i_16, i_18, i_20, i_24, i_28, i_29, i_30, i_31, i_32, i_33, i_34, i_35, i_37, i_40, i_41, i_42, i_43, i_45, i_46, i_47, i_48, i_57, i_59, i_63, i_64, i_96, i_97, i_98, i_99, i_100, i_101, i_102, i_103, i_104, i_105, i_106, i_107, i_108, i_109, i_110, i_111, i_112, i_113, i_122, i_200, i_255, i_256, i_257, i_258, i_355, i_400, i_999, i_1000, i_1200, i_5680, i_9999, i_10000, i_99999, j_0, j_1, j_2, j_3, j_4, j_5, j_6, j_9, j_10, j_11, j_98, j_99, j_100, j_999, j_1000, j_9999, j_10000, j_99999, j_1000000, CB_m hB, CB_f hB, CB_co hB, CB_lk hB, CB_tg hB, CB_tc hB, CB_si hB, CB_se hB, hle]
  | succ d ih =>
    intro n i μ h1 h2 h3 hB hG hD h23
    obtain ⟨n, rfl⟩ : ∃ m, n = m + 1 := ⟨n - 1, by omega⟩
    have hle : ¬ fN V ≤ i := by omega
    have hlt : i < fN V := by omega
    have hsi := hV.2.2.2.2 i h2 (by omega)
    have go : ∀ μ1 : Mem, Fr (P_as i.toNat) μ μ1 → μ1.1 23 i.toNat = I_ (x_tn V i) → ∃ μ', fX3_assess_90 N (fun b0 v2 v3 μ => fX3_assess_63 N n b0 v2 v3 μ) b (I_ (x_gr V (s_se V 0) (s_se V 1 = 1))) (I_ i) μ1 = some ((), μ') ∧ Fr P_du μ μ' ∧ DU V μ' := fun μ1 hF hq => by
      have ge : ∀ k j, 32 ≤ k → ¬ P_as i.toNat k j := fun k j h => by unfold P_as; omega
      have hG1 : NG V μ1 := fun j j0 j1 => by
        rw [(hF 28 _ (by unfold P_as; omega)).1, (hF 27 _ (by unfold P_as; omega)).1]; exact hG j j0 j1
      obtain ⟨μ2, a1, a2, a3, a4, a5, a6⟩ := c_as90 (N := N) hV hN (hB.F hF ge) hG1 h2 hlt hq (fun b0 v2 v3 μ => fX3_assess_63 N n b0 v2 v3 μ) (I_ (x_gr V (s_se V 0) (s_se V 1 = 1)))
      have hF2 := hF.tr a2
      obtain ⟨μ', e1, e2, e3⟩ := ih n (i + 1) μ2 (by omega) (by omega) (by omega) (hB.F hF2 ge) (fun j j0 j1 => by
        rw [(hF2 28 _ (by unfold P_as; omega)).1, (hF2 27 _ (by unfold P_as; omega)).1]; exact hG j j0 j1) (fun j j0 j1 => by
        by_cases hj : j = i
        · rw [hj]; exact ⟨a6.trans hq, a3, a4, a5⟩
        · rw [(hF2 23 _ (by unfold P_as; omega)).1, (hF2 24 _ (by unfold P_as; omega)).1, (hF2 25 _ (by unfold P_as; omega)).1, (hF2 26 _ (by unfold P_as; omega)).1]
          exact hD j j0 (by omega)) (fun j j0 j1 => by
        rw [(hF2 23 _ (by unfold P_as; omega)).1]; exact h23 j (by omega) j1)
      exact ⟨μ', by rw [a1]; exact e1, (hF2.mono (fun k j h => P_du_as h)).tr e2, e3⟩
    by_cases hs : s_si V i = 0
    · obtain ⟨μ', e1, e2⟩ := go μ Fr.rf (by rw [h23 i (by omega) hlt]; unfold x_tn x_tm; rw [if_pos hs])
      refine ⟨μ', ?_, e2⟩
      simp (disch := omega) only [fX3_assess_63, Int.reduceEq, Int.reduceNe, Int.reduceLT, Int.reduceLE, Int.reduceAdd, Int.reduceSub, Int.reduceMul, Int.reduceNeg, Int.zero_add, Int.add_zero, nm_eq, bd_some, bv_some, aI_ok, aL_ok, aS_ok, dv_ok, dw_ok, I_add, I_sub, I_mul, I_neg, I_lt, I_le, I_eq, I_nat, J_add, J_sub, J_mul, J_neg, J_lt, J_le, J_eq, I_l, J_i, I_div, J_div, b2_0, b2_1, b2_nar, nar_0, nar_1, zr_0, zr_1, zr_b2, cmp_eq, cmp_le, cmp_lt, cmp_gt, cmp_ge, mx_I, mn_I, mx_L, mn_L, az_I, if_true, if_false, not_true_eq_false, not_false_eq_true, i_0, i_1, i_2, i_3, i_4, i_5, i_6, i_7, i_8, i_9, i_10, i_11, i_12, i_16, i_18, i_20, i_24, i_28, i_29, i_30, i_31, i_32, i_33, i_34, i_35, i_37, i_40, i_41, i_42, i_43, i_45, i_46, i_47, i_48, i_57, i_59, i_63, i_64, i_96, i_97, i_98, i_99, i_100, i_101, i_102, i_103, i_104, i_105, i_106, i_107, i_108, i_109, i_110, i_111, i_112, i_113, i_122, i_200, i_255, i_256, i_257, i_258, i_355, i_400, i_999, i_1000, i_1200, i_5680, i_9999, i_10000, i_99999, j_0, j_1, j_2, j_3, j_4, j_5, j_6, j_9, j_10, j_11, j_98, j_99, j_100, j_999, j_1000, j_9999, j_10000, j_99999, j_1000000, CB_m hB, CB_f hB, CB_co hB, CB_lk hB, CB_tg hB, CB_tc hB, CB_si hB, CB_se hB, hle, hs, e1]
    · obtain ⟨μ', e1, e2⟩ := go (stI μ 23 i.toNat (I_ (x_gr V (s_se V 0) (s_se V 1 = 1)))) (Fr.rf.stI (Or.inr ⟨by omega, rfl⟩)) (by rw [at_S]; unfold x_tn x_tm; rw [if_neg hs])
      refine ⟨μ', ?_, e2⟩
      simp (disch := omega) only [fX3_assess_63, Int.reduceEq, Int.reduceNe, Int.reduceLT, Int.reduceLE, Int.reduceAdd, Int.reduceSub, Int.reduceMul, Int.reduceNeg, Int.zero_add, Int.add_zero, nm_eq, bd_some, bv_some, aI_ok, aL_ok, aS_ok, dv_ok, dw_ok, I_add, I_sub, I_mul, I_neg, I_lt, I_le, I_eq, I_nat, J_add, J_sub, J_mul, J_neg, J_lt, J_le, J_eq, I_l, J_i, I_div, J_div, b2_0, b2_1, b2_nar, nar_0, nar_1, zr_0, zr_1, zr_b2, cmp_eq, cmp_le, cmp_lt, cmp_gt, cmp_ge, mx_I, mn_I, mx_L, mn_L, az_I, if_true, if_false, not_true_eq_false, not_false_eq_true, i_0, i_1, i_2, i_3, i_4, i_5, i_6, i_7, i_8, i_9, i_10, i_11, i_12, i_16, i_18, i_20, i_24, i_28, i_29, i_30, i_31, i_32, i_33, i_34, i_35, i_37, i_40, i_41, i_42, i_43, i_45, i_46, i_47, i_48, i_57, i_59, i_63, i_64, i_96, i_97, i_98, i_99, i_100, i_101, i_102, i_103, i_104, i_105, i_106, i_107, i_108, i_109, i_110, i_111, i_112, i_113, i_122, i_200, i_255, i_256, i_257, i_258, i_355, i_400, i_999, i_1000, i_1200, i_5680, i_9999, i_10000, i_99999, j_0, j_1, j_2, j_3, j_4, j_5, j_6, j_9, j_10, j_11, j_98, j_99, j_100, j_999, j_1000, j_9999, j_10000, j_99999, j_1000000, CB_m hB, CB_f hB, CB_co hB, CB_lk hB, CB_tg hB, CB_tc hB, CB_si hB, CB_se hB, hle, hs, e1]
theorem c_as9 (hV : vB V) (hN : 100 ≤ N) : ∀ (d n : Nat) (i : Int) (μ : Mem), d < n → 0 ≤ i → i + d = fN V → CB b V μ → NG V μ → (∀ j, 0 ≤ j → j < i → μ.1 23 j.toNat = I_ (x_ma V j (s_se V 0) 0 (s_se V 1 = 1))) → ∃ μ', fX3_assess_9 N n b (I_ (mxs V (s_se V 0) (s_se V 1 = 1) i.toNat)) (I_ i) μ = some ((), μ') ∧ Fr P_du μ μ' ∧ DU V μ' := by
  have hn := hV.1
  unfold vN at hn
  intro d
  induction d with
  | zero =>
    intro n i μ h1 h2 h3 hB hG h23
    obtain ⟨n, rfl⟩ : ∃ m, n = m + 1 := ⟨n - 1, by omega⟩
    have hle : fN V ≤ i := by omega
    have hi : i = fN V := by omega
    subst hi
    obtain ⟨μ', e1, e2, e3⟩ := c_as63 (N := N) hV hN (fN V).toNat N 0 μ (by omega) (by omega) (by omega) hB hG (fun j a c => by omega) (fun j a c => h23 j a c)
    have e1 : fX3_assess_63 N N b (I_ (mxs V (s_se V 0) (s_se V 1 = 1) (fN V).toNat)) (I_ 0) μ = some ((), μ') := e1
    refine ⟨μ', ?_, e2, e3⟩
    simp (disch := omega) only [fX3_assess_9, Int.reduceEq, Int.reduceNe, Int.reduceLT, Int.reduceLE, Int.reduceAdd, Int.reduceSub, Int.reduceMul, Int.reduceNeg, Int.zero_add, Int.add_zero, nm_eq, bd_some, bv_some, aI_ok, aL_ok, aS_ok, dv_ok, dw_ok, I_add, I_sub, I_mul, I_neg, I_lt, I_le, I_eq, I_nat, J_add, J_sub, J_mul, J_neg, J_lt, J_le, J_eq, I_l, J_i, I_div, J_div, b2_0, b2_1, b2_nar, nar_0, nar_1, zr_0, zr_1, zr_b2, cmp_eq, cmp_le, cmp_lt, cmp_gt, cmp_ge, mx_I, mn_I, mx_L, mn_L, az_I, if_true, if_false, not_true_eq_false, not_false_eq_true, i_0, i_1, i_2, i_3, i_4, i_5, i_6, i_7, i_8, i_9, i_10, i_11, i_12, i_16, i_18, i_20, i_24, i_28, i_29, i_30, i_31, i_32, i_33, i_34, i_35, i_37, i_40, i_41, i_42, i_43, i_45, i_46, i_47, i_48, i_57, i_59, i_63, i_64, i_96, i_97, i_98, i_99, i_100, i_101, i_102, i_103, i_104, i_105, i_106, i_107, i_108, i_109, i_110, i_111, i_112, i_113, i_122, i_200, i_255, i_256, i_257, i_258, i_355, i_400, i_999, i_1000, i_1200, i_5680, i_9999, i_10000, i_99999, j_0, j_1, j_2, j_3, j_4, j_5, j_6, j_9, j_10, j_11, j_98, j_99, j_100, j_999, j_1000, j_9999, j_10000, j_99999, j_1000000, CB_m hB, CB_f hB, CB_co hB, CB_lk hB, CB_tg hB, CB_tc hB, CB_si hB, CB_se hB, hle, e1]
  | succ d ih =>
    intro n i μ h1 h2 h3 hB hG h23
    obtain ⟨n, rfl⟩ : ∃ m, n = m + 1 := ⟨n - 1, by omega⟩
    have hle : ¬ fN V ≤ i := by omega
    have hsi := hV.2.2.2.2 i h2 (by omega)
    have hmx := mxs_in (V := V) (t := s_se V 0) (Z := (s_se V 1 = 1)) i.toNat
    have hma := x_ma_in (Z := (s_se V 1 = 1)) V i (s_se V 0) 0
    obtain ⟨μ1, a1, a2⟩ := c_now (N := N) (f := i) hV hN h2 (by omega) hB
    have hF : Fr P_du μ (stI μ1 23 i.toNat (I_ (x_ma V i (s_se V 0) 0 (s_se V 1 = 1)))) := (a2.mono (fun k j h => by unfold P_cp at h; unfold P_du; omega)).stI (by unfold P_du; omega)
    have hB2 := hB.du hF
    have q : ∀ c, c = 23 ∨ c = 27 ∨ c = 28 → ∀ j, μ1.1 c j = μ.1 c j := fun c hc j => (a2 c j (by unfold P_cp; omega)).1
    obtain ⟨μ', e1, e2, e3⟩ := ih n (i + 1) (stI μ1 23 i.toNat (I_ (x_ma V i (s_se V 0) 0 (s_se V 1 = 1)))) (by omega) (by omega) (by omega) hB2 (fun j j0 j1 => by
      simp (disch := omega) only [st_ne]
      rw [q 28 (by omega), q 27 (by omega)]
      exact hG j j0 j1) (fun j j0 j1 => by
      simp (disch := omega) only [at_I]
      by_cases hj : j = i
      · rw [if_pos hj, hj]
      · rw [if_neg hj, q 23 (by omega)]; exact h23 j j0 (by omega))
    rw [mxs_step h2] at e1
    refine ⟨μ', ?_, hF.tr e2, e3⟩
    by_cases hs : s_si V i = 0
    · rw [if_pos hs] at e1
      simp (disch := omega) only [fX3_assess_9, Int.reduceEq, Int.reduceNe, Int.reduceLT, Int.reduceLE, Int.reduceAdd, Int.reduceSub, Int.reduceMul, Int.reduceNeg, Int.zero_add, Int.add_zero, nm_eq, bd_some, bv_some, aI_ok, aL_ok, aS_ok, dv_ok, dw_ok, I_add, I_sub, I_mul, I_neg, I_lt, I_le, I_eq, I_nat, J_add, J_sub, J_mul, J_neg, J_lt, J_le, J_eq, I_l, J_i, I_div, J_div, b2_0, b2_1, b2_nar, nar_0, nar_1, zr_0, zr_1, zr_b2, cmp_eq, cmp_le, cmp_lt, cmp_gt, cmp_ge, mx_I, mn_I, mx_L, mn_L, az_I, if_true, if_false, not_true_eq_false, not_false_eq_true, i_0, i_1, i_2, i_3, i_4, i_5, i_6, i_7, i_8, i_9, i_10, i_11, i_12, i_16, i_18, i_20, i_24, i_28, i_29, i_30, i_31, i_32, i_33, i_34, i_35, i_37, i_40, i_41, i_42, i_43, i_45, i_46, i_47, i_48, i_57, i_59, i_63, i_64, i_96, i_97, i_98, i_99, i_100, i_101, i_102, i_103, i_104, i_105, i_106, i_107, i_108, i_109, i_110, i_111, i_112, i_113, i_122, i_200, i_255, i_256, i_257, i_258, i_355, i_400, i_999, i_1000, i_1200, i_5680, i_9999, i_10000, i_99999, j_0, j_1, j_2, j_3, j_4, j_5, j_6, j_9, j_10, j_11, j_98, j_99, j_100, j_999, j_1000, j_9999, j_10000, j_99999, j_1000000, CB_f hB, hle, a1, CB_si hB2, hs, at_I, e1]
    · rw [if_neg hs] at e1
      simp (disch := omega) only [fX3_assess_9, Int.reduceEq, Int.reduceNe, Int.reduceLT, Int.reduceLE, Int.reduceAdd, Int.reduceSub, Int.reduceMul, Int.reduceNeg, Int.zero_add, Int.add_zero, nm_eq, bd_some, bv_some, aI_ok, aL_ok, aS_ok, dv_ok, dw_ok, I_add, I_sub, I_mul, I_neg, I_lt, I_le, I_eq, I_nat, J_add, J_sub, J_mul, J_neg, J_lt, J_le, J_eq, I_l, J_i, I_div, J_div, b2_0, b2_1, b2_nar, nar_0, nar_1, zr_0, zr_1, zr_b2, cmp_eq, cmp_le, cmp_lt, cmp_gt, cmp_ge, mx_I, mn_I, mx_L, mn_L, az_I, if_true, if_false, not_true_eq_false, not_false_eq_true, i_0, i_1, i_2, i_3, i_4, i_5, i_6, i_7, i_8, i_9, i_10, i_11, i_12, i_16, i_18, i_20, i_24, i_28, i_29, i_30, i_31, i_32, i_33, i_34, i_35, i_37, i_40, i_41, i_42, i_43, i_45, i_46, i_47, i_48, i_57, i_59, i_63, i_64, i_96, i_97, i_98, i_99, i_100, i_101, i_102, i_103, i_104, i_105, i_106, i_107, i_108, i_109, i_110, i_111, i_112, i_113, i_122, i_200, i_255, i_256, i_257, i_258, i_355, i_400, i_999, i_1000, i_1200, i_5680, i_9999, i_10000, i_99999, j_0, j_1, j_2, j_3, j_4, j_5, j_6, j_9, j_10, j_11, j_98, j_99, j_100, j_999, j_1000, j_9999, j_10000, j_99999, j_1000000, CB_f hB, hle, a1, CB_si hB2, hs, e1]
theorem c_as (hV : vB V) (hN : 100 ≤ N) {μ : Mem} (hB : CB b V μ) : ∃ μ', fX3_assess N b μ = some ((), μ') ∧ Fr P_du μ μ' ∧ DU V μ' := by
  have hn := hV.1
  unfold vN at hn
  obtain ⟨μ1, a1, a2, a3⟩ := c_mk (N := N) hV hN hB
  have hF : Fr P_du μ μ1 := a2.mono (fun k j h => by unfold P_mk at h; unfold P_du; omega)
  obtain ⟨μ', e1, e2, e3⟩ := c_as9 (N := N) hV hN (fN V).toNat N 0 μ1 (by omega) (by omega) (by omega) (hB.du hF) a3 (fun j a c => by omega)
  have e1 : fX3_assess_9 N N b (I_ 0) (I_ 0) μ1 = some ((), μ') := e1
  refine ⟨μ', ?_, hF.tr e2, e3⟩
  unfold fX3_assess
  rw [if_pos hB.1]
  simp (disch := omega) only [Int.reduceEq, Int.reduceNe, Int.reduceLT, Int.reduceLE, Int.reduceAdd, Int.reduceSub, Int.reduceMul, Int.reduceNeg, Int.zero_add, Int.add_zero, nm_eq, bd_some, bv_some, aI_ok, aL_ok, aS_ok, dv_ok, dw_ok, I_add, I_sub, I_mul, I_neg, I_lt, I_le, I_eq, I_nat, J_add, J_sub, J_mul, J_neg, J_lt, J_le, J_eq, I_l, J_i, I_div, J_div, b2_0, b2_1, b2_nar, nar_0, nar_1, zr_0, zr_1, zr_b2, cmp_eq, cmp_le, cmp_lt, cmp_gt, cmp_ge, mx_I, mn_I, mx_L, mn_L, az_I, if_true, if_false, not_true_eq_false, not_false_eq_true, i_0, i_1, i_2, i_3, i_4, i_5, i_6, i_7, i_8, i_9, i_10, i_11, i_12, i_16, i_18, i_20, i_24, i_28, i_29, i_30, i_31, i_32, i_33, i_34, i_35, i_37, i_40, i_41, i_42, i_43, i_45, i_46, i_47, i_48, i_57, i_59, i_63, i_64, i_96, i_97, i_98, i_99, i_100, i_101, i_102, i_103, i_104, i_105, i_106, i_107, i_108, i_109, i_110, i_111, i_112, i_113, i_122, i_200, i_255, i_256, i_257, i_258, i_355, i_400, i_999, i_1000, i_1200, i_5680, i_9999, i_10000, i_99999, j_0, j_1, j_2, j_3, j_4, j_5, j_6, j_9, j_10, j_11, j_98, j_99, j_100, j_999, j_1000, j_9999, j_10000, j_99999, j_1000000, a1, e1]
theorem c_tm_l {Z : Prop} [Decidable Z] (hV : vB V) (hN : 100 ≤ N) (t0 : 0 ≤ t) (t1 : t ≤ 2) : ∀ (d n : Nat) (i : Int) (μ : Mem), d < n → 0 ≤ i → i + d = fN V → CB b V μ → ∃ μ', fX3_marginTold_28 N n b (I_ t) (I_ (b2 Z)) (I_ (mxs V t Z i.toNat)) (I_ i) μ = some (I_ (x_gr V t Z), μ') ∧ Fr P_cp μ μ' := by
  have hn := hV.1
  unfold vN at hn
  intro d
  induction d with
  | zero =>
    intro n i μ h1 h2 h3 hB
    obtain ⟨n, rfl⟩ : ∃ m, n = m + 1 := ⟨n - 1, by omega⟩
    have hle : fN V ≤ i := by omega
    have hi : i = fN V := by omega
    subst hi
    refine ⟨μ, ?_, Fr.rf⟩
    simp (disch := omega) only [fX3_marginTold_28, Int.reduceEq, Int.reduceNe, Int.reduceLT, Int.reduceLE, Int.reduceAdd, Int.reduceSub, Int.reduceMul, Int.reduceNeg, Int.zero_add, Int.add_zero, nm_eq, bd_some, bv_some, aI_ok, aL_ok, aS_ok, dv_ok, dw_ok, I_add, I_sub, I_mul, I_neg, I_lt, I_le, I_eq, I_nat, J_add, J_sub, J_mul, J_neg, J_lt, J_le, J_eq, I_l, J_i, I_div, J_div, b2_0, b2_1, b2_nar, nar_0, nar_1, zr_0, zr_1, zr_b2, cmp_eq, cmp_le, cmp_lt, cmp_gt, cmp_ge, mx_I, mn_I, mx_L, mn_L, az_I, if_true, if_false, not_true_eq_false, not_false_eq_true, i_0, i_1, i_2, i_3, i_4, i_5, i_6, i_7, i_8, i_9, i_10, i_11, i_12, i_16, i_18, i_20, i_24, i_28, i_29, i_30, i_31, i_32, i_33, i_34, i_35, i_37, i_40, i_41, i_42, i_43, i_45, i_46, i_47, i_48, i_57, i_59, i_63, i_64, i_96, i_97, i_98, i_99, i_100, i_101, i_102, i_103, i_104, i_105, i_106, i_107, i_108, i_109, i_110, i_111, i_112, i_113, i_122, i_200, i_255, i_256, i_257, i_258, i_355, i_400, i_999, i_1000, i_1200, i_5680, i_9999, i_10000, i_99999, j_0, j_1, j_2, j_3, j_4, j_5, j_6, j_9, j_10, j_11, j_98, j_99, j_100, j_999, j_1000, j_9999, j_10000, j_99999, j_1000000, CB_f hB, hle]
    rfl
  | succ d ih =>
    intro n i μ h1 h2 h3 hB
    obtain ⟨n, rfl⟩ : ∃ m, n = m + 1 := ⟨n - 1, by omega⟩
    have hle : ¬ fN V ≤ i := by omega
    have hsi := hV.2.2.2.2 i h2 (by omega)
    have hmx := mxs_in (V := V) (t := t) (Z := Z) i.toNat
    have hma := x_ma_in (Z := Z) V i t 0
    by_cases hs : s_si V i = 0
    · obtain ⟨μ1, a1, a2⟩ := c_own (N := N) (f := i) (Z := Z) hV hN h2 (by omega) t0 t1 hB
      obtain ⟨μ', e1, e2⟩ := ih n (i + 1) μ1 (by omega) (by omega) (by omega) (hB.cp a2)
      rw [mxs_step h2, if_pos hs] at e1
      refine ⟨μ', ?_, a2.tr e2⟩
      simp (disch := omega) only [fX3_marginTold_28, Int.reduceEq, Int.reduceNe, Int.reduceLT, Int.reduceLE, Int.reduceAdd, Int.reduceSub, Int.reduceMul, Int.reduceNeg, Int.zero_add, Int.add_zero, nm_eq, bd_some, bv_some, aI_ok, aL_ok, aS_ok, dv_ok, dw_ok, I_add, I_sub, I_mul, I_neg, I_lt, I_le, I_eq, I_nat, J_add, J_sub, J_mul, J_neg, J_lt, J_le, J_eq, I_l, J_i, I_div, J_div, b2_0, b2_1, b2_nar, nar_0, nar_1, zr_0, zr_1, zr_b2, cmp_eq, cmp_le, cmp_lt, cmp_gt, cmp_ge, mx_I, mn_I, mx_L, mn_L, az_I, if_true, if_false, not_true_eq_false, not_false_eq_true, i_0, i_1, i_2, i_3, i_4, i_5, i_6, i_7, i_8, i_9, i_10, i_11, i_12, i_16, i_18, i_20, i_24, i_28, i_29, i_30, i_31, i_32, i_33, i_34, i_35, i_37, i_40, i_41, i_42, i_43, i_45, i_46, i_47, i_48, i_57, i_59, i_63, i_64, i_96, i_97, i_98, i_99, i_100, i_101, i_102, i_103, i_104, i_105, i_106, i_107, i_108, i_109, i_110, i_111, i_112, i_113, i_122, i_200, i_255, i_256, i_257, i_258, i_355, i_400, i_999, i_1000, i_1200, i_5680, i_9999, i_10000, i_99999, j_0, j_1, j_2, j_3, j_4, j_5, j_6, j_9, j_10, j_11, j_98, j_99, j_100, j_999, j_1000, j_9999, j_10000, j_99999, j_1000000, CB_f hB, hle, CB_si hB, hs, a1, e1]
    · obtain ⟨μ', e1, e2⟩ := ih n (i + 1) μ (by omega) (by omega) (by omega) hB
      rw [mxs_step h2, if_neg hs] at e1
      refine ⟨μ', ?_, e2⟩
      simp (disch := omega) only [fX3_marginTold_28, Int.reduceEq, Int.reduceNe, Int.reduceLT, Int.reduceLE, Int.reduceAdd, Int.reduceSub, Int.reduceMul, Int.reduceNeg, Int.zero_add, Int.add_zero, nm_eq, bd_some, bv_some, aI_ok, aL_ok, aS_ok, dv_ok, dw_ok, I_add, I_sub, I_mul, I_neg, I_lt, I_le, I_eq, I_nat, J_add, J_sub, J_mul, J_neg, J_lt, J_le, J_eq, I_l, J_i, I_div, J_div, b2_0, b2_1, b2_nar, nar_0, nar_1, zr_0, zr_1, zr_b2, cmp_eq, cmp_le, cmp_lt, cmp_gt, cmp_ge, mx_I, mn_I, mx_L, mn_L, az_I, if_true, if_false, not_true_eq_false, not_false_eq_true, i_0, i_1, i_2, i_3, i_4, i_5, i_6, i_7, i_8, i_9, i_10, i_11, i_12, i_16, i_18, i_20, i_24, i_28, i_29, i_30, i_31, i_32, i_33, i_34, i_35, i_37, i_40, i_41, i_42, i_43, i_45, i_46, i_47, i_48, i_57, i_59, i_63, i_64, i_96, i_97, i_98, i_99, i_100, i_101, i_102, i_103, i_104, i_105, i_106, i_107, i_108, i_109, i_110, i_111, i_112, i_113, i_122, i_200, i_255, i_256, i_257, i_258, i_355, i_400, i_999, i_1000, i_1200, i_5680, i_9999, i_10000, i_99999, j_0, j_1, j_2, j_3, j_4, j_5, j_6, j_9, j_10, j_11, j_98, j_99, j_100, j_999, j_1000, j_9999, j_10000, j_99999, j_1000000, CB_f hB, hle, CB_si hB, hs, e1]
theorem c_tm {Z : Prop} [Decidable Z] (hV : vB V) (hN : 100 ≤ N) (f0 : 0 ≤ f) (f1 : f < fN V) (t0 : 0 ≤ t) (t1 : t ≤ 2) {μ : Mem} (hB : CB b V μ) : ∃ μ', fX3_marginTold N b (I_ f) (I_ t) (I_ (b2 Z)) μ = some (I_ (x_tm V f t Z), μ') ∧ Fr P_cp μ μ' := by
  have hn := hV.1
  unfold vN at hn
  have hsi := hV.2.2.2.2 f f0 (by omega)
  unfold x_tm fX3_marginTold
  rw [if_pos hB.1]
  by_cases hs : s_si V f = 0
  · obtain ⟨μ1, a1, a2⟩ := c_own (N := N) (f := f) (Z := Z) hV hN f0 (by omega) t0 t1 hB
    refine ⟨μ1, ?_, a2⟩
    rw [if_pos hs]
    simp (disch := omega) only [Int.reduceEq, Int.reduceNe, Int.reduceLT, Int.reduceLE, Int.reduceAdd, Int.reduceSub, Int.reduceMul, Int.reduceNeg, Int.zero_add, Int.add_zero, nm_eq, bd_some, bv_some, aI_ok, aL_ok, aS_ok, dv_ok, dw_ok, I_add, I_sub, I_mul, I_neg, I_lt, I_le, I_eq, I_nat, J_add, J_sub, J_mul, J_neg, J_lt, J_le, J_eq, I_l, J_i, I_div, J_div, b2_0, b2_1, b2_nar, nar_0, nar_1, zr_0, zr_1, zr_b2, cmp_eq, cmp_le, cmp_lt, cmp_gt, cmp_ge, mx_I, mn_I, mx_L, mn_L, az_I, if_true, if_false, not_true_eq_false, not_false_eq_true, i_0, i_1, i_2, i_3, i_4, i_5, i_6, i_7, i_8, i_9, i_10, i_11, i_12, i_16, i_18, i_20, i_24, i_28, i_29, i_30, i_31, i_32, i_33, i_34, i_35, i_37, i_40, i_41, i_42, i_43, i_45, i_46, i_47, i_48, i_57, i_59, i_63, i_64, i_96, i_97, i_98, i_99, i_100, i_101, i_102, i_103, i_104, i_105, i_106, i_107, i_108, i_109, i_110, i_111, i_112, i_113, i_122, i_200, i_255, i_256, i_257, i_258, i_355, i_400, i_999, i_1000, i_1200, i_5680, i_9999, i_10000, i_99999, j_0, j_1, j_2, j_3, j_4, j_5, j_6, j_9, j_10, j_11, j_98, j_99, j_100, j_999, j_1000, j_9999, j_10000, j_99999, j_1000000, CB_si hB, hs, a1]
  · obtain ⟨μ', e1, e2⟩ := c_tm_l (N := N) (Z := Z) hV hN t0 t1 (fN V).toNat N 0 μ (by omega) (by omega) (by omega) hB
    have e1 : fX3_marginTold_28 N N b (I_ t) (I_ (b2 Z)) (I_ 0) (I_ 0) μ = some (I_ (x_gr V t Z), μ') := e1
    refine ⟨μ', ?_, e2⟩
    rw [if_neg hs]
    simp (disch := omega) only [Int.reduceEq, Int.reduceNe, Int.reduceLT, Int.reduceLE, Int.reduceAdd, Int.reduceSub, Int.reduceMul, Int.reduceNeg, Int.zero_add, Int.add_zero, nm_eq, bd_some, bv_some, aI_ok, aL_ok, aS_ok, dv_ok, dw_ok, I_add, I_sub, I_mul, I_neg, I_lt, I_le, I_eq, I_nat, J_add, J_sub, J_mul, J_neg, J_lt, J_le, J_eq, I_l, J_i, I_div, J_div, b2_0, b2_1, b2_nar, nar_0, nar_1, zr_0, zr_1, zr_b2, cmp_eq, cmp_le, cmp_lt, cmp_gt, cmp_ge, mx_I, mn_I, mx_L, mn_L, az_I, if_true, if_false, not_true_eq_false, not_false_eq_true, i_0, i_1, i_2, i_3, i_4, i_5, i_6, i_7, i_8, i_9, i_10, i_11, i_12, i_16, i_18, i_20, i_24, i_28, i_29, i_30, i_31, i_32, i_33, i_34, i_35, i_37, i_40, i_41, i_42, i_43, i_45, i_46, i_47, i_48, i_57, i_59, i_63, i_64, i_96, i_97, i_98, i_99, i_100, i_101, i_102, i_103, i_104, i_105, i_106, i_107, i_108, i_109, i_110, i_111, i_112, i_113, i_122, i_200, i_255, i_256, i_257, i_258, i_355, i_400, i_999, i_1000, i_1200, i_5680, i_9999, i_10000, i_99999, j_0, j_1, j_2, j_3, j_4, j_5, j_6, j_9, j_10, j_11, j_98, j_99, j_100, j_999, j_1000, j_9999, j_10000, j_99999, j_1000000, CB_si hB, hs, e1]
end
