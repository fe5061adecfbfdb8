/-! laysGroups, laysParts, sums, margins of the reference. -/
def PP (V : Vw) (f t : Int) (ν : Mem) : Prop := ν.1 0 45 = I_ (uN V f t) ∧ ∀ k, 0 ≤ k → k < uN V f t → ν.2.1 24 k.toNat = J_ (uD V f t 0 k) ∧ ν.1 25 k.toNat = I_ (uM V f t k)
section
variable {N : Nat} {V : Vw} {ν : Mem} {f t : Int}
theorem r_lg11 (hV : vB V) (hN : 100 ≤ N) (f0 : 0 ≤ f) (f1 : f < 4) : ∀ (d n : Nat) (i : Int) (ν : Mem), d < n → 0 ≤ i → i + d = sN V → RLd V ν → ν.1 0 45 = I_ (gS V f 0 i.toNat).1 → (∀ k, 0 ≤ k → k < (gS V f 0 i.toNat).1 → ν.1 26 k.toNat = I_ ((gS V f 0 i.toNat).2 k)) → ∃ ν', fX11_laysGroups_11 N n (I_ f) (I_ i) ν = some ((), ν') ∧ Fr P_rp ν ν' ∧ ν'.1 0 45 = I_ (uN V f 0) ∧ (∀ k, 0 ≤ k → k < uN V f 0 → ν'.1 26 k.toNat = I_ (uZ V f 0 k)) ∧ GP V f (uN V f 0) ν' := by
  have hn := hV.1
  unfold vN at hn
  have hu := uN_in hV f 0
  intro d
  induction d with
  | zero =>
    intro n i ν h1 h2 h3 hL h45 h26
    obtain ⟨n, rfl⟩ : ∃ m, n = m + 1 := ⟨n - 1, by omega⟩
    have hle : sN V ≤ i := by omega
    have hi : i = sN V := by omega
    subst hi
    obtain ⟨ν', e1, e2⟩ := r_lg121 (N := N) hV hN f0 f1 (uN V f 0).toNat N 0 ν (by omega) (by omega) (by omega) hL h45 h26 (fun k a c => by omega)
    refine ⟨ν', ?_, e2⟩
    simp (disch := omega) only [fX11_laysGroups_11, Int.reduceEq, Int.reduceNe, Int.reduceLT, Int.reduceLE, Int.reduceAdd, Int.reduceSub, Int.reduceMul, Int.reduceNeg, Int.zero_add, Int.add_zero, nm_eq, bd_some, bv_some, aI_ok, aL_ok, aS_ok, dv_ok, dw_ok, I_add, I_sub, I_mul, I_neg, I_lt, I_le, I_eq, I_nat, J_add, J_sub, J_mul, J_neg, J_lt, J_le, J_eq, I_l, J_i, I_div, J_div, b2_0, b2_1, b2_nar, nar_0, nar_1, zr_0, zr_1, zr_b2, cmp_eq, cmp_le, cmp_lt, cmp_gt, cmp_ge, mx_I, mn_I, mx_L, mn_L, az_I, if_true, if_false, not_true_eq_false, not_false_eq_true, i_0, i_1, i_2, i_3, i_4, i_5, i_6, i_7, i_8, i_9, i_10, i_11, i_12, i_16, i_18, i_20, i_24, i_28, i_29, i_30, i_31, i_32, i_33, i_34, i_35, i_37, i_40, i_41, i_42, i_43, i_45, i_46, i_47, i_48, i_57, i_59, i_63, i_64, i_96, i_97, i_98, i_99, i_100, i_101, i_102, i_103, i_104, i_105, i_106, i_107, i_108, i_109, i_110, i_111, i_112, i_113, i_122, i_200, i_255, i_256, i_257, i_258, i_355, i_400, i_999, i_1000, i_1200, i_5680, i_9999, i_10000, i_99999, j_0, j_1, j_2, j_3, j_4, j_5, j_6, j_9, j_10, j_11, j_98, j_99, j_100, j_999, j_1000, j_9999, j_10000, j_99999, j_1000000, RB_n hL.1, hle, e1]
  | succ d ih =>
    intro n i ν h1 h2 h3 hL h45 h26
    obtain ⟨n, rfl⟩ : ∃ m, n = m + 1 := ⟨n - 1, by omega⟩
    have hle : ¬ sN V ≤ i := by omega
    have hlt : i < sN V := by omega
    have hR := hL.1
    have hv := hV.2.1 i h2 hlt
    unfold vS at hv
    have hI := gI_at (V := V) (f := f) (t := 0) h2
    have hc := hI.1
    have no : gSt V f 0 i (gS V f 0 i.toNat) = gS V f 0 i.toNat → ∃ ν', fX11_laysGroups_11 N n (I_ f) (I_ (i + 1)) ν = some ((), ν') ∧ Fr P_rp ν ν' ∧ ν'.1 0 45 = I_ (uN V f 0) ∧ (∀ k, 0 ≤ k → k < uN V f 0 → ν'.1 26 k.toNat = I_ (uZ V f 0 k)) ∧ GP V f (uN V f 0) ν' := fun hs => by
      refine ih n (i + 1) ν (by omega) (by omega) (by omega) hL ?_ ?_
      · rw [gS_step h2, hs]; exact h45
      · rw [gS_step h2, hs]; exact h26
    have z49 : ∀ ν : Mem, ν.1 0 45 = I_ (gS V f 0 i.toNat).1 → fX11_laysGroups_49 N (fun v1 v2 μ => fX11_laysGroups_11 N n v1 v2 μ) N (I_ f) (I_ i) (I_ 0) (I_ 0) ν = fX11_laysGroups_11 N n (I_ f) (I_ (i + 1)) ν := fun ν h => by
      obtain ⟨M, hM⟩ : ∃ q, N = q + 1 := ⟨N - 1, by omega⟩
      have e : ∀ q : Nat, fX11_laysGroups_49 N (fun v1 v2 μ => fX11_laysGroups_11 N n v1 v2 μ) (q + 1) (I_ f) (I_ i) (I_ 0) (I_ 0) ν = fX11_laysGroups_11 N n (I_ f) (I_ (i + 1)) ν := fun q => by
        by_cases h0 : (gS V f 0 i.toNat).1 ≤ 0
        · simp (disch := omega) only [fX11_laysGroups_49, fX11_laysGroups_89, Int.reduceEq, Int.reduceNe, Int.reduceLT, Int.reduceLE, Int.reduceAdd, Int.reduceSub, Int.reduceMul, Int.reduceNeg, Int.zero_add, Int.add_zero, nm_eq, bd_some, bv_some, aI_ok, aL_ok, aS_ok, dv_ok, dw_ok, I_add, I_sub, I_mul, I_neg, I_lt, I_le, I_eq, I_nat, J_add, J_sub, J_mul, J_neg, J_lt, J_le, J_eq, I_l, J_i, I_div, J_div, b2_0, b2_1, b2_nar, nar_0, nar_1, zr_0, zr_1, zr_b2, cmp_eq, cmp_le, cmp_lt, cmp_gt, cmp_ge, mx_I, mn_I, mx_L, mn_L, az_I, if_true, if_false, not_true_eq_false, not_false_eq_true, i_0, i_1, i_2, i_3, i_4, i_5, i_6, i_7, i_8, i_9, i_10, i_11, i_12, i_16, i_18, i_20, i_24, i_28, i_29, i_30, i_31, i_32, i_33, i_34, i_35, i_37, i_40, i_41, i_42, i_43, i_45, i_46, i_47, i_48, i_57, i_59, i_63, i_64, i_96, i_97, i_98, i_99, i_100, i_101, i_102, i_103, i_104, i_105, i_106, i_107, i_108, i_109, i_110, i_111, i_112, i_113, i_122, i_200, i_255, i_256, i_257, i_258, i_355, i_400, i_999, i_1000, i_1200, i_5680, i_9999, i_10000, i_99999, j_0, j_1, j_2, j_3, j_4, j_5, j_6, j_9, j_10, j_11, j_98, j_99, j_100, j_999, j_1000, j_9999, j_10000, j_99999, j_1000000, h, h0]
        · simp (disch := omega) only [fX11_laysGroups_49, fX11_laysGroups_89, Int.reduceEq, Int.reduceNe, Int.reduceLT, Int.reduceLE, Int.reduceAdd, Int.reduceSub, Int.reduceMul, Int.reduceNeg, Int.zero_add, Int.add_zero, nm_eq, bd_some, bv_some, aI_ok, aL_ok, aS_ok, dv_ok, dw_ok, I_add, I_sub, I_mul, I_neg, I_lt, I_le, I_eq, I_nat, J_add, J_sub, J_mul, J_neg, J_lt, J_le, J_eq, I_l, J_i, I_div, J_div, b2_0, b2_1, b2_nar, nar_0, nar_1, zr_0, zr_1, zr_b2, cmp_eq, cmp_le, cmp_lt, cmp_gt, cmp_ge, mx_I, mn_I, mx_L, mn_L, az_I, if_true, if_false, not_true_eq_false, not_false_eq_true, i_0, i_1, i_2, i_3, i_4, i_5, i_6, i_7, i_8, i_9, i_10, i_11, i_12, i_16, i_18, i_20, i_24, i_28, i_29, i_30, i_31, i_32, i_33, i_34, i_35, i_37, i_40, i_41, i_42, i_43, i_45, i_46, i_47, i_48, i_57, i_59, i_63, i_64, i_96, i_97, i_98, i_99, i_100, i_101, i_102, i_103, i_104, i_105, i_106, i_107, i_108, i_109, i_110, i_111, i_112, i_113, i_122, i_200, i_255, i_256, i_257, i_258, i_355, i_400, i_999, i_1000, i_1200, i_5680, i_9999, i_10000, i_99999, j_0, j_1, j_2, j_3, j_4, j_5, j_6, j_9, j_10, j_11, j_98, j_99, j_100, j_999, j_1000, j_9999, j_10000, j_99999, j_1000000, h, h0]
      have := e M
      rw [← hM] at this
      exact this
    by_cases hp : s_li V i = 1 ∧ s_mk V i = 1
    · by_cases hf : s_fm V i = f
      · have he : p_ex V f i := ⟨hp.1, hf, hp.2⟩
        have e49 := r_lg49 (N := N) hV hR hc.1 (by omega) h45 (fun k a c => ⟨h26 k a c, (hI.2.1 k a c).1, by have := (hI.2.1 k a c).2.1; omega⟩) h2 hlt (fun v1 v2 μ => fX11_laysGroups_11 N n v1 v2 μ) (I_ f) (gS V f 0 i.toNat).1.toNat N 0 (by omega) (by omega) (by omega)
        by_cases hx : ixs (fun k => ky V 0 ((gS V f 0 i.toNat).2 k)) (ky V 0 i) (gS V f 0 i.toNat).1.toNat 0 = (gS V f 0 i.toNat).1
        · have hs : gSt V f 0 i (gS V f 0 i.toNat) = ((gS V f 0 i.toNat).1 + 1, fun k => if k = (gS V f 0 i.toNat).1 then i else (gS V f 0 i.toNat).2 k) := by
            unfold gSt; rw [if_pos he, if_pos hx]
          rw [b2_t hx] at e49
          have hF : Fr P_rp ν (stI (stI ν 26 (gS V f 0 i.toNat).1.toNat (I_ i)) 0 45 (I_ ((gS V f 0 i.toNat).1 + 1))) := (Fr.rf.stI (by unfold P_rp; omega)).stI (by unfold P_rp; omega)
          obtain ⟨ν', e1, e2, e3⟩ := ih n (i + 1) _ (by omega) (by omega) (by omega) (hL.p hF) (by rw [gS_step h2, hs]; exact at_S) (fun k a c => by
            rw [gS_step h2, hs] at c ⊢
            have c : k < (gS V f 0 i.toNat).1 + 1 := c
            show _ = I_ (if k = (gS V f 0 i.toNat).1 then i else (gS V f 0 i.toNat).2 k)
            simp (disch := omega) only [st_ne, at_I]
            by_cases hk : k = (gS V f 0 i.toNat).1
            · rw [if_pos hk, if_pos hk]
            · rw [if_neg hk, if_neg hk]; exact h26 k a (by omega))
          refine ⟨ν', ?_, hF.tr e2, e3⟩
          simp (disch := omega) only [fX11_laysGroups_11, Int.reduceEq, Int.reduceNe, Int.reduceLT, Int.reduceLE, Int.reduceAdd, Int.reduceSub, Int.reduceMul, Int.reduceNeg, Int.zero_add, Int.add_zero, nm_eq, bd_some, bv_some, aI_ok, aL_ok, aS_ok, dv_ok, dw_ok, I_add, I_sub, I_mul, I_neg, I_lt, I_le, I_eq, I_nat, J_add, J_sub, J_mul, J_neg, J_lt, J_le, J_eq, I_l, J_i, I_div, J_div, b2_0, b2_1, b2_nar, nar_0, nar_1, zr_0, zr_1, zr_b2, cmp_eq, cmp_le, cmp_lt, cmp_gt, cmp_ge, mx_I, mn_I, mx_L, mn_L, az_I, if_true, if_false, not_true_eq_false, not_false_eq_true, i_0, i_1, i_2, i_3, i_4, i_5, i_6, i_7, i_8, i_9, i_10, i_11, i_12, i_16, i_18, i_20, i_24, i_28, i_29, i_30, i_31, i_32, i_33, i_34, i_35, i_37, i_40, i_41, i_42, i_43, i_45, i_46, i_47, i_48, i_57, i_59, i_63, i_64, i_96, i_97, i_98, i_99, i_100, i_101, i_102, i_103, i_104, i_105, i_106, i_107, i_108, i_109, i_110, i_111, i_112, i_113, i_122, i_200, i_255, i_256, i_257, i_258, i_355, i_400, i_999, i_1000, i_1200, i_5680, i_9999, i_10000, i_99999, j_0, j_1, j_2, j_3, j_4, j_5, j_6, j_9, j_10, j_11, j_98, j_99, j_100, j_999, j_1000, j_9999, j_10000, j_99999, j_1000000, RB_n hR, hle, r_isExp hV hR, b2_t hp, r_of1 hV hR, hf, e49, fX11_laysGroups_89, h45, st_ne, e1]
        · have hs : gSt V f 0 i (gS V f 0 i.toNat) = gS V f 0 i.toNat := by unfold gSt; rw [if_pos he, if_neg hx]
          rw [b2_f hx] at e49
          obtain ⟨ν', e1, e2⟩ := no hs
          refine ⟨ν', ?_, e2⟩
          simp (disch := omega) only [fX11_laysGroups_11, Int.reduceEq, Int.reduceNe, Int.reduceLT, Int.reduceLE, Int.reduceAdd, Int.reduceSub, Int.reduceMul, Int.reduceNeg, Int.zero_add, Int.add_zero, nm_eq, bd_some, bv_some, aI_ok, aL_ok, aS_ok, dv_ok, dw_ok, I_add, I_sub, I_mul, I_neg, I_lt, I_le, I_eq, I_nat, J_add, J_sub, J_mul, J_neg, J_lt, J_le, J_eq, I_l, J_i, I_div, J_div, b2_0, b2_1, b2_nar, nar_0, nar_1, zr_0, zr_1, zr_b2, cmp_eq, cmp_le, cmp_lt, cmp_gt, cmp_ge, mx_I, mn_I, mx_L, mn_L, az_I, if_true, if_false, not_true_eq_false, not_false_eq_true, i_0, i_1, i_2, i_3, i_4, i_5, i_6, i_7, i_8, i_9, i_10, i_11, i_12, i_16, i_18, i_20, i_24, i_28, i_29, i_30, i_31, i_32, i_33, i_34, i_35, i_37, i_40, i_41, i_42, i_43, i_45, i_46, i_47, i_48, i_57, i_59, i_63, i_64, i_96, i_97, i_98, i_99, i_100, i_101, i_102, i_103, i_104, i_105, i_106, i_107, i_108, i_109, i_110, i_111, i_112, i_113, i_122, i_200, i_255, i_256, i_257, i_258, i_355, i_400, i_999, i_1000, i_1200, i_5680, i_9999, i_10000, i_99999, j_0, j_1, j_2, j_3, j_4, j_5, j_6, j_9, j_10, j_11, j_98, j_99, j_100, j_999, j_1000, j_9999, j_10000, j_99999, j_1000000, RB_n hR, hle, r_isExp hV hR, b2_t hp, r_of1 hV hR, hf, e49, fX11_laysGroups_89, e1]
      · obtain ⟨ν', e1, e2⟩ := no (by unfold gSt; rw [if_neg (fun q => hf q.2.1)])
        refine ⟨ν', ?_, e2⟩
        simp (disch := omega) only [fX11_laysGroups_11, Int.reduceEq, Int.reduceNe, Int.reduceLT, Int.reduceLE, Int.reduceAdd, Int.reduceSub, Int.reduceMul, Int.reduceNeg, Int.zero_add, Int.add_zero, nm_eq, bd_some, bv_some, aI_ok, aL_ok, aS_ok, dv_ok, dw_ok, I_add, I_sub, I_mul, I_neg, I_lt, I_le, I_eq, I_nat, J_add, J_sub, J_mul, J_neg, J_lt, J_le, J_eq, I_l, J_i, I_div, J_div, b2_0, b2_1, b2_nar, nar_0, nar_1, zr_0, zr_1, zr_b2, cmp_eq, cmp_le, cmp_lt, cmp_gt, cmp_ge, mx_I, mn_I, mx_L, mn_L, az_I, if_true, if_false, not_true_eq_false, not_false_eq_true, i_0, i_1, i_2, i_3, i_4, i_5, i_6, i_7, i_8, i_9, i_10, i_11, i_12, i_16, i_18, i_20, i_24, i_28, i_29, i_30, i_31, i_32, i_33, i_34, i_35, i_37, i_40, i_41, i_42, i_43, i_45, i_46, i_47, i_48, i_57, i_59, i_63, i_64, i_96, i_97, i_98, i_99, i_100, i_101, i_102, i_103, i_104, i_105, i_106, i_107, i_108, i_109, i_110, i_111, i_112, i_113, i_122, i_200, i_255, i_256, i_257, i_258, i_355, i_400, i_999, i_1000, i_1200, i_5680, i_9999, i_10000, i_99999, j_0, j_1, j_2, j_3, j_4, j_5, j_6, j_9, j_10, j_11, j_98, j_99, j_100, j_999, j_1000, j_9999, j_10000, j_99999, j_1000000, RB_n hR, hle, r_isExp hV hR, b2_t hp, r_of1 hV hR, hf, z49 ν h45, e1]
    · obtain ⟨ν', e1, e2⟩ := no (by unfold gSt; rw [if_neg (fun q => hp ⟨q.1, q.2.2⟩)])
      refine ⟨ν', ?_, e2⟩
      simp (disch := omega) only [fX11_laysGroups_11, Int.reduceEq, Int.reduceNe, Int.reduceLT, Int.reduceLE, Int.reduceAdd, Int.reduceSub, Int.reduceMul, Int.reduceNeg, Int.zero_add, Int.add_zero, nm_eq, bd_some, bv_some, aI_ok, aL_ok, aS_ok, dv_ok, dw_ok, I_add, I_sub, I_mul, I_neg, I_lt, I_le, I_eq, I_nat, J_add, J_sub, J_mul, J_neg, J_lt, J_le, J_eq, I_l, J_i, I_div, J_div, b2_0, b2_1, b2_nar, nar_0, nar_1, zr_0, zr_1, zr_b2, cmp_eq, cmp_le, cmp_lt, cmp_gt, cmp_ge, mx_I, mn_I, mx_L, mn_L, az_I, if_true, if_false, not_true_eq_false, not_false_eq_true, i_0, i_1, i_2, i_3, i_4, i_5, i_6, i_7, i_8, i_9, i_10, i_11, i_12, i_16, i_18, i_20, i_24, i_28, i_29, i_30, i_31, i_32, i_33, i_34, i_35, i_37, i_40, i_41, i_42, i_43, i_45, i_46, i_47, i_48, i_57, i_59, i_63, i_64, i_96, i_97, i_98, i_99, i_100, i_101, i_102, i_103, i_104, i_105, i_106, i_107, i_108, i_109, i_110, i_111, i_112, i_113, i_122, i_200, i_255, i_256, i_257, i_258, i_355, i_400, i_999, i_1000, i_1200, i_5680, i_9999, i_10000, i_99999, j_0, j_1, j_2, j_3, j_4, j_5, j_6, j_9, j_10, j_11, j_98, j_99, j_100, j_999, j_1000, j_9999, j_10000, j_99999, j_1000000, RB_n hR, hle, r_isExp hV hR, b2_f hp, z49 ν h45, e1]
theorem r_groups (hV : vB V) (hN : 100 ≤ N) (f0 : 0 ≤ f) (f1 : f < 4) (hL : RLd V ν) : ∃ ν', fX11_laysGroups N (I_ f) ν = some ((), ν') ∧ Fr P_rp ν ν' ∧ ν'.1 0 45 = I_ (uN V f 0) ∧ (∀ k, 0 ≤ k → k < uN V f 0 → ν'.1 26 k.toNat = I_ (uZ V f 0 k)) ∧ GP V f (uN V f 0) ν' := by
  have hn := hV.1
  unfold vN at hn
  have hF : Fr P_rp ν (stI ν 0 45 (I_ 0)) := Fr.rf.stI (by unfold P_rp; omega)
  obtain ⟨ν', e1, e2, e3⟩ := r_lg11 (N := N) hV hN f0 f1 (sN V).toNat N 0 _ (by omega) (by omega) (by omega) (hL.p hF) at_S (fun k a c => by have : k < 0 := c; omega)
  refine ⟨ν', ?_, hF.tr e2, e3⟩
  simp (disch := omega) only [fX11_laysGroups, Int.reduceEq, Int.reduceNe, Int.reduceLT, Int.reduceLE, Int.reduceAdd, Int.reduceSub, Int.reduceMul, Int.reduceNeg, Int.zero_add, Int.add_zero, nm_eq, bd_some, bv_some, aI_ok, aL_ok, aS_ok, dv_ok, dw_ok, I_add, I_sub, I_mul, I_neg, I_lt, I_le, I_eq, I_nat, J_add, J_sub, J_mul, J_neg, J_lt, J_le, J_eq, I_l, J_i, I_div, J_div, b2_0, b2_1, b2_nar, nar_0, nar_1, zr_0, zr_1, zr_b2, cmp_eq, cmp_le, cmp_lt, cmp_gt, cmp_ge, mx_I, mn_I, mx_L, mn_L, az_I, if_true, if_false, not_true_eq_false, not_false_eq_true, i_0, i_1, i_2, i_3, i_4, i_5, i_6, i_7, i_8, i_9, i_10, i_11, i_12, i_16, i_18, i_20, i_24, i_28, i_29, i_30, i_31, i_32, i_33, i_34, i_35, i_37, i_40, i_41, i_42, i_43, i_45, i_46, i_47, i_48, i_57, i_59, i_63, i_64, i_96, i_97, i_98, i_99, i_100, i_101, i_102, i_103, i_104, i_105, i_106, i_107, i_108, i_109, i_110, i_111, i_112, i_113, i_122, i_200, i_255, i_256, i_257, i_258, i_355, i_400, i_999, i_1000, i_1200, i_5680, i_9999, i_10000, i_99999, j_0, j_1, j_2, j_3, j_4, j_5, j_6, j_9, j_10, j_11, j_98, j_99, j_100, j_999, j_1000, j_9999, j_10000, j_99999, j_1000000, r_laid hL.2.2, e1]
theorem u_M1 (hV : vB V) (ht : t ≠ 0) {k : Int} (k0 : 0 ≤ k) (k1 : k < uN V f t) : uM V f t k = s_mn V (uZ V f t k) ∧ uV V f t k = 1000 * s_nt V (uZ V f t k) * s_mn V (uZ V f t k) := by
  have hz := zN_eq hV
  have hu := uZ_in hV k0 k1
  have e : ∀ z, ky V t z = z := fun z => by unfold ky; rw [if_neg ht]
  unfold uM uV
  rw [sg_one (y := uZ V f t k) _ _ hu.1 (by omega) (fun z h => by unfold g_um; rw [if_neg (fun q => h (by have := q.2; rw [e, e] at this; exact this))]), sg_one (y := uZ V f t k) _ _ hu.1 (by omega) (fun z h => by unfold g_uv; rw [if_neg (fun q => h (by have := q.2; rw [e, e] at this; exact this))])]
  unfold g_um g_uv
  rw [if_pos ⟨hu.2.2, rfl⟩, if_pos ⟨hu.2.2, rfl⟩]
  exact ⟨rfl, rfl⟩
theorem u_D1 (hV : vB V) (ht : t ≠ 0) {k : Int} (k0 : 0 ≤ k) (k1 : k < uN V f t) : uD V f t 0 k = x_df V (uZ V f t k) t := by
  obtain ⟨h1, h2⟩ := u_M1 hV ht k0 k1
  have hu := uZ_in hV k0 k1
  have hv := hV.2.1 _ hu.1 hu.2.1
  unfold vS at hv
  rw [uD0]
  unfold uA uW x_df
  rw [h1, h2, if_pos (by omega), Int.mul_ediv_cancel _ (by omega)]
theorem gSt_ex (ht : t ≠ 0) {i : Int} (h : 0 ≤ i) (he : p_ex V f i) : gSt V f t i (gS V f t i.toNat) = ((gS V f t i.toNat).1 + 1, fun k => if k = (gS V f t i.toNat).1 then i else (gS V f t i.toNat).2 k) := by
  have hI := gI_at (V := V) (f := f) (t := t) h
  have hc := hI.1
  unfold gSt
  rw [if_pos he, if_pos]
  rw [ixs_none]
  · omega
  · intro j j0 j1
    have := hI.2.1 j j0 (by omega)
    show ky V t _ ≠ ky V t i
    unfold ky
    rw [if_neg ht, if_neg ht]
    omega
theorem r_lp21 (hV : vB V) (hN : 100 ≤ N) (f0 : 0 ≤ f) (f1 : f < 4) (t0 : 1 ≤ t) (t1 : t ≤ 2) : ∀ (d n : Nat) (i : Int) (ν : Mem), d < n → 0 ≤ i → i + d = sN V → RLd V ν → ν.1 0 45 = I_ (gS V f t i.toNat).1 → (∀ k, 0 ≤ k → k < (gS V f t i.toNat).1 → ν.2.1 24 k.toNat = J_ (x_df V ((gS V f t i.toNat).2 k) t) ∧ ν.1 25 k.toNat = I_ (s_mn V ((gS V f t i.toNat).2 k))) → ∃ ν', fX11_laysParts_21 N n (I_ f) (I_ t) (I_ i) ν = some ((), ν') ∧ Fr P_rp ν ν' ∧ PP V f t ν' := by
  have hn := hV.1
  unfold vN at hn
  have ht : t ≠ 0 := by omega
  intro d
  induction d with
  | zero =>
    intro n i ν h1 h2 h3 hL h45 hK
    obtain ⟨n, rfl⟩ : ∃ m, n = m + 1 := ⟨n - 1, by omega⟩
    have hle : sN V ≤ i := by omega
    have hi : i = sN V := by omega
    subst hi
    refine ⟨ν, ?_, Fr.rf, h45, fun k k0 k1 => ?_⟩
    · simp (disch := omega) only [fX11_laysParts_21, Int.reduceEq, Int.reduceNe, Int.reduceLT, Int.reduceLE, Int.reduceAdd, Int.reduceSub, Int.reduceMul, Int.reduceNeg, Int.zero_add, Int.add_zero, nm_eq, bd_some, bv_some, aI_ok, aL_ok, aS_ok, dv_ok, dw_ok, I_add, I_sub, I_mul, I_neg, I_lt, I_le, I_eq, I_nat, J_add, J_sub, J_mul, J_neg, J_lt, J_le, J_eq, I_l, J_i, I_div, J_div, b2_0, b2_1, b2_nar, nar_0, nar_1, zr_0, zr_1, zr_b2, cmp_eq, cmp_le, cmp_lt, cmp_gt, cmp_ge, mx_I, mn_I, mx_L, mn_L, az_I, if_true, if_false, not_true_eq_false, not_false_eq_true, i_0, i_1, i_2, i_3, i_4, i_5, i_6, i_7, i_8, i_9, i_10, i_11, i_12, i_16, i_18, i_20, i_24, i_28, i_29, i_30, i_31, i_32, i_33, i_34, i_35, i_37, i_40, i_41, i_42, i_43, i_45, i_46, i_47, i_48, i_57, i_59, i_63, i_64, i_96, i_97, i_98, i_99, i_100, i_101, i_102, i_103, i_104, i_105, i_106, i_107, i_108, i_109, i_110, i_111, i_112, i_113, i_122, i_200, i_255, i_256, i_257, i_258, i_355, i_400, i_999, i_1000, i_1200, i_5680, i_9999, i_10000, i_99999, j_0, j_1, j_2, j_3, j_4, j_5, j_6, j_9, j_10, j_11, j_98, j_99, j_100, j_999, j_1000, j_9999, j_10000, j_99999, j_1000000, RB_n hL.1, hle]
    · obtain ⟨q1, q2⟩ := hK k k0 k1
      rw [u_D1 hV ht k0 k1, (u_M1 hV ht k0 k1).1]
      exact ⟨q1, q2⟩
  | succ d ih =>
    intro n i ν h1 h2 h3 hL h45 hK
    obtain ⟨n, rfl⟩ : ∃ m, n = m + 1 := ⟨n - 1, by omega⟩
    have hle : ¬ sN V ≤ i := by omega
    have hlt : i < sN V := by omega
    have hR := hL.1
    have hv := hV.2.1 i h2 hlt
    unfold vS at hv
    have hI := gI_at (V := V) (f := f) (t := t) h2
    have hc := hI.1
    have no : ¬ p_ex V f i → ∃ ν', fX11_laysParts_21 N n (I_ f) (I_ t) (I_ (i + 1)) ν = some ((), ν') ∧ Fr P_rp ν ν' ∧ PP V f t ν' := fun h => by
      have hs : gSt V f t i (gS V f t i.toNat) = gS V f t i.toNat := by unfold gSt; rw [if_neg h]
      refine ih n (i + 1) ν (by omega) (by omega) (by omega) hL ?_ ?_
      · rw [gS_step h2, hs]; exact h45
      · rw [gS_step h2, hs]; exact hK
    by_cases hp : s_li V i = 1 ∧ s_mk V i = 1
    · by_cases hf : s_fm V i = f
      · have he : p_ex V f i := ⟨hp.1, hf, hp.2⟩
        have hs := gSt_ex (V := V) (f := f) ht h2 he
        obtain ⟨ν1, a1, a2⟩ := r_df (N := N) (e := i) (t := t) hV hN hL h2 hlt (by omega) t1
        have q45 : ν1.1 0 45 = I_ (gS V f t i.toNat).1 := by rw [(a2 0 45 (by unfold P_rf; omega)).1]; exact h45
        have hF1 : Fr P_rp ν ν1 := a2.mono (fun c j h => by unfold P_rf at h; unfold P_rp; omega)
        have hF2 : Fr P_rp ν (stL ν1 24 (gS V f t i.toNat).1.toNat (J_ (x_df V i t))) := hF1.stL (by unfold P_rp; omega)
        have hR2 := (hL.p hF2).1
        have hF3 : Fr P_rp ν (stI (stI (stL ν1 24 (gS V f t i.toNat).1.toNat (J_ (x_df V i t))) 25 (gS V f t i.toNat).1.toNat (I_ (s_mn V i))) 0 45 (I_ ((gS V f t i.toNat).1 + 1))) := (hF2.stI (by unfold P_rp; omega)).stI (by unfold P_rp; omega)
        obtain ⟨ν', e1, e2, e3⟩ := ih n (i + 1) _ (by omega) (by omega) (by omega) (hL.p hF3) (by rw [gS_step h2, hs]; exact at_S) (fun k a c => by
          rw [gS_step h2, hs] at c ⊢
          have c : k < (gS V f t i.toNat).1 + 1 := c
          show _ = J_ (x_df V (if k = (gS V f t i.toNat).1 then i else (gS V f t i.toNat).2 k) t) ∧ _ = I_ (s_mn V (if k = (gS V f t i.toNat).1 then i else (gS V f t i.toNat).2 k))
          simp (disch := omega) only [st_ne, at_I, at_L, st_I2, st_L1]
          by_cases hk : k = (gS V f t i.toNat).1
          · rw [if_pos hk, if_pos hk, if_pos hk]; exact ⟨rfl, rfl⟩
          · rw [if_neg hk, if_neg hk, if_neg hk, (a2 24 _ (by unfold P_rf; omega)).2.1, (a2 25 _ (by unfold P_rf; omega)).1]
            exact hK k a (by omega))
        refine ⟨ν', ?_, hF3.tr e2, e3⟩
        simp (disch := omega) only [fX11_laysParts_21, Int.reduceEq, Int.reduceNe, Int.reduceLT, Int.reduceLE, Int.reduceAdd, Int.reduceSub, Int.reduceMul, Int.reduceNeg, Int.zero_add, Int.add_zero, nm_eq, bd_some, bv_some, aI_ok, aL_ok, aS_ok, dv_ok, dw_ok, I_add, I_sub, I_mul, I_neg, I_lt, I_le, I_eq, I_nat, J_add, J_sub, J_mul, J_neg, J_lt, J_le, J_eq, I_l, J_i, I_div, J_div, b2_0, b2_1, b2_nar, nar_0, nar_1, zr_0, zr_1, zr_b2, cmp_eq, cmp_le, cmp_lt, cmp_gt, cmp_ge, mx_I, mn_I, mx_L, mn_L, az_I, if_true, if_false, not_true_eq_false, not_false_eq_true, i_0, i_1, i_2, i_3, i_4, i_5, i_6, i_7, i_8, i_9, i_10, i_11, i_12, i_16, i_18, i_20, i_24, i_28, i_29, i_30, i_31, i_32, i_33, i_34, i_35, i_37, i_40, i_41, i_42, i_43, i_45, i_46, i_47, i_48, i_57, i_59, i_63, i_64, i_96, i_97, i_98, i_99, i_100, i_101, i_102, i_103, i_104, i_105, i_106, i_107, i_108, i_109, i_110, i_111, i_112, i_113, i_122, i_200, i_255, i_256, i_257, i_258, i_355, i_400, i_999, i_1000, i_1200, i_5680, i_9999, i_10000, i_99999, j_0, j_1, j_2, j_3, j_4, j_5, j_6, j_9, j_10, j_11, j_98, j_99, j_100, j_999, j_1000, j_9999, j_10000, j_99999, j_1000000, RB_n hR, hle, r_isExp hV hR, b2_t hp, r_of1 hV hR, hf, h45, a1, q45, st_L1, r_of5 hV hR2, st_ne, e1]
      · obtain ⟨ν', e1, e2⟩ := no (fun q => hf q.2.1)
        refine ⟨ν', ?_, e2⟩
        simp (disch := omega) only [fX11_laysParts_21, Int.reduceEq, Int.reduceNe, Int.reduceLT, Int.reduceLE, Int.reduceAdd, Int.reduceSub, Int.reduceMul, Int.reduceNeg, Int.zero_add, Int.add_zero, nm_eq, bd_some, bv_some, aI_ok, aL_ok, aS_ok, dv_ok, dw_ok, I_add, I_sub, I_mul, I_neg, I_lt, I_le, I_eq, I_nat, J_add, J_sub, J_mul, J_neg, J_lt, J_le, J_eq, I_l, J_i, I_div, J_div, b2_0, b2_1, b2_nar, nar_0, nar_1, zr_0, zr_1, zr_b2, cmp_eq, cmp_le, cmp_lt, cmp_gt, cmp_ge, mx_I, mn_I, mx_L, mn_L, az_I, if_true, if_false, not_true_eq_false, not_false_eq_true, i_0, i_1, i_2, i_3, i_4, i_5, i_6, i_7, i_8, i_9, i_10, i_11, i_12, i_16, i_18, i_20, i_24, i_28, i_29, i_30, i_31, i_32, i_33, i_34, i_35, i_37, i_40, i_41, i_42, i_43, i_45, i_46, i_47, i_48, i_57, i_59, i_63, i_64, i_96, i_97, i_98, i_99, i_100, i_101, i_102, i_103, i_104, i_105, i_106, i_107, i_108, i_109, i_110, i_111, i_112, i_113, i_122, i_200, i_255, i_256, i_257, i_258, i_355, i_400, i_999, i_1000, i_1200, i_5680, i_9999, i_10000, i_99999, j_0, j_1, j_2, j_3, j_4, j_5, j_6, j_9, j_10, j_11, j_98, j_99, j_100, j_999, j_1000, j_9999, j_10000, j_99999, j_1000000, RB_n hR, hle, r_isExp hV hR, b2_t hp, r_of1 hV hR, hf, e1]
    · obtain ⟨ν', e1, e2⟩ := no (fun q => hp ⟨q.1, q.2.2⟩)
      refine ⟨ν', ?_, e2⟩
      simp (disch := omega) only [fX11_laysParts_21, Int.reduceEq, Int.reduceNe, Int.reduceLT, Int.reduceLE, Int.reduceAdd, Int.reduceSub, Int.reduceMul, Int.reduceNeg, Int.zero_add, Int.add_zero, nm_eq, bd_some, bv_some, aI_ok, aL_ok, aS_ok, dv_ok, dw_ok, I_add, I_sub, I_mul, I_neg, I_lt, I_le, I_eq, I_nat, J_add, J_sub, J_mul, J_neg, J_lt, J_le, J_eq, I_l, J_i, I_div, J_div, b2_0, b2_1, b2_nar, nar_0, nar_1, zr_0, zr_1, zr_b2, cmp_eq, cmp_le, cmp_lt, cmp_gt, cmp_ge, mx_I, mn_I, mx_L, mn_L, az_I, if_true, if_false, not_true_eq_false, not_false_eq_true, i_0, i_1, i_2, i_3, i_4, i_5, i_6, i_7, i_8, i_9, i_10, i_11, i_12, i_16, i_18, i_20, i_24, i_28, i_29, i_30, i_31, i_32, i_33, i_34, i_35, i_37, i_40, i_41, i_42, i_43, i_45, i_46, i_47, i_48, i_57, i_59, i_63, i_64, i_96, i_97, i_98, i_99, i_100, i_101, i_102, i_103, i_104, i_105, i_106, i_107, i_108, i_109, i_110, i_111, i_112, i_113, i_122, i_200, i_255, i_256, i_257, i_258, i_355, i_400, i_999, i_1000, i_1200, i_5680, i_9999, i_10000, i_99999, j_0, j_1, j_2, j_3, j_4, j_5, j_6, j_9, j_10, j_11, j_98, j_99, j_100, j_999, j_1000, j_9999, j_10000, j_99999, j_1000000, RB_n hR, hle, r_isExp hV hR, b2_f hp, e1]
theorem r_parts (hV : vB V) (hN : 100 ≤ N) (f0 : 0 ≤ f) (f1 : f < 4) (t0 : 0 ≤ t) (t1 : t ≤ 2) (hL : RLd V ν) : ∃ ν', fX11_laysParts N (I_ f) (I_ t) ν = some ((), ν') ∧ Fr P_rp ν ν' ∧ PP V f t ν' := by
  have hn := hV.1
  unfold vN at hn
  by_cases ht : t = 0
  · subst ht
    obtain ⟨ν', e1, e2, e3, e4, e5⟩ := r_groups (N := N) hV hN f0 f1 hL
    refine ⟨ν', ?_, e2, e3, fun k a c => ⟨(e5 k a c).2.2.2, (e5 k a c).1⟩⟩
    simp (disch := omega) only [fX11_laysParts, Int.reduceEq, Int.reduceNe, Int.reduceLT, Int.reduceLE, Int.reduceAdd, Int.reduceSub, Int.reduceMul, Int.reduceNeg, Int.zero_add, Int.add_zero, nm_eq, bd_some, bv_some, aI_ok, aL_ok, aS_ok, dv_ok, dw_ok, I_add, I_sub, I_mul, I_neg, I_lt, I_le, I_eq, I_nat, J_add, J_sub, J_mul, J_neg, J_lt, J_le, J_eq, I_l, J_i, I_div, J_div, b2_0, b2_1, b2_nar, nar_0, nar_1, zr_0, zr_1, zr_b2, cmp_eq, cmp_le, cmp_lt, cmp_gt, cmp_ge, mx_I, mn_I, mx_L, mn_L, az_I, if_true, if_false, not_true_eq_false, not_false_eq_true, i_0, i_1, i_2, i_3, i_4, i_5, i_6, i_7, i_8, i_9, i_10, i_11, i_12, i_16, i_18, i_20, i_24, i_28, i_29, i_30, i_31, i_32, i_33, i_34, i_35, i_37, i_40, i_41, i_42, i_43, i_45, i_46, i_47, i_48, i_57, i_59, i_63, i_64, i_96, i_97, i_98, i_99, i_100, i_101, i_102, i_103, i_104, i_105, i_106, i_107, i_108, i_109, i_110, i_111, i_112, i_113, i_122, i_200, i_255, i_256, i_257, i_258, i_355, i_400, i_999, i_1000, i_1200, i_5680, i_9999, i_10000, i_99999, j_0, j_1, j_2, j_3, j_4, j_5, j_6, j_9, j_10, j_11, j_98, j_99, j_100, j_999, j_1000, j_9999, j_10000, j_99999, j_1000000, e1]
  · have hF : Fr P_rp ν (stI ν 0 45 (I_ 0)) := Fr.rf.stI (by unfold P_rp; omega)
    obtain ⟨ν', e1, e2, e3⟩ := r_lp21 (N := N) (t := t) hV hN f0 f1 (by omega) t1 (sN V).toNat N 0 _ (by omega) (by omega) (by omega) (hL.p hF) at_S (fun k a c => by have : k < 0 := c; omega)
    refine ⟨ν', ?_, hF.tr e2, e3⟩
    simp (disch := omega) only [fX11_laysParts, Int.reduceEq, Int.reduceNe, Int.reduceLT, Int.reduceLE, Int.reduceAdd, Int.reduceSub, Int.reduceMul, Int.reduceNeg, Int.zero_add, Int.add_zero, nm_eq, bd_some, bv_some, aI_ok, aL_ok, aS_ok, dv_ok, dw_ok, I_add, I_sub, I_mul, I_neg, I_lt, I_le, I_eq, I_nat, J_add, J_sub, J_mul, J_neg, J_lt, J_le, J_eq, I_l, J_i, I_div, J_div, b2_0, b2_1, b2_nar, nar_0, nar_1, zr_0, zr_1, zr_b2, cmp_eq, cmp_le, cmp_lt, cmp_gt, cmp_ge, mx_I, mn_I, mx_L, mn_L, az_I, if_true, if_false, not_true_eq_false, not_false_eq_true, i_0, i_1, i_2, i_3, i_4, i_5, i_6, i_7, i_8, i_9, i_10, i_11, i_12, i_16, i_18, i_20, i_24, i_28, i_29, i_30, i_31, i_32, i_33, i_34, i_35, i_37, i_40, i_41, i_42, i_43, i_45, i_46, i_47, i_48, i_57, i_59, i_63, i_64, i_96, i_97, i_98, i_99, i_100, i_101, i_102, i_103, i_104, i_105, i_106, i_107, i_108, i_109, i_110, i_111, i_112, i_113, i_122, i_200, i_255, i_256, i_257, i_258, i_355, i_400, i_999, i_1000, i_1200, i_5680, i_9999, i_10000, i_99999, j_0, j_1, j_2, j_3, j_4, j_5, j_6, j_9, j_10, j_11, j_98, j_99, j_100, j_999, j_1000, j_9999, j_10000, j_99999, j_1000000, ht, r_laid hL.2.2, e1]
theorem uD_r (V : Vw) (f t r k : Int) : uD V f t 0 k - 1000 * r * uM V f t k = uD V f t r k := by
  rw [uD0]
  unfold uD
  rw [Int.sub_mul (uW V f t k - uA V f t k)]
theorem r_sum_l {Z : Prop} [Decidable Z] (hV : vB V) (hP : PP V f t ν) {r : Int} (r0 : 0 ≤ r) (r1 : r ≤ 9999) : ∀ (d n : Nat) (k acc : Int), d < n → 0 ≤ k → k + d = uN V f t → fX11_sumBy_6 N n (I_ (b2 Z)) (J_ r) (J_ acc) (I_ k) ν = some (J_ (acc + sg d k (g_us V f t r Z)), ν) := by
  have hn := hV.1
  unfold vN at hn
  have hu := uN_in hV f t
  intro d
  induction d with
  | zero =>
    intro n k acc h1 h2 h3
    obtain ⟨n, rfl⟩ : ∃ m, n = m + 1 := ⟨n - 1, by omega⟩
    have hle : uN V f t ≤ k := by omega
    simp (disch := omega) only [fX11_sumBy_6, Int.reduceEq, Int.reduceNe, Int.reduceLT, Int.reduceLE, Int.reduceAdd, Int.reduceSub, Int.reduceMul, Int.reduceNeg, Int.zero_add, Int.add_zero, nm_eq, bd_some, bv_some, aI_ok, aL_ok, aS_ok, dv_ok, dw_ok, I_add, I_sub, I_mul, I_neg, I_lt, I_le, I_eq, I_nat, J_add, J_sub, J_mul, J_neg, J_lt, J_le, J_eq, I_l, J_i, I_div, J_div, b2_0, b2_1, b2_nar, nar_0, nar_1, zr_0, zr_1, zr_b2, cmp_eq, cmp_le, cmp_lt, cmp_gt, cmp_ge, mx_I, mn_I, mx_L, mn_L, az_I, if_true, if_false, not_true_eq_false, not_false_eq_true, i_0, i_1, i_2, i_3, i_4, i_5, i_6, i_7, i_8, i_9, i_10, i_11, i_12, i_16, i_18, i_20, i_24, i_28, i_29, i_30, i_31, i_32, i_33, i_34, i_35, i_37, i_40, i_41, i_42, i_43, i_45, i_46, i_47, i_48, i_57, i_59, i_63, i_64, i_96, i_97, i_98, i_99, i_100, i_101, i_102, i_103, i_104, i_105, i_106, i_107, i_108, i_109, i_110, i_111, i_112, i_113, i_122, i_200, i_255, i_256, i_257, i_258, i_355, i_400, i_999, i_1000, i_1200, i_5680, i_9999, i_10000, i_99999, j_0, j_1, j_2, j_3, j_4, j_5, j_6, j_9, j_10, j_11, j_98, j_99, j_100, j_999, j_1000, j_9999, j_10000, j_99999, j_1000000, hP.1, hle, sg]
  | succ d ih =>
    intro n k acc h1 h2 h3
    obtain ⟨n, rfl⟩ : ∃ m, n = m + 1 := ⟨n - 1, by omega⟩
    have hle : ¬ uN V f t ≤ k := by omega
    have hd := uD_in hV (f := f) (t := t) r0 r1 h2 (by omega)
    obtain ⟨q24, q25⟩ := hP.2 k h2 (by omega)
    have um := uM_in hV f t k
    by_cases hz : Z
    · have hnz : (¬ Z) = False := eq_false (fun q => q hz)
      by_cases hs : 0 ≤ uD V f t r k
      · have e : g_us V f t r Z k = uD V f t r k := by unfold g_us; rw [if_pos hz]; omega
        simp (disch := omega) only [fX11_sumBy_6, Int.reduceEq, Int.reduceNe, Int.reduceLT, Int.reduceLE, Int.reduceAdd, Int.reduceSub, Int.reduceMul, Int.reduceNeg, Int.zero_add, Int.add_zero, nm_eq, bd_some, bv_some, aI_ok, aL_ok, aS_ok, dv_ok, dw_ok, I_add, I_sub, I_mul, I_neg, I_lt, I_le, I_eq, I_nat, J_add, J_sub, J_mul, J_neg, J_lt, J_le, J_eq, I_l, J_i, I_div, J_div, b2_0, b2_1, b2_nar, nar_0, nar_1, zr_0, zr_1, zr_b2, cmp_eq, cmp_le, cmp_lt, cmp_gt, cmp_ge, mx_I, mn_I, mx_L, mn_L, az_I, if_true, if_false, not_true_eq_false, not_false_eq_true, i_0, i_1, i_2, i_3, i_4, i_5, i_6, i_7, i_8, i_9, i_10, i_11, i_12, i_16, i_18, i_20, i_24, i_28, i_29, i_30, i_31, i_32, i_33, i_34, i_35, i_37, i_40, i_41, i_42, i_43, i_45, i_46, i_47, i_48, i_57, i_59, i_63, i_64, i_96, i_97, i_98, i_99, i_100, i_101, i_102, i_103, i_104, i_105, i_106, i_107, i_108, i_109, i_110, i_111, i_112, i_113, i_122, i_200, i_255, i_256, i_257, i_258, i_355, i_400, i_999, i_1000, i_1200, i_5680, i_9999, i_10000, i_99999, j_0, j_1, j_2, j_3, j_4, j_5, j_6, j_9, j_10, j_11, j_98, j_99, j_100, j_999, j_1000, j_9999, j_10000, j_99999, j_1000000, hP.1, hle, q24, q25, uD_r, hnz, hs, ih, sg, e, Int.add_assoc]
      · have e : g_us V f t r Z k = 0 := by unfold g_us; rw [if_pos hz]; omega
        simp (disch := omega) only [fX11_sumBy_6, Int.reduceEq, Int.reduceNe, Int.reduceLT, Int.reduceLE, Int.reduceAdd, Int.reduceSub, Int.reduceMul, Int.reduceNeg, Int.zero_add, Int.add_zero, nm_eq, bd_some, bv_some, aI_ok, aL_ok, aS_ok, dv_ok, dw_ok, I_add, I_sub, I_mul, I_neg, I_lt, I_le, I_eq, I_nat, J_add, J_sub, J_mul, J_neg, J_lt, J_le, J_eq, I_l, J_i, I_div, J_div, b2_0, b2_1, b2_nar, nar_0, nar_1, zr_0, zr_1, zr_b2, cmp_eq, cmp_le, cmp_lt, cmp_gt, cmp_ge, mx_I, mn_I, mx_L, mn_L, az_I, if_true, if_false, not_true_eq_false, not_false_eq_true, i_0, i_1, i_2, i_3, i_4, i_5, i_6, i_7, i_8, i_9, i_10, i_11, i_12, i_16, i_18, i_20, i_24, i_28, i_29, i_30, i_31, i_32, i_33, i_34, i_35, i_37, i_40, i_41, i_42, i_43, i_45, i_46, i_47, i_48, i_57, i_59, i_63, i_64, i_96, i_97, i_98, i_99, i_100, i_101, i_102, i_103, i_104, i_105, i_106, i_107, i_108, i_109, i_110, i_111, i_112, i_113, i_122, i_200, i_255, i_256, i_257, i_258, i_355, i_400, i_999, i_1000, i_1200, i_5680, i_9999, i_10000, i_99999, j_0, j_1, j_2, j_3, j_4, j_5, j_6, j_9, j_10, j_11, j_98, j_99, j_100, j_999, j_1000, j_9999, j_10000, j_99999, j_1000000, hP.1, hle, q24, q25, uD_r, hnz, hs, ih, sg, e]
    · have hnz : (¬ Z) = True := eq_true hz
      have e : g_us V f t r Z k = uD V f t r k := by unfold g_us; rw [if_neg hz]
      simp (disch := omega) only [fX11_sumBy_6, Int.reduceEq, Int.reduceNe, Int.reduceLT, Int.reduceLE, Int.reduceAdd, Int.reduceSub, Int.reduceMul, Int.reduceNeg, Int.zero_add, Int.add_zero, nm_eq, bd_some, bv_some, aI_ok, aL_ok, aS_ok, dv_ok, dw_ok, I_add, I_sub, I_mul, I_neg, I_lt, I_le, I_eq, I_nat, J_add, J_sub, J_mul, J_neg, J_lt, J_le, J_eq, I_l, J_i, I_div, J_div, b2_0, b2_1, b2_nar, nar_0, nar_1, zr_0, zr_1, zr_b2, cmp_eq, cmp_le, cmp_lt, cmp_gt, cmp_ge, mx_I, mn_I, mx_L, mn_L, az_I, if_true, if_false, not_true_eq_false, not_false_eq_true, i_0, i_1, i_2, i_3, i_4, i_5, i_6, i_7, i_8, i_9, i_10, i_11, i_12, i_16, i_18, i_20, i_24, i_28, i_29, i_30, i_31, i_32, i_33, i_34, i_35, i_37, i_40, i_41, i_42, i_43, i_45, i_46, i_47, i_48, i_57, i_59, i_63, i_64, i_96, i_97, i_98, i_99, i_100, i_101, i_102, i_103, i_104, i_105, i_106, i_107, i_108, i_109, i_110, i_111, i_112, i_113, i_122, i_200, i_255, i_256, i_257, i_258, i_355, i_400, i_999, i_1000, i_1200, i_5680, i_9999, i_10000, i_99999, j_0, j_1, j_2, j_3, j_4, j_5, j_6, j_9, j_10, j_11, j_98, j_99, j_100, j_999, j_1000, j_9999, j_10000, j_99999, j_1000000, hP.1, hle, q24, q25, uD_r, hnz, ih, sg, e, Int.add_assoc]
theorem r_sum {Z : Prop} [Decidable Z] (hV : vB V) (hN : 100 ≤ N) (hP : PP V f t ν) {r : Int} (r0 : 0 ≤ r) (r1 : r ≤ 9999) : fX11_sumBy N (I_ (b2 Z)) (J_ r) ν = some (J_ (x_us V f t r Z), ν) := by
  have hn := hV.1
  unfold vN at hn
  have hu := uN_in hV f t
  have := r_sum_l (N := N) (Z := Z) hV hP r0 r1 (uN V f t).toNat N 0 0 (by omega) (by omega) (by omega)
  rw [Int.zero_add] at this
  simp (disch := omega) only [fX11_sumBy, Int.reduceEq, Int.reduceNe, Int.reduceLT, Int.reduceLE, Int.reduceAdd, Int.reduceSub, Int.reduceMul, Int.reduceNeg, Int.zero_add, Int.add_zero, nm_eq, bd_some, bv_some, aI_ok, aL_ok, aS_ok, dv_ok, dw_ok, I_add, I_sub, I_mul, I_neg, I_lt, I_le, I_eq, I_nat, J_add, J_sub, J_mul, J_neg, J_lt, J_le, J_eq, I_l, J_i, I_div, J_div, b2_0, b2_1, b2_nar, nar_0, nar_1, zr_0, zr_1, zr_b2, cmp_eq, cmp_le, cmp_lt, cmp_gt, cmp_ge, mx_I, mn_I, mx_L, mn_L, az_I, if_true, if_false, not_true_eq_false, not_false_eq_true, i_0, i_1, i_2, i_3, i_4, i_5, i_6, i_7, i_8, i_9, i_10, i_11, i_12, i_16, i_18, i_20, i_24, i_28, i_29, i_30, i_31, i_32, i_33, i_34, i_35, i_37, i_40, i_41, i_42, i_43, i_45, i_46, i_47, i_48, i_57, i_59, i_63, i_64, i_96, i_97, i_98, i_99, i_100, i_101, i_102, i_103, i_104, i_105, i_106, i_107, i_108, i_109, i_110, i_111, i_112, i_113, i_122, i_200, i_255, i_256, i_257, i_258, i_355, i_400, i_999, i_1000, i_1200, i_5680, i_9999, i_10000, i_99999, j_0, j_1, j_2, j_3, j_4, j_5, j_6, j_9, j_10, j_11, j_98, j_99, j_100, j_999, j_1000, j_9999, j_10000, j_99999, j_1000000, this]
  rfl
def g_vr (V : Vw) (f r z : Int) : Int := if p_ex V f z then 1000 * (s_nt V z + r) * s_mn V z else 0
theorem r_val_l (hV : vB V) (hL : RLd V ν) (f0 : 0 ≤ f) (f1 : f < 4) {r : Int} : ∀ (d n : Nat) (i acc : Int), d < n → 0 ≤ i → i + d = sN V → fX11_valueBy_10 N n (I_ f) (J_ r) (J_ acc) (I_ i) ν = some (J_ (acc + sg d i (g_vr V f r)), ν) := by
  have hn := hV.1
  unfold vN at hn
  have hR := hL.1
  intro d
  induction d with
  | zero =>
    intro n i acc h1 h2 h3
    obtain ⟨n, rfl⟩ : ∃ m, n = m + 1 := ⟨n - 1, by omega⟩
    have hle : sN V ≤ i := by omega
    simp (disch := omega) only [fX11_valueBy_10, Int.reduceEq, Int.reduceNe, Int.reduceLT, Int.reduceLE, Int.reduceAdd, Int.reduceSub, Int.reduceMul, Int.reduceNeg, Int.zero_add, Int.add_zero, nm_eq, bd_some, bv_some, aI_ok, aL_ok, aS_ok, dv_ok, dw_ok, I_add, I_sub, I_mul, I_neg, I_lt, I_le, I_eq, I_nat, J_add, J_sub, J_mul, J_neg, J_lt, J_le, J_eq, I_l, J_i, I_div, J_div, b2_0, b2_1, b2_nar, nar_0, nar_1, zr_0, zr_1, zr_b2, cmp_eq, cmp_le, cmp_lt, cmp_gt, cmp_ge, mx_I, mn_I, mx_L, mn_L, az_I, if_true, if_false, not_true_eq_false, not_false_eq_true, i_0, i_1, i_2, i_3, i_4, i_5, i_6, i_7, i_8, i_9, i_10, i_11, i_12, i_16, i_18, i_20, i_24, i_28, i_29, i_30, i_31, i_32, i_33, i_34, i_35, i_37, i_40, i_41, i_42, i_43, i_45, i_46, i_47, i_48, i_57, i_59, i_63, i_64, i_96, i_97, i_98, i_99, i_100, i_101, i_102, i_103, i_104, i_105, i_106, i_107, i_108, i_109, i_110, i_111, i_112, i_113, i_122, i_200, i_255, i_256, i_257, i_258, i_355, i_400, i_999, i_1000, i_1200, i_5680, i_9999, i_10000, i_99999, j_0, j_1, j_2, j_3, j_4, j_5, j_6, j_9, j_10, j_11, j_98, j_99, j_100, j_999, j_1000, j_9999, j_10000, j_99999, j_1000000, RB_n hR, hle, sg]
  | succ d ih =>
    intro n i acc h1 h2 h3
    obtain ⟨n, rfl⟩ : ∃ m, n = m + 1 := ⟨n - 1, by omega⟩
    have hle : ¬ sN V ≤ i := by omega
    have hlt : i < sN V := by omega
    have hv := hV.2.1 i h2 hlt
    unfold vS at hv
    have r19 := (hL.2.1.2 i h2 hlt).2.1
    by_cases hp : s_li V i = 1 ∧ s_mk V i = 1
    · by_cases hf : s_fm V i = f
      · have e : g_vr V f r i = 1000 * (s_nt V i + r) * s_mn V i := by unfold g_vr; rw [if_pos ⟨hp.1, hf, hp.2⟩]
        simp (disch := omega) only [fX11_valueBy_10, Int.reduceEq, Int.reduceNe, Int.reduceLT, Int.reduceLE, Int.reduceAdd, Int.reduceSub, Int.reduceMul, Int.reduceNeg, Int.zero_add, Int.add_zero, nm_eq, bd_some, bv_some, aI_ok, aL_ok, aS_ok, dv_ok, dw_ok, I_add, I_sub, I_mul, I_neg, I_lt, I_le, I_eq, I_nat, J_add, J_sub, J_mul, J_neg, J_lt, J_le, J_eq, I_l, J_i, I_div, J_div, b2_0, b2_1, b2_nar, nar_0, nar_1, zr_0, zr_1, zr_b2, cmp_eq, cmp_le, cmp_lt, cmp_gt, cmp_ge, mx_I, mn_I, mx_L, mn_L, az_I, if_true, if_false, not_true_eq_false, not_false_eq_true, i_0, i_1, i_2, i_3, i_4, i_5, i_6, i_7, i_8, i_9, i_10, i_11, i_12, i_16, i_18, i_20, i_24, i_28, i_29, i_30, i_31, i_32, i_33, i_34, i_35, i_37, i_40, i_41, i_42, i_43, i_45, i_46, i_47, i_48, i_57, i_59, i_63, i_64, i_96, i_97, i_98, i_99, i_100, i_101, i_102, i_103, i_104, i_105, i_106, i_107, i_108, i_109, i_110, i_111, i_112, i_113, i_122, i_200, i_255, i_256, i_257, i_258, i_355, i_400, i_999, i_1000, i_1200, i_5680, i_9999, i_10000, i_99999, j_0, j_1, j_2, j_3, j_4, j_5, j_6, j_9, j_10, j_11, j_98, j_99, j_100, j_999, j_1000, j_9999, j_10000, j_99999, j_1000000, RB_n hR, hle, r_isExp hV hR, b2_t hp, r_of1 hV hR, r_of5 hV hR, hf, r19, ih, sg, e, Int.add_assoc]
      · have e : g_vr V f r i = 0 := by unfold g_vr; rw [if_neg (fun q => hf q.2.1)]
        simp (disch := omega) only [fX11_valueBy_10, Int.reduceEq, Int.reduceNe, Int.reduceLT, Int.reduceLE, Int.reduceAdd, Int.reduceSub, Int.reduceMul, Int.reduceNeg, Int.zero_add, Int.add_zero, nm_eq, bd_some, bv_some, aI_ok, aL_ok, aS_ok, dv_ok, dw_ok, I_add, I_sub, I_mul, I_neg, I_lt, I_le, I_eq, I_nat, J_add, J_sub, J_mul, J_neg, J_lt, J_le, J_eq, I_l, J_i, I_div, J_div, b2_0, b2_1, b2_nar, nar_0, nar_1, zr_0, zr_1, zr_b2, cmp_eq, cmp_le, cmp_lt, cmp_gt, cmp_ge, mx_I, mn_I, mx_L, mn_L, az_I, if_true, if_false, not_true_eq_false, not_false_eq_true, i_0, i_1, i_2, i_3, i_4, i_5, i_6, i_7, i_8, i_9, i_10, i_11, i_12, i_16, i_18, i_20, i_24, i_28, i_29, i_30, i_31, i_32, i_33, i_34, i_35, i_37, i_40, i_41, i_42, i_43, i_45, i_46, i_47, i_48, i_57, i_59, i_63, i_64, i_96, i_97, i_98, i_99, i_100, i_101, i_102, i_103, i_104, i_105, i_106, i_107, i_108, i_109, i_110, i_111, i_112, i_113, i_122, i_200, i_255, i_256, i_257, i_258, i_355, i_400, i_999, i_1000, i_1200, i_5680, i_9999, i_10000, i_99999, j_0, j_1, j_2, j_3, j_4, j_5, j_6, j_9, j_10, j_11, j_98, j_99, j_100, j_999, j_1000, j_9999, j_10000, j_99999, j_1000000, RB_n hR, hle, r_isExp hV hR, b2_t hp, r_of1 hV hR, hf, ih, sg, e]
    · have e : g_vr V f r i = 0 := by unfold g_vr; rw [if_neg (fun q => hp ⟨q.1, q.2.2⟩)]
      simp (disch := omega) only [fX11_valueBy_10, Int.reduceEq, Int.reduceNe, Int.reduceLT, Int.reduceLE, Int.reduceAdd, Int.reduceSub, Int.reduceMul, Int.reduceNeg, Int.zero_add, Int.add_zero, nm_eq, bd_some, bv_some, aI_ok, aL_ok, aS_ok, dv_ok, dw_ok, I_add, I_sub, I_mul, I_neg, I_lt, I_le, I_eq, I_nat, J_add, J_sub, J_mul, J_neg, J_lt, J_le, J_eq, I_l, J_i, I_div, J_div, b2_0, b2_1, b2_nar, nar_0, nar_1, zr_0, zr_1, zr_b2, cmp_eq, cmp_le, cmp_lt, cmp_gt, cmp_ge, mx_I, mn_I, mx_L, mn_L, az_I, if_true, if_false, not_true_eq_false, not_false_eq_true, i_0, i_1, i_2, i_3, i_4, i_5, i_6, i_7, i_8, i_9, i_10, i_11, i_12, i_16, i_18, i_20, i_24, i_28, i_29, i_30, i_31, i_32, i_33, i_34, i_35, i_37, i_40, i_41, i_42, i_43, i_45, i_46, i_47, i_48, i_57, i_59, i_63, i_64, i_96, i_97, i_98, i_99, i_100, i_101, i_102, i_103, i_104, i_105, i_106, i_107, i_108, i_109, i_110, i_111, i_112, i_113, i_122, i_200, i_255, i_256, i_257, i_258, i_355, i_400, i_999, i_1000, i_1200, i_5680, i_9999, i_10000, i_99999, j_0, j_1, j_2, j_3, j_4, j_5, j_6, j_9, j_10, j_11, j_98, j_99, j_100, j_999, j_1000, j_9999, j_10000, j_99999, j_1000000, RB_n hR, hle, r_isExp hV hR, b2_f hp, ih, sg, e]
theorem g_vr_sum (V : Vw) (f r : Int) (d : Nat) (i : Int) : sg d i (g_vr V f r) = sg d i (g_val V f) + 1000 * r * sg d i (g_mn V f 1) := by
  rw [← sg_mul, ← sg_add]
  exact sg_congr _ _ (fun z _ _ => by
    unfold g_vr g_val g_mn
    by_cases h : p_ex V f z
    · rw [if_pos h, if_pos h, if_pos h, Int.mul_add, Int.add_mul]
    · rw [if_neg h, if_neg h, if_neg h, Int.mul_zero]; rfl)
theorem r_val (hV : vB V) (hN : 100 ≤ N) (hL : RLd V ν) (f0 : 0 ≤ f) (f1 : f < 4) {r : Int} : fX11_valueBy N (I_ f) (J_ r) ν = some (J_ (x_val V f + 1000 * r * x_mn V f 1), ν) := by
  have hn := hV.1
  unfold vN at hn
  have := r_val_l (N := N) (r := r) hV hL f0 f1 (sN V).toNat N 0 0 (by omega) (by omega) (by omega)
  rw [Int.zero_add, g_vr_sum] at this
  simp (disch := omega) only [fX11_valueBy, Int.reduceEq, Int.reduceNe, Int.reduceLT, Int.reduceLE, Int.reduceAdd, Int.reduceSub, Int.reduceMul, Int.reduceNeg, Int.zero_add, Int.add_zero, nm_eq, bd_some, bv_some, aI_ok, aL_ok, aS_ok, dv_ok, dw_ok, I_add, I_sub, I_mul, I_neg, I_lt, I_le, I_eq, I_nat, J_add, J_sub, J_mul, J_neg, J_lt, J_le, J_eq, I_l, J_i, I_div, J_div, b2_0, b2_1, b2_nar, nar_0, nar_1, zr_0, zr_1, zr_b2, cmp_eq, cmp_le, cmp_lt, cmp_gt, cmp_ge, mx_I, mn_I, mx_L, mn_L, az_I, if_true, if_false, not_true_eq_false, not_false_eq_true, i_0, i_1, i_2, i_3, i_4, i_5, i_6, i_7, i_8, i_9, i_10, i_11, i_12, i_16, i_18, i_20, i_24, i_28, i_29, i_30, i_31, i_32, i_33, i_34, i_35, i_37, i_40, i_41, i_42, i_43, i_45, i_46, i_47, i_48, i_57, i_59, i_63, i_64, i_96, i_97, i_98, i_99, i_100, i_101, i_102, i_103, i_104, i_105, i_106, i_107, i_108, i_109, i_110, i_111, i_112, i_113, i_122, i_200, i_255, i_256, i_257, i_258, i_355, i_400, i_999, i_1000, i_1200, i_5680, i_9999, i_10000, i_99999, j_0, j_1, j_2, j_3, j_4, j_5, j_6, j_9, j_10, j_11, j_98, j_99, j_100, j_999, j_1000, j_9999, j_10000, j_99999, j_1000000, r_laid hL.2.2, this]
  rfl
theorem r_share {s v : Int} (s0 : -600000000000000 ≤ s) (s1 : s ≤ 600000000000000) (v0 : 0 ≤ v) (v1 : v ≤ 10000000000000) : fX11_shareOf N (J_ s) (J_ v) ν = some (I_ (mg s v), ν) := by
  unfold mg
  by_cases hv : v = 0
  · subst hv
    by_cases hs : s = 0
    · simp (disch := omega) only [fX11_shareOf, Int.reduceEq, Int.reduceNe, Int.reduceLT, Int.reduceLE, Int.reduceAdd, Int.reduceSub, Int.reduceMul, Int.reduceNeg, Int.zero_add, Int.add_zero, nm_eq, bd_some, bv_some, aI_ok, aL_ok, aS_ok, dv_ok, dw_ok, I_add, I_sub, I_mul, I_neg, I_lt, I_le, I_eq, I_nat, J_add, J_sub, J_mul, J_neg, J_lt, J_le, J_eq, I_l, J_i, I_div, J_div, b2_0, b2_1, b2_nar, nar_0, nar_1, zr_0, zr_1, zr_b2, cmp_eq, cmp_le, cmp_lt, cmp_gt, cmp_ge, mx_I, mn_I, mx_L, mn_L, az_I, if_true, if_false, not_true_eq_false, not_false_eq_true, i_0, i_1, i_2, i_3, i_4, i_5, i_6, i_7, i_8, i_9, i_10, i_11, i_12, i_16, i_18, i_20, i_24, i_28, i_29, i_30, i_31, i_32, i_33, i_34, i_35, i_37, i_40, i_41, i_42, i_43, i_45, i_46, i_47, i_48, i_57, i_59, i_63, i_64, i_96, i_97, i_98, i_99, i_100, i_101, i_102, i_103, i_104, i_105, i_106, i_107, i_108, i_109, i_110, i_111, i_112, i_113, i_122, i_200, i_255, i_256, i_257, i_258, i_355, i_400, i_999, i_1000, i_1200, i_5680, i_9999, i_10000, i_99999, j_0, j_1, j_2, j_3, j_4, j_5, j_6, j_9, j_10, j_11, j_98, j_99, j_100, j_999, j_1000, j_9999, j_10000, j_99999, j_1000000, hs]
    · simp (disch := omega) only [fX11_shareOf, Int.reduceEq, Int.reduceNe, Int.reduceLT, Int.reduceLE, Int.reduceAdd, Int.reduceSub, Int.reduceMul, Int.reduceNeg, Int.zero_add, Int.add_zero, nm_eq, bd_some, bv_some, aI_ok, aL_ok, aS_ok, dv_ok, dw_ok, I_add, I_sub, I_mul, I_neg, I_lt, I_le, I_eq, I_nat, J_add, J_sub, J_mul, J_neg, J_lt, J_le, J_eq, I_l, J_i, I_div, J_div, b2_0, b2_1, b2_nar, nar_0, nar_1, zr_0, zr_1, zr_b2, cmp_eq, cmp_le, cmp_lt, cmp_gt, cmp_ge, mx_I, mn_I, mx_L, mn_L, az_I, if_true, if_false, not_true_eq_false, not_false_eq_true, i_0, i_1, i_2, i_3, i_4, i_5, i_6, i_7, i_8, i_9, i_10, i_11, i_12, i_16, i_18, i_20, i_24, i_28, i_29, i_30, i_31, i_32, i_33, i_34, i_35, i_37, i_40, i_41, i_42, i_43, i_45, i_46, i_47, i_48, i_57, i_59, i_63, i_64, i_96, i_97, i_98, i_99, i_100, i_101, i_102, i_103, i_104, i_105, i_106, i_107, i_108, i_109, i_110, i_111, i_112, i_113, i_122, i_200, i_255, i_256, i_257, i_258, i_355, i_400, i_999, i_1000, i_1200, i_5680, i_9999, i_10000, i_99999, j_0, j_1, j_2, j_3, j_4, j_5, j_6, j_9, j_10, j_11, j_98, j_99, j_100, j_999, j_1000, j_9999, j_10000, j_99999, j_1000000, hs]
  · rw [if_neg (show ¬ v ≤ 0 by omega)]
    by_cases hs : s < 0
    · have hs' : ¬ 0 ≤ s := by omega
      rw [if_pos hs]
      simp (disch := omega) only [fX11_shareOf, fX11_shareOf_37, Int.reduceEq, Int.reduceNe, Int.reduceLT, Int.reduceLE, Int.reduceAdd, Int.reduceSub, Int.reduceMul, Int.reduceNeg, Int.zero_add, Int.add_zero, nm_eq, bd_some, bv_some, aI_ok, aL_ok, aS_ok, dv_ok, dw_ok, I_add, I_sub, I_mul, I_neg, I_lt, I_le, I_eq, I_nat, J_add, J_sub, J_mul, J_neg, J_lt, J_le, J_eq, I_l, J_i, I_div, J_div, b2_0, b2_1, b2_nar, nar_0, nar_1, zr_0, zr_1, zr_b2, cmp_eq, cmp_le, cmp_lt, cmp_gt, cmp_ge, mx_I, mn_I, mx_L, mn_L, az_I, if_true, if_false, not_true_eq_false, not_false_eq_true, i_0, i_1, i_2, i_3, i_4, i_5, i_6, i_7, i_8, i_9, i_10, i_11, i_12, i_16, i_18, i_20, i_24, i_28, i_29, i_30, i_31, i_32, i_33, i_34, i_35, i_37, i_40, i_41, i_42, i_43, i_45, i_46, i_47, i_48, i_57, i_59, i_63, i_64, i_96, i_97, i_98, i_99, i_100, i_101, i_102, i_103, i_104, i_105, i_106, i_107, i_108, i_109, i_110, i_111, i_112, i_113, i_122, i_200, i_255, i_256, i_257, i_258, i_355, i_400, i_999, i_1000, i_1200, i_5680, i_9999, i_10000, i_99999, j_0, j_1, j_2, j_3, j_4, j_5, j_6, j_9, j_10, j_11, j_98, j_99, j_100, j_999, j_1000, j_9999, j_10000, j_99999, j_1000000, hv, hs']
    · have hs' : 0 ≤ s := by omega
      have h0 := Int.ediv_nonneg (a := 10000 * s) (b := v) (by omega) (by omega)
      have h1 := Int.ediv_le_self (a := 10000 * s) v (by omega)
      rw [if_neg hs]
      by_cases hc : 10000 * s / v ≤ 99999
      · rw [Int.min_eq_right hc]
        simp (disch := omega) only [fX11_shareOf, fX11_shareOf_37, Int.reduceEq, Int.reduceNe, Int.reduceLT, Int.reduceLE, Int.reduceAdd, Int.reduceSub, Int.reduceMul, Int.reduceNeg, Int.zero_add, Int.add_zero, nm_eq, bd_some, bv_some, aI_ok, aL_ok, aS_ok, dv_ok, dw_ok, I_add, I_sub, I_mul, I_neg, I_lt, I_le, I_eq, I_nat, J_add, J_sub, J_mul, J_neg, J_lt, J_le, J_eq, I_l, J_i, I_div, J_div, b2_0, b2_1, b2_nar, nar_0, nar_1, zr_0, zr_1, zr_b2, cmp_eq, cmp_le, cmp_lt, cmp_gt, cmp_ge, mx_I, mn_I, mx_L, mn_L, az_I, if_true, if_false, not_true_eq_false, not_false_eq_true, i_0, i_1, i_2, i_3, i_4, i_5, i_6, i_7, i_8, i_9, i_10, i_11, i_12, i_16, i_18, i_20, i_24, i_28, i_29, i_30, i_31, i_32, i_33, i_34, i_35, i_37, i_40, i_41, i_42, i_43, i_45, i_46, i_47, i_48, i_57, i_59, i_63, i_64, i_96, i_97, i_98, i_99, i_100, i_101, i_102, i_103, i_104, i_105, i_106, i_107, i_108, i_109, i_110, i_111, i_112, i_113, i_122, i_200, i_255, i_256, i_257, i_258, i_355, i_400, i_999, i_1000, i_1200, i_5680, i_9999, i_10000, i_99999, j_0, j_1, j_2, j_3, j_4, j_5, j_6, j_9, j_10, j_11, j_98, j_99, j_100, j_999, j_1000, j_9999, j_10000, j_99999, j_1000000, hv, hs', hc]
      · rw [Int.min_eq_left (by omega)]
        simp (disch := omega) only [fX11_shareOf, fX11_shareOf_37, Int.reduceEq, Int.reduceNe, Int.reduceLT, Int.reduceLE, Int.reduceAdd, Int.reduceSub, Int.reduceMul, Int.reduceNeg, Int.zero_add, Int.add_zero, nm_eq, bd_some, bv_some, aI_ok, aL_ok, aS_ok, dv_ok, dw_ok, I_add, I_sub, I_mul, I_neg, I_lt, I_le, I_eq, I_nat, J_add, J_sub, J_mul, J_neg, J_lt, J_le, J_eq, I_l, J_i, I_div, J_div, b2_0, b2_1, b2_nar, nar_0, nar_1, zr_0, zr_1, zr_b2, cmp_eq, cmp_le, cmp_lt, cmp_gt, cmp_ge, mx_I, mn_I, mx_L, mn_L, az_I, if_true, if_false, not_true_eq_false, not_false_eq_true, i_0, i_1, i_2, i_3, i_4, i_5, i_6, i_7, i_8, i_9, i_10, i_11, i_12, i_16, i_18, i_20, i_24, i_28, i_29, i_30, i_31, i_32, i_33, i_34, i_35, i_37, i_40, i_41, i_42, i_43, i_45, i_46, i_47, i_48, i_57, i_59, i_63, i_64, i_96, i_97, i_98, i_99, i_100, i_101, i_102, i_103, i_104, i_105, i_106, i_107, i_108, i_109, i_110, i_111, i_112, i_113, i_122, i_200, i_255, i_256, i_257, i_258, i_355, i_400, i_999, i_1000, i_1200, i_5680, i_9999, i_10000, i_99999, j_0, j_1, j_2, j_3, j_4, j_5, j_6, j_9, j_10, j_11, j_98, j_99, j_100, j_999, j_1000, j_9999, j_10000, j_99999, j_1000000, hv, hs', hc]
/-- what a margin of the reference is, over what is laid -/
theorem r_ownL {Z : Prop} [Decidable Z] (hV : vB V) (hN : 100 ≤ N) (f0 : 0 ≤ f) (f1 : f < 4) (t0 : 0 ≤ t) (t1 : t ≤ 2) (hL : RLd V ν) : ∃ ν', fX11_ownMargin N (I_ f) (I_ t) (I_ (b2 Z)) ν = some (I_ (x_ma V f t 0 Z), ν') ∧ Fr P_rp ν ν' := by
  obtain ⟨ν', e1, e2, e3⟩ := r_parts (N := N) hV hN f0 f1 t0 t1 hL
  have hL' := hL.p e2
  have h1 := x_us_in (f := f) (t := t) (Z := Z) hV (r := 0) (by omega) (by omega)
  have h2 := x_val_mx hV f
  have h4 := rm_in (f := f) (r := 0) hV (by omega) (by omega)
  refine ⟨ν', ?_, e2⟩
  unfold x_ma
  have es := r_sum (N := N) (Z := Z) hV hN e3 (r := 0) (by omega) (by omega)
  have ev := r_val (N := N) (r := 0) hV hN hL' f0 f1
  have esh := r_share (N := N) (ν := ν') (s := x_us V f t 0 Z) (v := x_val V f + 1000 * 0 * x_mn V f 1) h1.1 h1.2 (by omega) (by omega)
  unfold fX11_ownMargin
  rw [e1, bv_some, j_0, es, bd_some, ev, bd_some, esh, bd_some]
end
