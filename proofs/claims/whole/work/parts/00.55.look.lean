/-! Study.countBelow, countIn, look. -/
section
variable {N : Nat} {b : Nat} {V : Vw} {f : Int}
def ctM (V : Vw) (f i A B : Int) (μ : Mem) : Mem := stI (stI (stI (stI μ 14 i.toNat (I_ (b2 (p_in V i ∧ s_fm V i = f)))) 13 i.toNat (I_ (b2 (p_bl V i ∧ s_fm V i = f)))) 11 (s_md V i).toNat (I_ (A + g_all V f (s_md V i) i))) 12 (s_md V i).toNat (I_ (B + g_bel V f (s_md V i) i))
theorem ctM_F {i A B : Int} {μ : Mem} : Fr P_ct μ (ctM V f i A B μ) := (((Fr.rf.stI (by unfold P_ct; omega)).stI (by unfold P_ct; omega)).stI (by unfold P_ct; omega)).stI (by unfold P_ct; omega)
theorem P_ct_ge (k j : Nat) (h : 32 ≤ k) : ¬ P_ct k j := by unfold P_ct; omega
theorem P_ci_ge (k j : Nat) (h : 32 ≤ k) : ¬ P_ci k j := by unfold P_ci; omega
theorem P_cb_ge (k j : Nat) (h : 32 ≤ k) : ¬ P_cb k j := by unfold P_cb; omega
theorem c_ct87 (hV : vB V) (f0 : 0 ≤ f) (f1 : f < 4) {i : Int} (h0 : 0 ≤ i) (h1 : i < sN V) {μ : Mem} (hB : CB b V μ) (hH : HD b f μ) {A B : Int} (hA : μ.1 11 (s_md V i).toNat = I_ A) (hA2 : μ.1 12 (s_md V i).toNat = I_ B) (k : Nat → Int32 → Mem → Option (Unit × Mem)) : fX8_countBelow_87 N k b (I_ i) (I_ (s_md V i)) (I_ (b2 (p_in V i ∧ s_fm V i = f))) (I_ i) μ = k b (I_ (i + 1)) (ctM V f i A B μ) := by
  have hn := hV.1
  unfold vN at hn
  have hv := hV.2.1 i h0 h1
  unfold vS at hv
  have hb := kB_ge hB.1
  have hS := hB.2.1
  by_cases hp : p_in V i ∧ s_fm V i = f
  · have ga : g_all V f (s_md V i) i = s_mn V i := by unfold g_all; rw [if_pos ⟨hp.1, hp.2, rfl⟩]
    have hB1 : CB b V (stI μ 14 i.toNat (I_ 1)) := hB.F (P := P_ct) (Fr.rf.stI (by unfold P_ct; omega)) P_ct_ge
    have hc := c_of_in hV (f := f) (m := s_md V i) f0 f1 (by omega) (by omega)
    by_cases hq : s_nt V i < c_of V f (s_md V i)
    · have hq2 : p_bl V i ∧ s_fm V i = f := ⟨⟨hp.1, by rw [hp.2]; exact hq⟩, hp.2⟩
      have gb : g_bel V f (s_md V i) i = s_mn V i := by unfold g_bel; rw [if_pos ⟨hq2.1, hq2.2, rfl⟩]
      have hq3 : ¬ c_of V f (s_md V i) ≤ s_nt V i := by omega
      unfold fX8_countBelow_87 fX8_countBelow_128 fX8_countBelow_155 ctM
      simp (disch := omega) only [Int.reduceEq, Int.reduceNe, Int.reduceLT, Int.reduceLE, Int.reduceAdd, Int.reduceSub, Int.reduceMul, Int.reduceNeg, Int.zero_add, Int.add_zero, nm_eq, bd_some, bv_some, aI_ok, aL_ok, aS_ok, dv_ok, dw_ok, I_add, I_sub, I_mul, I_neg, I_lt, I_le, I_eq, I_nat, J_add, J_sub, J_mul, J_neg, J_lt, J_le, J_eq, I_l, J_i, I_div, J_div, b2_0, b2_1, b2_nar, nar_0, nar_1, zr_0, zr_1, zr_b2, cmp_eq, cmp_le, cmp_lt, cmp_gt, cmp_ge, mx_I, mn_I, mx_L, mn_L, az_I, if_true, if_false, i_0, i_1, i_2, i_3, i_4, i_5, i_6, i_7, i_8, i_9, i_10, i_11, i_12, i_16, i_18, i_20, i_24, i_28, i_29, i_30, i_31, i_32, i_33, i_34, i_35, i_37, i_40, i_41, i_42, i_43, i_45, i_46, i_47, i_48, i_57, i_59, i_63, i_64, i_96, i_97, i_98, i_99, i_100, i_101, i_102, i_103, i_104, i_105, i_106, i_107, i_108, i_109, i_110, i_111, i_112, i_113, i_122, i_200, i_255, i_256, i_257, i_258, i_355, i_400, i_999, i_1000, i_1200, i_5680, i_9999, i_10000, i_99999, j_0, j_1, j_2, j_3, j_4, j_5, j_6, j_9, j_10, j_11, j_98, j_99, j_100, j_999, j_1000, j_9999, j_10000, j_99999, j_1000000, b2_t hp, b2_t hq2, ga, gb, st_ne, st_I2, at_I, hH.1, hH.2, gB_ok hB.1, c_costOf hV hB1, SB_n hS, SB_mk hS, SB_fm hS, SB_md hS, SB_lv hS, SB_mo hS, SB_mn hS, SB_pr hS, SB_of hS, SB_nt hS, SB_li hS, hq3, hA, hA2]
    · have hq2 : ¬ (p_bl V i ∧ s_fm V i = f) := fun q => hq (by have := q.1.2; rw [q.2] at this; exact this)
      have gb : g_bel V f (s_md V i) i = 0 := by unfold g_bel; rw [if_neg (fun q => hq2 ⟨q.1, q.2.1⟩)]
      have hq3 : c_of V f (s_md V i) ≤ s_nt V i := by omega
      unfold fX8_countBelow_87 fX8_countBelow_128 fX8_countBelow_155 ctM
      simp (disch := omega) only [Int.reduceEq, Int.reduceNe, Int.reduceLT, Int.reduceLE, Int.reduceAdd, Int.reduceSub, Int.reduceMul, Int.reduceNeg, Int.zero_add, Int.add_zero, nm_eq, bd_some, bv_some, aI_ok, aL_ok, aS_ok, dv_ok, dw_ok, I_add, I_sub, I_mul, I_neg, I_lt, I_le, I_eq, I_nat, J_add, J_sub, J_mul, J_neg, J_lt, J_le, J_eq, I_l, J_i, I_div, J_div, b2_0, b2_1, b2_nar, nar_0, nar_1, zr_0, zr_1, zr_b2, cmp_eq, cmp_le, cmp_lt, cmp_gt, cmp_ge, mx_I, mn_I, mx_L, mn_L, az_I, if_true, if_false, i_0, i_1, i_2, i_3, i_4, i_5, i_6, i_7, i_8, i_9, i_10, i_11, i_12, i_16, i_18, i_20, i_24, i_28, i_29, i_30, i_31, i_32, i_33, i_34, i_35, i_37, i_40, i_41, i_42, i_43, i_45, i_46, i_47, i_48, i_57, i_59, i_63, i_64, i_96, i_97, i_98, i_99, i_100, i_101, i_102, i_103, i_104, i_105, i_106, i_107, i_108, i_109, i_110, i_111, i_112, i_113, i_122, i_200, i_255, i_256, i_257, i_258, i_355, i_400, i_999, i_1000, i_1200, i_5680, i_9999, i_10000, i_99999, j_0, j_1, j_2, j_3, j_4, j_5, j_6, j_9, j_10, j_11, j_98, j_99, j_100, j_999, j_1000, j_9999, j_10000, j_99999, j_1000000, b2_t hp, b2_f hq2, ga, gb, st_ne, st_I2, at_I, hH.1, hH.2, gB_ok hB.1, c_costOf hV hB1, SB_n hS, SB_mk hS, SB_fm hS, SB_md hS, SB_lv hS, SB_mo hS, SB_mn hS, SB_pr hS, SB_of hS, SB_nt hS, SB_li hS, hq3, hA, hA2]
  · have ga : g_all V f (s_md V i) i = 0 := by unfold g_all; rw [if_neg (fun q => hp ⟨q.1, q.2.1⟩)]
    have hq2 : ¬ (p_bl V i ∧ s_fm V i = f) := fun q => hp ⟨q.1.1, q.2⟩
    have gb : g_bel V f (s_md V i) i = 0 := by unfold g_bel; rw [if_neg (fun q => hq2 ⟨q.1, q.2.1⟩)]
    unfold fX8_countBelow_87 fX8_countBelow_128 fX8_countBelow_155 ctM
    simp (disch := omega) only [Int.reduceEq, Int.reduceNe, Int.reduceLT, Int.reduceLE, Int.reduceAdd, Int.reduceSub, Int.reduceMul, Int.reduceNeg, Int.zero_add, Int.add_zero, nm_eq, bd_some, bv_some, aI_ok, aL_ok, aS_ok, dv_ok, dw_ok, I_add, I_sub, I_mul, I_neg, I_lt, I_le, I_eq, I_nat, J_add, J_sub, J_mul, J_neg, J_lt, J_le, J_eq, I_l, J_i, I_div, J_div, b2_0, b2_1, b2_nar, nar_0, nar_1, zr_0, zr_1, zr_b2, cmp_eq, cmp_le, cmp_lt, cmp_gt, cmp_ge, mx_I, mn_I, mx_L, mn_L, az_I, if_true, if_false, i_0, i_1, i_2, i_3, i_4, i_5, i_6, i_7, i_8, i_9, i_10, i_11, i_12, i_16, i_18, i_20, i_24, i_28, i_29, i_30, i_31, i_32, i_33, i_34, i_35, i_37, i_40, i_41, i_42, i_43, i_45, i_46, i_47, i_48, i_57, i_59, i_63, i_64, i_96, i_97, i_98, i_99, i_100, i_101, i_102, i_103, i_104, i_105, i_106, i_107, i_108, i_109, i_110, i_111, i_112, i_113, i_122, i_200, i_255, i_256, i_257, i_258, i_355, i_400, i_999, i_1000, i_1200, i_5680, i_9999, i_10000, i_99999, j_0, j_1, j_2, j_3, j_4, j_5, j_6, j_9, j_10, j_11, j_98, j_99, j_100, j_999, j_1000, j_9999, j_10000, j_99999, j_1000000, b2_f hp, b2_f hq2, ga, gb, st_ne, st_I2, at_I, SB_n hS, SB_mk hS, SB_fm hS, SB_md hS, SB_lv hS, SB_mo hS, SB_mn hS, SB_pr hS, SB_of hS, SB_nt hS, SB_li hS, hA, hA2]
def INVb (V : Vw) (f i : Int) (μ : Mem) : Prop := (∀ m, 0 ≤ m → m < 6 → μ.1 11 m.toNat = I_ (sg i.toNat 0 (g_all V f m)) ∧ μ.1 12 m.toNat = I_ (sg i.toNat 0 (g_bel V f m))) ∧ ∀ z, 0 ≤ z → z < i → μ.1 14 z.toNat = I_ (b2 (p_in V z ∧ s_fm V z = f)) ∧ μ.1 13 z.toNat = I_ (b2 (p_bl V z ∧ s_fm V z = f))
theorem INVb_step (hV : vB V) {i : Int} (h0 : 0 ≤ i) (h1 : i < sN V) {μ : Mem} (h : INVb V f i μ) : INVb V f (i + 1) (ctM V f i (sg i.toNat 0 (g_all V f (s_md V i))) (sg i.toNat 0 (g_bel V f (s_md V i))) μ) := by
  have hn := hV.1
  unfold vN at hn
  have hv := hV.2.1 i h0 h1
  unfold vS at hv
  obtain ⟨ha, hz⟩ := h
  refine ⟨fun m m0 m1 => ?_, fun z z0 z1 => ?_⟩
  · obtain ⟨e1, e2⟩ := ha m m0 m1
    rw [sg_step h0, sg_step h0]
    unfold ctM
    simp (disch := omega) only [st_ne, at_I, e1, e2]
    by_cases hm : m = s_md V i
    · subst hm
      simp (disch := omega) only [if_true, and_self]
    · have z1 : g_all V f m i = 0 := by unfold g_all; rw [if_neg (fun q => hm q.2.2.symm)]
      have z2 : g_bel V f m i = 0 := by unfold g_bel; rw [if_neg (fun q => hm q.2.2.symm)]
      simp (disch := omega) only [hm, if_false, z1, z2, Int.add_zero, and_self]
  · unfold ctM
    simp (disch := omega) only [st_ne, at_I]
    by_cases hm : z = i
    · subst hm
      simp (disch := omega) only [if_true, and_self]
    · obtain ⟨e1, e2⟩ := hz z z0 (by omega)
      simp (disch := omega) only [hm, if_false, e1, e2, and_self]
theorem c_ct38 (hV : vB V) (f0 : 0 ≤ f) (f1 : f < 4) : ∀ (d n : Nat) (i : Int) (μ : Mem), d < n → 0 ≤ i → i + d = sN V → CB b V μ → HD b f μ → μ.1 3 4 = I_ (x_bs V f) → INVb V f i μ → ∃ μ', fX8_countBelow_38 N n b (I_ i) μ = some ((), μ') ∧ Fr P_ct μ μ' ∧ INVb V f (sN V) μ' := by
  have hn := hV.1
  unfold vN at hn
  have hbi := x_bs_in V f
  intro d
  induction d with
  | zero =>
    intro n i μ h1 h2 h3 hB hH hX hI
    obtain ⟨n, rfl⟩ : ∃ m, n = m + 1 := ⟨n - 1, by omega⟩
    have hle : sN V ≤ i := by omega
    have hi : i = sN V := by omega
    subst hi
    refine ⟨μ, ?_, Fr.rf, hI⟩
    simp (disch := omega) only [fX8_countBelow_38, Int.reduceEq, Int.reduceNe, Int.reduceLT, Int.reduceLE, Int.reduceAdd, Int.reduceSub, Int.reduceMul, Int.reduceNeg, Int.zero_add, Int.add_zero, nm_eq, bd_some, bv_some, aI_ok, aL_ok, aS_ok, dv_ok, dw_ok, I_add, I_sub, I_mul, I_neg, I_lt, I_le, I_eq, I_nat, J_add, J_sub, J_mul, J_neg, J_lt, J_le, J_eq, I_l, J_i, I_div, J_div, b2_0, b2_1, b2_nar, nar_0, nar_1, zr_0, zr_1, zr_b2, cmp_eq, cmp_le, cmp_lt, cmp_gt, cmp_ge, mx_I, mn_I, mx_L, mn_L, az_I, if_true, if_false, i_0, i_1, i_2, i_3, i_4, i_5, i_6, i_7, i_8, i_9, i_10, i_11, i_12, i_16, i_18, i_20, i_24, i_28, i_29, i_30, i_31, i_32, i_33, i_34, i_35, i_37, i_40, i_41, i_42, i_43, i_45, i_46, i_47, i_48, i_57, i_59, i_63, i_64, i_96, i_97, i_98, i_99, i_100, i_101, i_102, i_103, i_104, i_105, i_106, i_107, i_108, i_109, i_110, i_111, i_112, i_113, i_122, i_200, i_255, i_256, i_257, i_258, i_355, i_400, i_999, i_1000, i_1200, i_5680, i_9999, i_10000, i_99999, j_0, j_1, j_2, j_3, j_4, j_5, j_6, j_9, j_10, j_11, j_98, j_99, j_100, j_999, j_1000, j_9999, j_10000, j_99999, j_1000000, SB_n hB.2.1, hle]
  | succ d ih =>
    intro n i μ h1 h2 h3 hB hH hX hI
    obtain ⟨n, rfl⟩ : ∃ m, n = m + 1 := ⟨n - 1, by omega⟩
    have hle : ¬ sN V ≤ i := by omega
    have hlt : i < sN V := by omega
    have hv := hV.2.1 i h2 hlt
    unfold vS at hv
    have hS := hB.2.1
    have e : fX8_countBelow_38 N (n + 1) b (I_ i) μ = fX8_countBelow_87 N (fun b0 v2 μ => fX8_countBelow_38 N n b0 v2 μ) b (I_ i) (I_ (s_md V i)) (I_ (b2 (p_in V i ∧ s_fm V i = f))) (I_ i) μ := by
      by_cases hbs : x_bs V f = -1
      · have hp : ¬ (p_in V i ∧ s_fm V i = f) := fun q => by
          have := q.1.2
          rw [q.2] at this
          omega
        simp (disch := omega) only [fX8_countBelow_38, Int.reduceEq, Int.reduceNe, Int.reduceLT, Int.reduceLE, Int.reduceAdd, Int.reduceSub, Int.reduceMul, Int.reduceNeg, Int.zero_add, Int.add_zero, nm_eq, bd_some, bv_some, aI_ok, aL_ok, aS_ok, dv_ok, dw_ok, I_add, I_sub, I_mul, I_neg, I_lt, I_le, I_eq, I_nat, J_add, J_sub, J_mul, J_neg, J_lt, J_le, J_eq, I_l, J_i, I_div, J_div, b2_0, b2_1, b2_nar, nar_0, nar_1, zr_0, zr_1, zr_b2, cmp_eq, cmp_le, cmp_lt, cmp_gt, cmp_ge, mx_I, mn_I, mx_L, mn_L, az_I, if_true, if_false, i_0, i_1, i_2, i_3, i_4, i_5, i_6, i_7, i_8, i_9, i_10, i_11, i_12, i_16, i_18, i_20, i_24, i_28, i_29, i_30, i_31, i_32, i_33, i_34, i_35, i_37, i_40, i_41, i_42, i_43, i_45, i_46, i_47, i_48, i_57, i_59, i_63, i_64, i_96, i_97, i_98, i_99, i_100, i_101, i_102, i_103, i_104, i_105, i_106, i_107, i_108, i_109, i_110, i_111, i_112, i_113, i_122, i_200, i_255, i_256, i_257, i_258, i_355, i_400, i_999, i_1000, i_1200, i_5680, i_9999, i_10000, i_99999, j_0, j_1, j_2, j_3, j_4, j_5, j_6, j_9, j_10, j_11, j_98, j_99, j_100, j_999, j_1000, j_9999, j_10000, j_99999, j_1000000, SB_n hS, SB_mk hS, SB_fm hS, SB_md hS, SB_lv hS, SB_mo hS, SB_mn hS, SB_pr hS, SB_of hS, SB_nt hS, SB_li hS, hle, hX, hbs, b2_f hp]
      · by_cases hp : p_in V i ∧ s_fm V i = f
        · have hp2 : s_li V i = 1 ∧ s_fm V i = f ∧ s_mk V i = x_bs V f := ⟨hp.1.1, hp.2, by have := hp.1.2; rw [hp.2] at this; exact this⟩
          simp (disch := omega) only [fX8_countBelow_38, Int.reduceEq, Int.reduceNe, Int.reduceLT, Int.reduceLE, Int.reduceAdd, Int.reduceSub, Int.reduceMul, Int.reduceNeg, Int.zero_add, Int.add_zero, nm_eq, bd_some, bv_some, aI_ok, aL_ok, aS_ok, dv_ok, dw_ok, I_add, I_sub, I_mul, I_neg, I_lt, I_le, I_eq, I_nat, J_add, J_sub, J_mul, J_neg, J_lt, J_le, J_eq, I_l, J_i, I_div, J_div, b2_0, b2_1, b2_nar, nar_0, nar_1, zr_0, zr_1, zr_b2, cmp_eq, cmp_le, cmp_lt, cmp_gt, cmp_ge, mx_I, mn_I, mx_L, mn_L, az_I, if_true, if_false, i_0, i_1, i_2, i_3, i_4, i_5, i_6, i_7, i_8, i_9, i_10, i_11, i_12, i_16, i_18, i_20, i_24, i_28, i_29, i_30, i_31, i_32, i_33, i_34, i_35, i_37, i_40, i_41, i_42, i_43, i_45, i_46, i_47, i_48, i_57, i_59, i_63, i_64, i_96, i_97, i_98, i_99, i_100, i_101, i_102, i_103, i_104, i_105, i_106, i_107, i_108, i_109, i_110, i_111, i_112, i_113, i_122, i_200, i_255, i_256, i_257, i_258, i_355, i_400, i_999, i_1000, i_1200, i_5680, i_9999, i_10000, i_99999, j_0, j_1, j_2, j_3, j_4, j_5, j_6, j_9, j_10, j_11, j_98, j_99, j_100, j_999, j_1000, j_9999, j_10000, j_99999, j_1000000, SB_n hS, SB_mk hS, SB_fm hS, SB_md hS, SB_lv hS, SB_mo hS, SB_mn hS, SB_pr hS, SB_of hS, SB_nt hS, SB_li hS, hle, hX, hbs, hH.2, c_isOf hV hS, b2_t hp, b2_t hp2]
        · have hp2 : ¬ (s_li V i = 1 ∧ s_fm V i = f ∧ s_mk V i = x_bs V f) := fun q => hp ⟨⟨q.1, by rw [q.2.1]; exact q.2.2⟩, q.2.1⟩
          simp (disch := omega) only [fX8_countBelow_38, Int.reduceEq, Int.reduceNe, Int.reduceLT, Int.reduceLE, Int.reduceAdd, Int.reduceSub, Int.reduceMul, Int.reduceNeg, Int.zero_add, Int.add_zero, nm_eq, bd_some, bv_some, aI_ok, aL_ok, aS_ok, dv_ok, dw_ok, I_add, I_sub, I_mul, I_neg, I_lt, I_le, I_eq, I_nat, J_add, J_sub, J_mul, J_neg, J_lt, J_le, J_eq, I_l, J_i, I_div, J_div, b2_0, b2_1, b2_nar, nar_0, nar_1, zr_0, zr_1, zr_b2, cmp_eq, cmp_le, cmp_lt, cmp_gt, cmp_ge, mx_I, mn_I, mx_L, mn_L, az_I, if_true, if_false, i_0, i_1, i_2, i_3, i_4, i_5, i_6, i_7, i_8, i_9, i_10, i_11, i_12, i_16, i_18, i_20, i_24, i_28, i_29, i_30, i_31, i_32, i_33, i_34, i_35, i_37, i_40, i_41, i_42, i_43, i_45, i_46, i_47, i_48, i_57, i_59, i_63, i_64, i_96, i_97, i_98, i_99, i_100, i_101, i_102, i_103, i_104, i_105, i_106, i_107, i_108, i_109, i_110, i_111, i_112, i_113, i_122, i_200, i_255, i_256, i_257, i_258, i_355, i_400, i_999, i_1000, i_1200, i_5680, i_9999, i_10000, i_99999, j_0, j_1, j_2, j_3, j_4, j_5, j_6, j_9, j_10, j_11, j_98, j_99, j_100, j_999, j_1000, j_9999, j_10000, j_99999, j_1000000, SB_n hS, SB_mk hS, SB_fm hS, SB_md hS, SB_lv hS, SB_mo hS, SB_mn hS, SB_pr hS, SB_of hS, SB_nt hS, SB_li hS, hle, hX, hbs, hH.2, c_isOf hV hS, b2_f hp, b2_f hp2]
    obtain ⟨a1, a2⟩ := hI.1 (s_md V i) (by omega) (by omega)
    rw [e, c_ct87 hV f0 f1 h2 hlt hB hH a1 a2]
    obtain ⟨μ', e1, e2, e3⟩ := ih n (i + 1) (ctM V f i (sg i.toNat 0 (g_all V f (s_md V i))) (sg i.toNat 0 (g_bel V f (s_md V i))) μ) (by omega) (by omega) (by omega) (hB.F ctM_F P_ct_ge) (hH.F ctM_F (by unfold P_ct; omega) (by unfold P_ct; omega)) (((ctM_F (V := V)) 3 4 (by unfold P_ct; omega)).1.trans hX) (INVb_step hV h2 hlt hI)
    exact ⟨μ', e1, ctM_F.tr e2, e3⟩
theorem c_ct2 (hV : vB V) (hN : 100 ≤ N) (f0 : 0 ≤ f) (f1 : f < 4) : ∀ (d n : Nat) (i : Int) (μ : Mem), d < n → 0 ≤ i → i + d = 6 → CB b V μ → HD b f μ → μ.1 3 4 = I_ (x_bs V f) → (∀ m, 0 ≤ m → m < i → μ.1 11 m.toNat = I_ 0 ∧ μ.1 12 m.toNat = I_ 0) → ∃ μ', fX8_countBelow_2 N n (I_ i) μ = some ((), μ') ∧ Fr P_ct μ μ' ∧ INVb V f (sN V) μ' := by
  have hn := hV.1
  unfold vN at hn
  intro d
  induction d with
  | zero =>
    intro n i μ h1 h2 h3 hB hH hX hI
    obtain ⟨n, rfl⟩ : ∃ m, n = m + 1 := ⟨n - 1, by omega⟩
    have hi : i = 6 := by omega
    subst hi
    obtain ⟨μ', e1, e2, e3⟩ := c_ct38 (N := N) hV f0 f1 (sN V).toNat N 0 μ (by omega) (by omega) (by omega) hB hH hX ⟨fun m m0 m1 => hI m m0 m1, fun z z0 z1 => by omega⟩
    refine ⟨μ', ?_, e2, e3⟩
    simp (disch := omega) only [fX8_countBelow_2, fX8_countBelow_28, Int.reduceEq, Int.reduceNe, Int.reduceLT, Int.reduceLE, Int.reduceAdd, Int.reduceSub, Int.reduceMul, Int.reduceNeg, Int.zero_add, Int.add_zero, nm_eq, bd_some, bv_some, aI_ok, aL_ok, aS_ok, dv_ok, dw_ok, I_add, I_sub, I_mul, I_neg, I_lt, I_le, I_eq, I_nat, J_add, J_sub, J_mul, J_neg, J_lt, J_le, J_eq, I_l, J_i, I_div, J_div, b2_0, b2_1, b2_nar, nar_0, nar_1, zr_0, zr_1, zr_b2, cmp_eq, cmp_le, cmp_lt, cmp_gt, cmp_ge, mx_I, mn_I, mx_L, mn_L, az_I, if_true, if_false, i_0, i_1, i_2, i_3, i_4, i_5, i_6, i_7, i_8, i_9, i_10, i_11, i_12, i_16, i_18, i_20, i_24, i_28, i_29, i_30, i_31, i_32, i_33, i_34, i_35, i_37, i_40, i_41, i_42, i_43, i_45, i_46, i_47, i_48, i_57, i_59, i_63, i_64, i_96, i_97, i_98, i_99, i_100, i_101, i_102, i_103, i_104, i_105, i_106, i_107, i_108, i_109, i_110, i_111, i_112, i_113, i_122, i_200, i_255, i_256, i_257, i_258, i_355, i_400, i_999, i_1000, i_1200, i_5680, i_9999, i_10000, i_99999, j_0, j_1, j_2, j_3, j_4, j_5, j_6, j_9, j_10, j_11, j_98, j_99, j_100, j_999, j_1000, j_9999, j_10000, j_99999, j_1000000, hH.1, gB_ok hB.1, e1]
  | succ d ih =>
    intro n i μ h1 h2 h3 hB hH hX hI
    obtain ⟨n, rfl⟩ : ∃ m, n = m + 1 := ⟨n - 1, by omega⟩
    have hle : ¬ 6 ≤ i := by omega
    have hF : Fr P_ct μ (stI (stI μ 11 i.toNat (I_ 0)) 12 i.toNat (I_ 0)) := (Fr.rf.stI (by unfold P_ct; omega)).stI (by unfold P_ct; omega)
    obtain ⟨μ', e1, e2, e3⟩ := ih n (i + 1) (stI (stI μ 11 i.toNat (I_ 0)) 12 i.toNat (I_ 0)) (by omega) (by omega) (by omega) (hB.F hF P_ct_ge) (hH.F hF (by unfold P_ct; omega) (by unfold P_ct; omega)) ((hF 3 4 (by unfold P_ct; omega)).1.trans hX) (fun m m0 m1 => by
      simp (disch := omega) only [st_ne, at_I]
      by_cases hm : m = i
      · simp (disch := omega) only [hm, if_true, and_self]
      · obtain ⟨e1, e2⟩ := hI m m0 (by omega)
        simp (disch := omega) only [hm, if_false, e1, e2, and_self])
    refine ⟨μ', ?_, hF.tr e2, e3⟩
    simp (disch := omega) only [fX8_countBelow_2, Int.reduceEq, Int.reduceNe, Int.reduceLT, Int.reduceLE, Int.reduceAdd, Int.reduceSub, Int.reduceMul, Int.reduceNeg, Int.zero_add, Int.add_zero, nm_eq, bd_some, bv_some, aI_ok, aL_ok, aS_ok, dv_ok, dw_ok, I_add, I_sub, I_mul, I_neg, I_lt, I_le, I_eq, I_nat, J_add, J_sub, J_mul, J_neg, J_lt, J_le, J_eq, I_l, J_i, I_div, J_div, b2_0, b2_1, b2_nar, nar_0, nar_1, zr_0, zr_1, zr_b2, cmp_eq, cmp_le, cmp_lt, cmp_gt, cmp_ge, mx_I, mn_I, mx_L, mn_L, az_I, if_true, if_false, i_0, i_1, i_2, i_3, i_4, i_5, i_6, i_7, i_8, i_9, i_10, i_11, i_12, i_16, i_18, i_20, i_24, i_28, i_29, i_30, i_31, i_32, i_33, i_34, i_35, i_37, i_40, i_41, i_42, i_43, i_45, i_46, i_47, i_48, i_57, i_59, i_63, i_64, i_96, i_97, i_98, i_99, i_100, i_101, i_102, i_103, i_104, i_105, i_106, i_107, i_108, i_109, i_110, i_111, i_112, i_113, i_122, i_200, i_255, i_256, i_257, i_258, i_355, i_400, i_999, i_1000, i_1200, i_5680, i_9999, i_10000, i_99999, j_0, j_1, j_2, j_3, j_4, j_5, j_6, j_9, j_10, j_11, j_98, j_99, j_100, j_999, j_1000, j_9999, j_10000, j_99999, j_1000000, hle, e1]
end
