/-! Study.countIn and look. -/
section
variable {N : Nat} {b : Nat} {V : Vw} {f : Int}
theorem g_all_or (V : Vw) (f m z : Int) : g_all V f m z = 0 ∨ g_all V f m z = s_mn V z := by
  unfold g_all; split
  · exact Or.inr rfl
  · exact Or.inl rfl
theorem g_bel_or (V : Vw) (f m z : Int) : g_bel V f m z = 0 ∨ g_bel V f m z = s_mn V z := by
  unfold g_bel; split
  · exact Or.inr rfl
  · exact Or.inl rfl
theorem g_hi_or (V : Vw) (f m z : Int) : g_hi V f m z = 0 ∨ g_hi V f m z = s_mn V z := by
  unfold g_hi; split
  · exact Or.inr rfl
  · exact Or.inl rfl
theorem g_im_or (V : Vw) (f m l z : Int) : g_im V f m l z = 0 ∨ g_im V f m l z = s_mn V z := by
  unfold g_im; split
  · exact Or.inr rfl
  · exact Or.inl rfl
theorem g_mm_or (V : Vw) (f m l t z : Int) : g_mm V f m l t z = 0 ∨ g_mm V f m l t z = s_mn V z := by
  unfold g_mm; split
  · exact Or.inr rfl
  · exact Or.inl rfl
theorem zN_le (hV : vB V) : ((zN V : Nat) : Int) ≤ sN V := by
  have hn := hV.1
  unfold vN at hn
  unfold zN
  omega
theorem x_all_in (hV : vB V) (f m : Int) : 0 ≤ x_all V f m ∧ x_all V f m ≤ 39960 := sg_small hV (zN_le hV) (fun z _ _ => g_all_or V f m z)
theorem x_bel_in (hV : vB V) (f m : Int) : 0 ≤ x_bel V f m ∧ x_bel V f m ≤ 39960 := sg_small hV (zN_le hV) (fun z _ _ => g_bel_or V f m z)
theorem x_hi_in (hV : vB V) (f m : Int) : 0 ≤ x_hi V f m ∧ x_hi V f m ≤ 39960 := sg_small hV (zN_le hV) (fun z _ _ => g_hi_or V f m z)
theorem x_im_in (hV : vB V) (f m l : Int) : 0 ≤ x_im V f m l ∧ x_im V f m l ≤ 39960 := sg_small hV (zN_le hV) (fun z _ _ => g_im_or V f m l z)
theorem x_mm_in (hV : vB V) (f m l t : Int) : 0 ≤ x_mm V f m l t ∧ x_mm V f m l t ≤ 39960 := sg_small hV (zN_le hV) (fun z _ _ => g_mm_or V f m l t z)
theorem c_out (hV : vB V) {μ : Mem} {m : Int} (m0 : 0 ≤ m) (m1 : m < 6) (hA : ∀ m, 0 ≤ m → m < 6 → μ.1 11 m.toNat = I_ (x_all V f m) ∧ μ.1 12 m.toNat = I_ (x_bel V f m)) : fX8_leavesOut N (I_ m) μ = some (I_ (b2 (p_out V f m)), μ) := by
  have e1 := x_all_in hV f m
  have e2 := x_bel_in hV f m
  have r1 := (hA m m0 m1).1
  have r2 := (hA m m0 m1).2
  unfold fX8_leavesOut b2
  simp (disch := omega) only [Int.reduceEq, Int.reduceNe, Int.reduceLT, Int.reduceLE, Int.reduceAdd, Int.reduceSub, Int.reduceMul, Int.reduceNeg, Int.zero_add, Int.add_zero, nm_eq, bd_some, bv_some, aI_ok, aL_ok, aS_ok, dv_ok, dw_ok, I_add, I_sub, I_mul, I_neg, I_lt, I_le, I_eq, I_nat, J_add, J_sub, J_mul, J_neg, J_lt, J_le, J_eq, I_l, J_i, I_div, J_div, b2_0, b2_1, b2_nar, nar_0, nar_1, zr_0, zr_1, zr_b2, cmp_eq, cmp_le, cmp_lt, cmp_gt, cmp_ge, mx_I, mn_I, mx_L, mn_L, az_I, if_true, if_false, i_0, i_1, i_2, i_3, i_4, i_5, i_6, i_7, i_8, i_9, i_10, i_11, i_12, i_16, i_18, i_20, i_24, i_28, i_29, i_30, i_31, i_32, i_33, i_34, i_35, i_37, i_40, i_41, i_42, i_43, i_45, i_46, i_47, i_48, i_57, i_59, i_63, i_64, i_96, i_97, i_98, i_99, i_100, i_101, i_102, i_103, i_104, i_105, i_106, i_107, i_108, i_109, i_110, i_111, i_112, i_113, i_122, i_200, i_255, i_256, i_257, i_258, i_355, i_400, i_999, i_1000, i_1200, i_5680, i_9999, i_10000, i_99999, j_0, j_1, j_2, j_3, j_4, j_5, j_6, j_9, j_10, j_11, j_98, j_99, j_100, j_999, j_1000, j_9999, j_10000, j_99999, j_1000000, r1, r2]
  (repeat' split) <;> first | rfl | (exfalso; omega)
def ciM (V : Vw) (f i h A B : Int) (μ : Mem) : Mem := if p_to V i ∧ s_fm V i = f then stI (stL (stI (stI μ 14 i.toNat (I_ 1)) 16 (s_md V i * 4 + s_lv V i).toNat (I_ (A + s_mn V i))) 17 (s_md V i * 4 + s_lv V i).toNat (J_ (B + 1000 * s_nt V i * s_mn V i))) 15 (s_md V i).toNat (I_ 1) else stI μ 14 i.toNat (I_ 0)
theorem ciM_F {i h A B : Int} {μ : Mem} : Fr P_ci μ (ciM V f i h A B μ) := by
  unfold ciM
  split
  · exact (((Fr.rf.stI (by unfold P_ci; omega)).stI (by unfold P_ci; omega)).stL (by unfold P_ci; omega)).stI (by unfold P_ci; omega)
  · exact Fr.rf.stI (by unfold P_ci; omega)
theorem c_ci110 (hV : vB V) {i : Int} (h0 : 0 ≤ i) (h1 : i < sN V) {μ : Mem} (hB : CB b V μ) {h A B : Int} (hA : μ.1 16 (s_md V i * 4 + s_lv V i).toNat = I_ A) (hA2 : μ.2.1 17 (s_md V i * 4 + s_lv V i).toNat = J_ B) (k : Nat → Int32 → Mem → Option (Unit × Mem)) : fX8_countIn_110 N k b (I_ i) (I_ (s_md V i)) (I_ (b2 (p_to V i ∧ s_fm V i = f))) (I_ i) μ = k b (I_ (i + 1)) (ciM V f i h A B μ) := by
  have hn := hV.1
  unfold vN at hn
  have hv := hV.2.1 i h0 h1
  unfold vS at hv
  have hb := kB_ge hB.1
  have hS := hB.2.1
  by_cases hp : p_to V i ∧ s_fm V i = f
  · have hB1 : CB b V (stI (stI μ 14 i.toNat (I_ 1)) 16 (s_md V i * 4 + s_lv V i).toNat (I_ (A + s_mn V i))) := hB.F (P := P_ci) ((Fr.rf.stI (by unfold P_ci; omega)).stI (by unfold P_ci; omega)) P_ci_ge
    unfold fX8_countIn_110 ciM
    rw [if_pos hp]
    simp (disch := omega) only [Int.reduceEq, Int.reduceNe, Int.reduceLT, Int.reduceLE, Int.reduceAdd, Int.reduceSub, Int.reduceMul, Int.reduceNeg, Int.zero_add, Int.add_zero, nm_eq, bd_some, bv_some, aI_ok, aL_ok, aS_ok, dv_ok, dw_ok, I_add, I_sub, I_mul, I_neg, I_lt, I_le, I_eq, I_nat, J_add, J_sub, J_mul, J_neg, J_lt, J_le, J_eq, I_l, J_i, I_div, J_div, b2_0, b2_1, b2_nar, nar_0, nar_1, zr_0, zr_1, zr_b2, cmp_eq, cmp_le, cmp_lt, cmp_gt, cmp_ge, mx_I, mn_I, mx_L, mn_L, az_I, if_true, if_false, i_0, i_1, i_2, i_3, i_4, i_5, i_6, i_7, i_8, i_9, i_10, i_11, i_12, i_16, i_18, i_20, i_24, i_28, i_29, i_30, i_31, i_32, i_33, i_34, i_35, i_37, i_40, i_41, i_42, i_43, i_45, i_46, i_47, i_48, i_57, i_59, i_63, i_64, i_96, i_97, i_98, i_99, i_100, i_101, i_102, i_103, i_104, i_105, i_106, i_107, i_108, i_109, i_110, i_111, i_112, i_113, i_122, i_200, i_255, i_256, i_257, i_258, i_355, i_400, i_999, i_1000, i_1200, i_5680, i_9999, i_10000, i_99999, j_0, j_1, j_2, j_3, j_4, j_5, j_6, j_9, j_10, j_11, j_98, j_99, j_100, j_999, j_1000, j_9999, j_10000, j_99999, j_1000000, b2_t hp, st_ne, st_I2, at_I, SB_n hS, SB_mk hS, SB_fm hS, SB_md hS, SB_lv hS, SB_mo hS, SB_mn hS, SB_pr hS, SB_of hS, SB_nt hS, SB_li hS, hA, hA2, c_valueAt hV hB1.2.1]
  · unfold fX8_countIn_110 ciM
    rw [if_neg hp]
    simp (disch := omega) only [Int.reduceEq, Int.reduceNe, Int.reduceLT, Int.reduceLE, Int.reduceAdd, Int.reduceSub, Int.reduceMul, Int.reduceNeg, Int.zero_add, Int.add_zero, nm_eq, bd_some, bv_some, aI_ok, aL_ok, aS_ok, dv_ok, dw_ok, I_add, I_sub, I_mul, I_neg, I_lt, I_le, I_eq, I_nat, J_add, J_sub, J_mul, J_neg, J_lt, J_le, J_eq, I_l, J_i, I_div, J_div, b2_0, b2_1, b2_nar, nar_0, nar_1, zr_0, zr_1, zr_b2, cmp_eq, cmp_le, cmp_lt, cmp_gt, cmp_ge, mx_I, mn_I, mx_L, mn_L, az_I, if_true, if_false, i_0, i_1, i_2, i_3, i_4, i_5, i_6, i_7, i_8, i_9, i_10, i_11, i_12, i_16, i_18, i_20, i_24, i_28, i_29, i_30, i_31, i_32, i_33, i_34, i_35, i_37, i_40, i_41, i_42, i_43, i_45, i_46, i_47, i_48, i_57, i_59, i_63, i_64, i_96, i_97, i_98, i_99, i_100, i_101, i_102, i_103, i_104, i_105, i_106, i_107, i_108, i_109, i_110, i_111, i_112, i_113, i_122, i_200, i_255, i_256, i_257, i_258, i_355, i_400, i_999, i_1000, i_1200, i_5680, i_9999, i_10000, i_99999, j_0, j_1, j_2, j_3, j_4, j_5, j_6, j_9, j_10, j_11, j_98, j_99, j_100, j_999, j_1000, j_9999, j_10000, j_99999, j_1000000, b2_f hp, st_ne, st_I2, at_I]
def INVi (V : Vw) (f i : Int) (μ : Mem) : Prop := (∀ m, 0 ≤ m → m < 6 → μ.1 15 m.toNat = I_ (b2 (0 < sg i.toNat 0 (g_hi V f m)))) ∧ (∀ m l, 0 ≤ m → m < 6 → 0 ≤ l → l < 4 → μ.1 16 (m * 4 + l).toNat = I_ (sg i.toNat 0 (g_im V f m l)) ∧ μ.2.1 17 (m * 4 + l).toNat = J_ (sg i.toNat 0 (g_iv V f m l))) ∧ (∀ z, 0 ≤ z → z < i → μ.1 14 z.toNat = I_ (b2 (p_to V z ∧ s_fm V z = f))) ∧ (∀ z, i ≤ z → z < sN V → μ.1 14 z.toNat = I_ (b2 (p_in V z ∧ s_fm V z = f)))
def STb (V : Vw) (f : Int) (μ : Mem) : Prop := (∀ m, 0 ≤ m → m < 6 → μ.1 11 m.toNat = I_ (x_all V f m) ∧ μ.1 12 m.toNat = I_ (x_bel V f m)) ∧ ∀ z, 0 ≤ z → z < sN V → μ.1 13 z.toNat = I_ (b2 (p_bl V z ∧ s_fm V z = f))
theorem STb.ci {μ μ' : Mem} (h : STb V f μ) (g : Fr P_ci μ μ') : STb V f μ' := by
  refine ⟨fun m m0 m1 => ?_, fun z z0 z1 => ?_⟩
  · rw [(g 11 _ (by unfold P_ci; omega)).1, (g 12 _ (by unfold P_ci; omega)).1]; exact h.1 m m0 m1
  · rw [(g 13 _ (by unfold P_ci; omega)).1]; exact h.2 z z0 z1
theorem INVi_step (hV : vB V) {i : Int} (h0 : 0 ≤ i) (h1 : i < sN V) {μ : Mem} (h : INVi V f i μ) : INVi V f (i + 1) (ciM V f i 0 (sg i.toNat 0 (g_im V f (s_md V i) (s_lv V i))) (sg i.toNat 0 (g_iv V f (s_md V i) (s_lv V i))) μ) := by
  have hn := hV.1
  unfold vN at hn
  have hv := hV.2.1 i h0 h1
  unfold vS at hv
  obtain ⟨h15, h16, h14, h14b⟩ := h
  by_cases hp : p_to V i ∧ s_fm V i = f
  · unfold ciM
    rw [if_pos hp]
    refine ⟨fun m m0 m1 => ?_, fun m l m0 m1 l0 l1 => ?_, fun z z0 z1 => ?_, fun z z0 z1 => ?_⟩
    · rw [sg_step h0]
      simp (disch := omega) only [st_ne, at_I, st_L1, h15]
      have hs := sg_small hV (d := i.toNat) (by omega) (fun z _ _ => g_hi_or V f m z)
      by_cases hm : m = s_md V i
      · have e : g_hi V f m i = s_mn V i := by unfold g_hi; rw [if_pos ⟨hp.1, hp.2, hm.symm⟩]
        rw [if_pos hm, e, b2_t (by omega)]
      · have e : g_hi V f m i = 0 := by unfold g_hi; rw [if_neg (fun q => hm q.2.2.symm)]
        rw [if_neg hm, e, Int.add_zero]
    · rw [sg_step h0, sg_step h0]
      obtain ⟨e1, e2⟩ := h16 m l m0 m1 l0 l1
      simp (disch := omega) only [st_ne, at_I, st_L1, st_I2, at_L, e1, e2]
      by_cases hm : m = s_md V i ∧ l = s_lv V i
      · have e3 : g_im V f m l i = s_mn V i := by unfold g_im; rw [if_pos ⟨hp.1, hp.2, hm.1.symm, hm.2.symm⟩]
        have e4 : g_iv V f m l i = 1000 * s_nt V i * s_mn V i := by unfold g_iv; rw [if_pos ⟨hp.1, hp.2, hm.1.symm, hm.2.symm⟩]
        have e5 : m * 4 + l = s_md V i * 4 + s_lv V i := by rw [hm.1, hm.2]
        rw [if_pos e5, if_pos e5, e3, e4, hm.1, hm.2]
        exact ⟨rfl, rfl⟩
      · have e3 : g_im V f m l i = 0 := by unfold g_im; rw [if_neg (fun q => hm ⟨q.2.2.1.symm, q.2.2.2.symm⟩)]
        have e4 : g_iv V f m l i = 0 := by unfold g_iv; rw [if_neg (fun q => hm ⟨q.2.2.1.symm, q.2.2.2.symm⟩)]
        have e5 : ¬ m * 4 + l = s_md V i * 4 + s_lv V i := fun q => hm (by omega)
        rw [if_neg e5, if_neg e5, e3, e4, Int.add_zero, Int.add_zero]
        exact ⟨rfl, rfl⟩
    · simp (disch := omega) only [st_ne, at_I, st_L1]
      by_cases hz : z = i
      · rw [if_pos hz, hz, b2_t hp]
      · rw [if_neg hz]; exact h14 z z0 (by omega)
    · have hz : ¬ z = i := by omega
      simp (disch := omega) only [st_ne, at_I, st_L1, hz, if_false]
      exact h14b z (by omega) z1
  · unfold ciM
    rw [if_neg hp]
    refine ⟨fun m m0 m1 => ?_, fun m l m0 m1 l0 l1 => ?_, fun z z0 z1 => ?_, fun z z0 z1 => ?_⟩
    · rw [sg_step h0]
      have e : g_hi V f m i = 0 := by unfold g_hi; rw [if_neg (fun q => hp ⟨q.1, q.2.1⟩)]
      simp (disch := omega) only [st_ne, h15, e, Int.add_zero]
    · rw [sg_step h0, sg_step h0]
      obtain ⟨e1, e2⟩ := h16 m l m0 m1 l0 l1
      have e3 : g_im V f m l i = 0 := by unfold g_im; rw [if_neg (fun q => hp ⟨q.1, q.2.1⟩)]
      have e4 : g_iv V f m l i = 0 := by unfold g_iv; rw [if_neg (fun q => hp ⟨q.1, q.2.1⟩)]
      simp (disch := omega) only [st_ne, st_I2, e1, e2, e3, e4, Int.add_zero, and_self]
    · simp (disch := omega) only [at_I]
      by_cases hz : z = i
      · rw [if_pos hz, hz, b2_f hp]
      · rw [if_neg hz]; exact h14 z z0 (by omega)
    · have hz : ¬ z = i := by omega
      simp (disch := omega) only [at_I, hz, if_false]
      exact h14b z (by omega) z1
theorem c_ci59 (hV : vB V) : ∀ (d n : Nat) (i : Int) (μ : Mem), d < n → 0 ≤ i → i + d = sN V → CB b V μ → STb V f μ → INVi V f i μ → ∃ μ', fX8_countIn_59 N n b (I_ i) μ = some ((), μ') ∧ Fr P_ci μ μ' ∧ INVi V f (sN V) μ' := by
  have hn := hV.1
  unfold vN at hn
  intro d
  induction d with
  | zero =>
    intro n i μ h1 h2 h3 hB hT hI
    obtain ⟨n, rfl⟩ : ∃ m, n = m + 1 := ⟨n - 1, by omega⟩
    have hle : sN V ≤ i := by omega
    have hi : i = sN V := by omega
    subst hi
    refine ⟨μ, ?_, Fr.rf, hI⟩
    simp (disch := omega) only [fX8_countIn_59, Int.reduceEq, Int.reduceNe, Int.reduceLT, Int.reduceLE, Int.reduceAdd, Int.reduceSub, Int.reduceMul, Int.reduceNeg, Int.zero_add, Int.add_zero, nm_eq, bd_some, bv_some, aI_ok, aL_ok, aS_ok, dv_ok, dw_ok, I_add, I_sub, I_mul, I_neg, I_lt, I_le, I_eq, I_nat, J_add, J_sub, J_mul, J_neg, J_lt, J_le, J_eq, I_l, J_i, I_div, J_div, b2_0, b2_1, b2_nar, nar_0, nar_1, zr_0, zr_1, zr_b2, cmp_eq, cmp_le, cmp_lt, cmp_gt, cmp_ge, mx_I, mn_I, mx_L, mn_L, az_I, if_true, if_false, i_0, i_1, i_2, i_3, i_4, i_5, i_6, i_7, i_8, i_9, i_10, i_11, i_12, i_16, i_18, i_20, i_24, i_28, i_29, i_30, i_31, i_32, i_33, i_34, i_35, i_37, i_40, i_41, i_42, i_43, i_45, i_46, i_47, i_48, i_57, i_59, i_63, i_64, i_96, i_97, i_98, i_99, i_100, i_101, i_102, i_103, i_104, i_105, i_106, i_107, i_108, i_109, i_110, i_111, i_112, i_113, i_122, i_200, i_255, i_256, i_257, i_258, i_355, i_400, i_999, i_1000, i_1200, i_5680, i_9999, i_10000, i_99999, j_0, j_1, j_2, j_3, j_4, j_5, j_6, j_9, j_10, j_11, j_98, j_99, j_100, j_999, j_1000, j_9999, j_10000, j_99999, j_1000000, SB_n hB.2.1, hle]
  | succ d ih =>
    intro n i μ h1 h2 h3 hB hT hI
    obtain ⟨n, rfl⟩ : ∃ m, n = m + 1 := ⟨n - 1, by omega⟩
    have hle : ¬ sN V ≤ i := by omega
    have hlt : i < sN V := by omega
    have hv := hV.2.1 i h2 hlt
    unfold vS at hv
    have hS := hB.2.1
    have r14 := hI.2.2.2 i (by omega) hlt
    have r13 := hT.2 i h2 hlt
    have co := c_out (N := N) hV (f := f) (m := s_md V i) (by omega) (by omega) hT.1
    have e : fX8_countIn_59 N (n + 1) b (I_ i) μ = fX8_countIn_110 N (fun b0 v2 μ => fX8_countIn_59 N n b0 v2 μ) b (I_ i) (I_ (s_md V i)) (I_ (b2 (p_to V i ∧ s_fm V i = f))) (I_ i) μ := by
      by_cases hp : p_in V i ∧ s_fm V i = f
      · by_cases hq : p_bl V i ∧ s_fm V i = f
        · by_cases ho : p_out V f (s_md V i)
          · have ht : ¬ (p_to V i ∧ s_fm V i = f) := fun q => q.1.2 ⟨hq.1, by rw [q.2]; exact ho⟩
            simp (disch := omega) only [fX8_countIn_59, Int.reduceEq, Int.reduceNe, Int.reduceLT, Int.reduceLE, Int.reduceAdd, Int.reduceSub, Int.reduceMul, Int.reduceNeg, Int.zero_add, Int.add_zero, nm_eq, bd_some, bv_some, aI_ok, aL_ok, aS_ok, dv_ok, dw_ok, I_add, I_sub, I_mul, I_neg, I_lt, I_le, I_eq, I_nat, J_add, J_sub, J_mul, J_neg, J_lt, J_le, J_eq, I_l, J_i, I_div, J_div, b2_0, b2_1, b2_nar, nar_0, nar_1, zr_0, zr_1, zr_b2, cmp_eq, cmp_le, cmp_lt, cmp_gt, cmp_ge, mx_I, mn_I, mx_L, mn_L, az_I, if_true, if_false, i_0, i_1, i_2, i_3, i_4, i_5, i_6, i_7, i_8, i_9, i_10, i_11, i_12, i_16, i_18, i_20, i_24, i_28, i_29, i_30, i_31, i_32, i_33, i_34, i_35, i_37, i_40, i_41, i_42, i_43, i_45, i_46, i_47, i_48, i_57, i_59, i_63, i_64, i_96, i_97, i_98, i_99, i_100, i_101, i_102, i_103, i_104, i_105, i_106, i_107, i_108, i_109, i_110, i_111, i_112, i_113, i_122, i_200, i_255, i_256, i_257, i_258, i_355, i_400, i_999, i_1000, i_1200, i_5680, i_9999, i_10000, i_99999, j_0, j_1, j_2, j_3, j_4, j_5, j_6, j_9, j_10, j_11, j_98, j_99, j_100, j_999, j_1000, j_9999, j_10000, j_99999, j_1000000, SB_n hS, SB_mk hS, SB_fm hS, SB_md hS, SB_lv hS, SB_mo hS, SB_mn hS, SB_pr hS, SB_of hS, SB_nt hS, SB_li hS, hle, r14, r13, b2_t hp, b2_t hq, co, b2_t ho, b2_f ht]
          · have ht : p_to V i ∧ s_fm V i = f := ⟨⟨hp.1, fun q => ho (by have := q.2; rw [hp.2] at this; exact this)⟩, hp.2⟩
            simp (disch := omega) only [fX8_countIn_59, Int.reduceEq, Int.reduceNe, Int.reduceLT, Int.reduceLE, Int.reduceAdd, Int.reduceSub, Int.reduceMul, Int.reduceNeg, Int.zero_add, Int.add_zero, nm_eq, bd_some, bv_some, aI_ok, aL_ok, aS_ok, dv_ok, dw_ok, I_add, I_sub, I_mul, I_neg, I_lt, I_le, I_eq, I_nat, J_add, J_sub, J_mul, J_neg, J_lt, J_le, J_eq, I_l, J_i, I_div, J_div, b2_0, b2_1, b2_nar, nar_0, nar_1, zr_0, zr_1, zr_b2, cmp_eq, cmp_le, cmp_lt, cmp_gt, cmp_ge, mx_I, mn_I, mx_L, mn_L, az_I, if_true, if_false, i_0, i_1, i_2, i_3, i_4, i_5, i_6, i_7, i_8, i_9, i_10, i_11, i_12, i_16, i_18, i_20, i_24, i_28, i_29, i_30, i_31, i_32, i_33, i_34, i_35, i_37, i_40, i_41, i_42, i_43, i_45, i_46, i_47, i_48, i_57, i_59, i_63, i_64, i_96, i_97, i_98, i_99, i_100, i_101, i_102, i_103, i_104, i_105, i_106, i_107, i_108, i_109, i_110, i_111, i_112, i_113, i_122, i_200, i_255, i_256, i_257, i_258, i_355, i_400, i_999, i_1000, i_1200, i_5680, i_9999, i_10000, i_99999, j_0, j_1, j_2, j_3, j_4, j_5, j_6, j_9, j_10, j_11, j_98, j_99, j_100, j_999, j_1000, j_9999, j_10000, j_99999, j_1000000, SB_n hS, SB_mk hS, SB_fm hS, SB_md hS, SB_lv hS, SB_mo hS, SB_mn hS, SB_pr hS, SB_of hS, SB_nt hS, SB_li hS, hle, r14, r13, b2_t hp, b2_t hq, co, b2_f ho, b2_t ht]
        · have ht : p_to V i ∧ s_fm V i = f := ⟨⟨hp.1, fun q => hq ⟨q.1, hp.2⟩⟩, hp.2⟩
          simp (disch := omega) only [fX8_countIn_59, Int.reduceEq, Int.reduceNe, Int.reduceLT, Int.reduceLE, Int.reduceAdd, Int.reduceSub, Int.reduceMul, Int.reduceNeg, Int.zero_add, Int.add_zero, nm_eq, bd_some, bv_some, aI_ok, aL_ok, aS_ok, dv_ok, dw_ok, I_add, I_sub, I_mul, I_neg, I_lt, I_le, I_eq, I_nat, J_add, J_sub, J_mul, J_neg, J_lt, J_le, J_eq, I_l, J_i, I_div, J_div, b2_0, b2_1, b2_nar, nar_0, nar_1, zr_0, zr_1, zr_b2, cmp_eq, cmp_le, cmp_lt, cmp_gt, cmp_ge, mx_I, mn_I, mx_L, mn_L, az_I, if_true, if_false, i_0, i_1, i_2, i_3, i_4, i_5, i_6, i_7, i_8, i_9, i_10, i_11, i_12, i_16, i_18, i_20, i_24, i_28, i_29, i_30, i_31, i_32, i_33, i_34, i_35, i_37, i_40, i_41, i_42, i_43, i_45, i_46, i_47, i_48, i_57, i_59, i_63, i_64, i_96, i_97, i_98, i_99, i_100, i_101, i_102, i_103, i_104, i_105, i_106, i_107, i_108, i_109, i_110, i_111, i_112, i_113, i_122, i_200, i_255, i_256, i_257, i_258, i_355, i_400, i_999, i_1000, i_1200, i_5680, i_9999, i_10000, i_99999, j_0, j_1, j_2, j_3, j_4, j_5, j_6, j_9, j_10, j_11, j_98, j_99, j_100, j_999, j_1000, j_9999, j_10000, j_99999, j_1000000, SB_n hS, SB_mk hS, SB_fm hS, SB_md hS, SB_lv hS, SB_mo hS, SB_mn hS, SB_pr hS, SB_of hS, SB_nt hS, SB_li hS, hle, r14, r13, b2_t hp, b2_f hq, b2_t ht]
      · have ht : ¬ (p_to V i ∧ s_fm V i = f) := fun q => hp ⟨q.1.1, q.2⟩
        simp (disch := omega) only [fX8_countIn_59, Int.reduceEq, Int.reduceNe, Int.reduceLT, Int.reduceLE, Int.reduceAdd, Int.reduceSub, Int.reduceMul, Int.reduceNeg, Int.zero_add, Int.add_zero, nm_eq, bd_some, bv_some, aI_ok, aL_ok, aS_ok, dv_ok, dw_ok, I_add, I_sub, I_mul, I_neg, I_lt, I_le, I_eq, I_nat, J_add, J_sub, J_mul, J_neg, J_lt, J_le, J_eq, I_l, J_i, I_div, J_div, b2_0, b2_1, b2_nar, nar_0, nar_1, zr_0, zr_1, zr_b2, cmp_eq, cmp_le, cmp_lt, cmp_gt, cmp_ge, mx_I, mn_I, mx_L, mn_L, az_I, if_true, if_false, i_0, i_1, i_2, i_3, i_4, i_5, i_6, i_7, i_8, i_9, i_10, i_11, i_12, i_16, i_18, i_20, i_24, i_28, i_29, i_30, i_31, i_32, i_33, i_34, i_35, i_37, i_40, i_41, i_42, i_43, i_45, i_46, i_47, i_48, i_57, i_59, i_63, i_64, i_96, i_97, i_98, i_99, i_100, i_101, i_102, i_103, i_104, i_105, i_106, i_107, i_108, i_109, i_110, i_111, i_112, i_113, i_122, i_200, i_255, i_256, i_257, i_258, i_355, i_400, i_999, i_1000, i_1200, i_5680, i_9999, i_10000, i_99999, j_0, j_1, j_2, j_3, j_4, j_5, j_6, j_9, j_10, j_11, j_98, j_99, j_100, j_999, j_1000, j_9999, j_10000, j_99999, j_1000000, SB_n hS, SB_mk hS, SB_fm hS, SB_md hS, SB_lv hS, SB_mo hS, SB_mn hS, SB_pr hS, SB_of hS, SB_nt hS, SB_li hS, hle, r14, b2_f hp, b2_f ht]
    obtain ⟨a1, a2⟩ := hI.2.1 (s_md V i) (s_lv V i) (by omega) (by omega) (by omega) (by omega)
    rw [e, c_ci110 (h := 0) hV h2 hlt hB a1 a2]
    obtain ⟨μ', e1, e2, e3⟩ := ih n (i + 1) _ (by omega) (by omega) (by omega) (hB.F ciM_F P_ci_ge) (hT.ci ciM_F) (INVi_step hV h2 hlt hI)
    exact ⟨μ', e1, ciM_F.tr e2, e3⟩
theorem c_ci23 (hV : vB V) (hN : 100 ≤ N) : ∀ (d n : Nat) (i : Int) (μ : Mem), d < n → 0 ≤ i → i + d = 24 → CB b V μ → HD b f μ → STb V f μ → (∀ z, 0 ≤ z → z < sN V → μ.1 14 z.toNat = I_ (b2 (p_in V z ∧ s_fm V z = f))) → (∀ m : Int, 0 ≤ m → m < 6 → μ.1 15 m.toNat = I_ 0) → (∀ p : Int, 0 ≤ p → p < i → μ.1 16 p.toNat = I_ 0 ∧ μ.2.1 17 p.toNat = J_ 0) → ∃ μ', fX8_countIn_23 N n (I_ i) μ = some ((), μ') ∧ Fr P_ci μ μ' ∧ INVi V f (sN V) μ' := by
  have hn := hV.1
  unfold vN at hn
  intro d
  induction d with
  | zero =>
    intro n i μ h1 h2 h3 hB hH hT h14 h15 h16
    obtain ⟨n, rfl⟩ : ∃ m, n = m + 1 := ⟨n - 1, by omega⟩
    have hi : i = 24 := by omega
    subst hi
    obtain ⟨μ', e1, e2, e3⟩ := c_ci59 (N := N) hV (sN V).toNat N 0 μ (by omega) (by omega) (by omega) hB hT ⟨fun m m0 m1 => by
      rw [h15 m m0 m1, b2_f (by show ¬ (0 : Int) < 0; omega)], fun m l m0 m1 l0 l1 => h16 (m * 4 + l) (by omega) (by omega), fun z z0 z1 => by omega, fun z z0 z1 => h14 z z0 z1⟩
    refine ⟨μ', ?_, e2, e3⟩
    simp (disch := omega) only [fX8_countIn_23, fX8_countIn_49, Int.reduceEq, Int.reduceNe, Int.reduceLT, Int.reduceLE, Int.reduceAdd, Int.reduceSub, Int.reduceMul, Int.reduceNeg, Int.zero_add, Int.add_zero, nm_eq, bd_some, bv_some, aI_ok, aL_ok, aS_ok, dv_ok, dw_ok, I_add, I_sub, I_mul, I_neg, I_lt, I_le, I_eq, I_nat, J_add, J_sub, J_mul, J_neg, J_lt, J_le, J_eq, I_l, J_i, I_div, J_div, b2_0, b2_1, b2_nar, nar_0, nar_1, zr_0, zr_1, zr_b2, cmp_eq, cmp_le, cmp_lt, cmp_gt, cmp_ge, mx_I, mn_I, mx_L, mn_L, az_I, if_true, if_false, i_0, i_1, i_2, i_3, i_4, i_5, i_6, i_7, i_8, i_9, i_10, i_11, i_12, i_16, i_18, i_20, i_24, i_28, i_29, i_30, i_31, i_32, i_33, i_34, i_35, i_37, i_40, i_41, i_42, i_43, i_45, i_46, i_47, i_48, i_57, i_59, i_63, i_64, i_96, i_97, i_98, i_99, i_100, i_101, i_102, i_103, i_104, i_105, i_106, i_107, i_108, i_109, i_110, i_111, i_112, i_113, i_122, i_200, i_255, i_256, i_257, i_258, i_355, i_400, i_999, i_1000, i_1200, i_5680, i_9999, i_10000, i_99999, j_0, j_1, j_2, j_3, j_4, j_5, j_6, j_9, j_10, j_11, j_98, j_99, j_100, j_999, j_1000, j_9999, j_10000, j_99999, j_1000000, hH.1, gB_ok hB.1, e1]
  | succ d ih =>
    intro n i μ h1 h2 h3 hB hH hT h14 h15 h16
    obtain ⟨n, rfl⟩ : ∃ m, n = m + 1 := ⟨n - 1, by omega⟩
    have hle : ¬ 24 ≤ i := by omega
    have hF : Fr P_ci μ (stL (stI μ 16 i.toNat (I_ 0)) 17 i.toNat (J_ 0)) := (Fr.rf.stI (by unfold P_ci; omega)).stL (by unfold P_ci; omega)
    obtain ⟨μ', e1, e2, e3⟩ := ih n (i + 1) _ (by omega) (by omega) (by omega) (hB.F hF P_ci_ge) (hH.F hF (by unfold P_ci; omega) (by unfold P_ci; omega)) (hT.ci hF) (fun z z0 z1 => by
      simp (disch := omega) only [st_L1, st_ne]; exact h14 z z0 z1) (fun z z0 z1 => by
      simp (disch := omega) only [st_L1, st_ne]; exact h15 z z0 z1) (fun p p0 p1 => by
      simp (disch := omega) only [st_L1, at_I, at_L, st_I2]
      by_cases hm : p = i
      · simp (disch := omega) only [hm, if_true, and_self]
      · obtain ⟨e1, e2⟩ := h16 p p0 (by omega)
        simp (disch := omega) only [hm, if_false, e1, e2, and_self])
    refine ⟨μ', ?_, hF.tr e2, e3⟩
    simp (disch := omega) only [fX8_countIn_23, Int.reduceEq, Int.reduceNe, Int.reduceLT, Int.reduceLE, Int.reduceAdd, Int.reduceSub, Int.reduceMul, Int.reduceNeg, Int.zero_add, Int.add_zero, nm_eq, bd_some, bv_some, aI_ok, aL_ok, aS_ok, dv_ok, dw_ok, I_add, I_sub, I_mul, I_neg, I_lt, I_le, I_eq, I_nat, J_add, J_sub, J_mul, J_neg, J_lt, J_le, J_eq, I_l, J_i, I_div, J_div, b2_0, b2_1, b2_nar, nar_0, nar_1, zr_0, zr_1, zr_b2, cmp_eq, cmp_le, cmp_lt, cmp_gt, cmp_ge, mx_I, mn_I, mx_L, mn_L, az_I, if_true, if_false, i_0, i_1, i_2, i_3, i_4, i_5, i_6, i_7, i_8, i_9, i_10, i_11, i_12, i_16, i_18, i_20, i_24, i_28, i_29, i_30, i_31, i_32, i_33, i_34, i_35, i_37, i_40, i_41, i_42, i_43, i_45, i_46, i_47, i_48, i_57, i_59, i_63, i_64, i_96, i_97, i_98, i_99, i_100, i_101, i_102, i_103, i_104, i_105, i_106, i_107, i_108, i_109, i_110, i_111, i_112, i_113, i_122, i_200, i_255, i_256, i_257, i_258, i_355, i_400, i_999, i_1000, i_1200, i_5680, i_9999, i_10000, i_99999, j_0, j_1, j_2, j_3, j_4, j_5, j_6, j_9, j_10, j_11, j_98, j_99, j_100, j_999, j_1000, j_9999, j_10000, j_99999, j_1000000, hle, e1]
theorem c_ci2 (hV : vB V) (hN : 100 ≤ N) : ∀ (d n : Nat) (i : Int) (μ : Mem), d < n → 0 ≤ i → i + d = 6 → CB b V μ → HD b f μ → STb V f μ → (∀ z, 0 ≤ z → z < sN V → μ.1 14 z.toNat = I_ (b2 (p_in V z ∧ s_fm V z = f))) → (∀ m, 0 ≤ m → m < i → μ.1 15 m.toNat = I_ 0) → ∃ μ', fX8_countIn_2 N n (I_ i) μ = some ((), μ') ∧ Fr P_ci μ μ' ∧ INVi V f (sN V) μ' := by
  intro d
  induction d with
  | zero =>
    intro n i μ h1 h2 h3 hB hH hT h14 h15
    obtain ⟨n, rfl⟩ : ∃ m, n = m + 1 := ⟨n - 1, by omega⟩
    have hi : i = 6 := by omega
    subst hi
    obtain ⟨μ', e1, e2, e3⟩ := c_ci23 (N := N) hV hN 24 N 0 μ (by omega) (by omega) (by omega) hB hH hT h14 h15 (fun p p0 p1 => by omega)
    refine ⟨μ', ?_, e2, e3⟩
    simp (disch := omega) only [fX8_countIn_2, Int.reduceEq, Int.reduceNe, Int.reduceLT, Int.reduceLE, Int.reduceAdd, Int.reduceSub, Int.reduceMul, Int.reduceNeg, Int.zero_add, Int.add_zero, nm_eq, bd_some, bv_some, aI_ok, aL_ok, aS_ok, dv_ok, dw_ok, I_add, I_sub, I_mul, I_neg, I_lt, I_le, I_eq, I_nat, J_add, J_sub, J_mul, J_neg, J_lt, J_le, J_eq, I_l, J_i, I_div, J_div, b2_0, b2_1, b2_nar, nar_0, nar_1, zr_0, zr_1, zr_b2, cmp_eq, cmp_le, cmp_lt, cmp_gt, cmp_ge, mx_I, mn_I, mx_L, mn_L, az_I, if_true, if_false, i_0, i_1, i_2, i_3, i_4, i_5, i_6, i_7, i_8, i_9, i_10, i_11, i_12, i_16, i_18, i_20, i_24, i_28, i_29, i_30, i_31, i_32, i_33, i_34, i_35, i_37, i_40, i_41, i_42, i_43, i_45, i_46, i_47, i_48, i_57, i_59, i_63, i_64, i_96, i_97, i_98, i_99, i_100, i_101, i_102, i_103, i_104, i_105, i_106, i_107, i_108, i_109, i_110, i_111, i_112, i_113, i_122, i_200, i_255, i_256, i_257, i_258, i_355, i_400, i_999, i_1000, i_1200, i_5680, i_9999, i_10000, i_99999, j_0, j_1, j_2, j_3, j_4, j_5, j_6, j_9, j_10, j_11, j_98, j_99, j_100, j_999, j_1000, j_9999, j_10000, j_99999, j_1000000, e1]
  | succ d ih =>
    intro n i μ h1 h2 h3 hB hH hT h14 h15
    obtain ⟨n, rfl⟩ : ∃ m, n = m + 1 := ⟨n - 1, by omega⟩
    have hle : ¬ 6 ≤ i := by omega
    have hF : Fr P_ci μ (stI μ 15 i.toNat (I_ 0)) := Fr.rf.stI (by unfold P_ci; omega)
    obtain ⟨μ', e1, e2, e3⟩ := ih n (i + 1) _ (by omega) (by omega) (by omega) (hB.F hF P_ci_ge) (hH.F hF (by unfold P_ci; omega) (by unfold P_ci; omega)) (hT.ci hF) (fun z z0 z1 => by
      simp (disch := omega) only [st_ne]; exact h14 z z0 z1) (fun p p0 p1 => by
      simp (disch := omega) only [at_I]
      by_cases hm : p = i
      · simp (disch := omega) only [hm, if_true]
      · simp (disch := omega) only [hm, if_false]; exact h15 p p0 (by omega))
    refine ⟨μ', ?_, hF.tr e2, e3⟩
    simp (disch := omega) only [fX8_countIn_2, Int.reduceEq, Int.reduceNe, Int.reduceLT, Int.reduceLE, Int.reduceAdd, Int.reduceSub, Int.reduceMul, Int.reduceNeg, Int.zero_add, Int.add_zero, nm_eq, bd_some, bv_some, aI_ok, aL_ok, aS_ok, dv_ok, dw_ok, I_add, I_sub, I_mul, I_neg, I_lt, I_le, I_eq, I_nat, J_add, J_sub, J_mul, J_neg, J_lt, J_le, J_eq, I_l, J_i, I_div, J_div, b2_0, b2_1, b2_nar, nar_0, nar_1, zr_0, zr_1, zr_b2, cmp_eq, cmp_le, cmp_lt, cmp_gt, cmp_ge, mx_I, mn_I, mx_L, mn_L, az_I, if_true, if_false, i_0, i_1, i_2, i_3, i_4, i_5, i_6, i_7, i_8, i_9, i_10, i_11, i_12, i_16, i_18, i_20, i_24, i_28, i_29, i_30, i_31, i_32, i_33, i_34, i_35, i_37, i_40, i_41, i_42, i_43, i_45, i_46, i_47, i_48, i_57, i_59, i_63, i_64, i_96, i_97, i_98, i_99, i_100, i_101, i_102, i_103, i_104, i_105, i_106, i_107, i_108, i_109, i_110, i_111, i_112, i_113, i_122, i_200, i_255, i_256, i_257, i_258, i_355, i_400, i_999, i_1000, i_1200, i_5680, i_9999, i_10000, i_99999, j_0, j_1, j_2, j_3, j_4, j_5, j_6, j_9, j_10, j_11, j_98, j_99, j_100, j_999, j_1000, j_9999, j_10000, j_99999, j_1000000, hle, e1]
/-- the study of a firm stands -/
def ST (b : Nat) (V : Vw) (f : Int) (μ : Mem) : Prop := HD b f μ ∧ μ.1 3 4 = I_ (x_bs V f) ∧ STb V f μ ∧ (∀ m, 0 ≤ m → m < 6 → μ.1 15 m.toNat = I_ (b2 (0 < x_hi V f m))) ∧ (∀ m l, 0 ≤ m → m < 6 → 0 ≤ l → l < 4 → μ.1 16 (m * 4 + l).toNat = I_ (x_im V f m l) ∧ μ.2.1 17 (m * 4 + l).toNat = J_ (x_iv V f m l)) ∧ ∀ z, 0 ≤ z → z < sN V → μ.1 14 z.toNat = I_ (b2 (p_to V z ∧ s_fm V z = f))
theorem c_look (hV : vB V) (hN : 100 ≤ N) (f0 : 0 ≤ f) (f1 : f < 4) {μ : Mem} (hB : CB b V μ) : ∃ μ', fX8_look N b (I_ f) μ = some ((), μ') ∧ Fr P_st μ μ' ∧ ST b V f μ' := by
  have hn := hV.1
  unfold vN at hn
  let μ1 := stI (stR μ 3 9 b) 3 10 (I_ f)
  have hF1 : Fr P_st μ μ1 := (Fr.rf.stR (Or.inl rfl)).stI (Or.inl rfl)
  have hB1 : CB b V μ1 := hB.st hF1
  have hH1 : HD b f μ1 := ⟨rfl, rfl⟩
  obtain ⟨μ2, a1, a2, a3⟩ := c_base (N := N) hV hN f0 f1 hB1 hH1
  have hB2 : CB b V μ2 := hB1.F a2 P_cb_ge
  have hH2 : HD b f μ2 := hH1.F a2 (by unfold P_cb; omega) (by unfold P_cb; omega)
  obtain ⟨μ3, b1, b2', b3⟩ := c_ct2 (N := N) hV hN f0 f1 6 N 0 μ2 (by omega) (by omega) (by omega) hB2 hH2 a3 (fun m m0 m1 => by omega)
  have hB3 : CB b V μ3 := hB2.F b2' P_ct_ge
  have hH3 : HD b f μ3 := hH2.F b2' (by unfold P_ct; omega) (by unfold P_ct; omega)
  have hT3 : STb V f μ3 := ⟨b3.1, fun z z0 z1 => (b3.2 z z0 z1).2⟩
  obtain ⟨μ4, c1, c2, c3⟩ := c_ci2 (N := N) hV hN 6 N 0 μ3 (by omega) (by omega) (by omega) hB3 hH3 hT3 (fun z z0 z1 => (b3.2 z z0 z1).1) (fun m m0 m1 => by omega)
  refine ⟨μ4, ?_, ?_, ?_, ?_, ?_, ?_, ?_, ?_⟩
  · unfold fX8_look
    rw [if_pos hB.1]
    have a1' : fX8_chooseBase N (stI (stR μ 3 9 b) 3 10 (I_ f)) = some ((), μ2) := a1
    unfold fX8_countBelow fX8_countIn
    simp only [nm_eq, a1', bv_some, i_0, b1, c1]
  · refine ((hF1.tr (a2.mono ?_)).tr (b2'.mono ?_)).tr (c2.mono ?_)
    · intro k j h; unfold P_cb at h; unfold P_st; omega
    · intro k j h; unfold P_ct at h; unfold P_st; omega
    · intro k j h; unfold P_ci at h; unfold P_st; omega
  · exact hH3.F c2 (by unfold P_ci; omega) (by unfold P_ci; omega)
  · rw [(c2 3 4 (by unfold P_ci; omega)).1, (b2' 3 4 (by unfold P_ct; omega)).1, a3]
  · exact hT3.ci c2
  · exact c3.1
  · exact c3.2.1
  · exact c3.2.2.1
end
