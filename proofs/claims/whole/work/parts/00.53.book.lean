/-! Frames: what a call leaves as it was: all places but those of P. -/
def Fr (P : Nat → Nat → Prop) (μ μ' : Mem) : Prop := ∀ k j, ¬ P k j → μ'.1 k j = μ.1 k j ∧ μ'.2.1 k j = μ.2.1 k j ∧ μ'.2.2 k j = μ.2.2 k j
theorem Fr.rf {P : Nat → Nat → Prop} {μ : Mem} : Fr P μ μ := fun _ _ _ => ⟨rfl, rfl, rfl⟩
theorem Fr.tr {P : Nat → Nat → Prop} {μ μ1 μ2 : Mem} (h : Fr P μ μ1) (g : Fr P μ1 μ2) : Fr P μ μ2 := fun k j hk => ⟨(g k j hk).1.trans (h k j hk).1, (g k j hk).2.1.trans (h k j hk).2.1, (g k j hk).2.2.trans (h k j hk).2.2⟩
theorem Fr.mono {P T : Nat → Nat → Prop} {μ μ1 : Mem} (h : Fr P μ μ1) (hs : ∀ k j, P k j → T k j) : Fr T μ μ1 := fun k j hk => h k j (fun q => hk (hs k j q))
theorem Fr.stI {P : Nat → Nat → Prop} {μ μ1 : Mem} (h : Fr P μ μ1) {k j : Nat} {v : Int32} (hk : P k j) : Fr P μ (stI μ1 k j v) := h.tr (fun a c hq => ⟨by rw [st_I, if_neg (fun e : a = k ∧ c = j => hq (by rw [e.1, e.2]; exact hk))], rfl, rfl⟩)
theorem Fr.stL {P : Nat → Nat → Prop} {μ μ1 : Mem} (h : Fr P μ μ1) {k j : Nat} {v : Int64} (hk : P k j) : Fr P μ (stL μ1 k j v) := h.tr (fun a c hq => ⟨rfl, by rw [st_L, if_neg (fun e : a = k ∧ c = j => hq (by rw [e.1, e.2]; exact hk))], rfl⟩)
theorem Fr.stR {P : Nat → Nat → Prop} {μ μ1 : Mem} (h : Fr P μ μ1) {k j : Nat} {v : Nat} (hk : P k j) : Fr P μ (stR μ1 k j v) := h.tr (fun a c hq => ⟨rfl, rfl, by rw [st_R, if_neg (fun e : a = k ∧ c = j => hq (by rw [e.1, e.2]; exact hk))]⟩)
theorem st_ne {μ : Mem} {c k j : Nat} {v : Int32} (h : c ≠ k) (i : Nat) : (stI μ k j v).1 c i = μ.1 c i := by rw [stI_ne h]
theorem stL_nc {μ : Mem} {c k j : Nat} {v : Int64} (h : c ≠ k) (i : Nat) : (stL μ k j v).2.1 c i = μ.2.1 c i := by rw [stL_ne h]
theorem at_S {μ : Mem} {c j : Nat} {v : Int32} : (stI μ c j v).1 c j = v := by rw [st_I, if_pos ⟨rfl, rfl⟩]
theorem at_N {μ : Mem} {c j i : Nat} {v : Int32} (h : i ≠ j) : (stI μ c j v).1 c i = μ.1 c i := by rw [st_I, if_neg (fun q => h q.2)]
theorem at_I {μ : Mem} {c : Nat} {k z : Int} {v : Int32} (h0 : 0 ≤ z) (h1 : 0 ≤ k) : (stI μ c k.toNat v).1 c z.toNat = if z = k then v else μ.1 c z.toNat := by
  rw [st_I]
  by_cases h : z = k
  · rw [if_pos h, if_pos ⟨rfl, by rw [h]⟩]
  · rw [if_neg h, if_neg (fun q => h (by have := q.2; omega))]
theorem at_L {μ : Mem} {c : Nat} {k z : Int} {v : Int64} (h0 : 0 ≤ z) (h1 : 0 ≤ k) : (stL μ c k.toNat v).2.1 c z.toNat = if z = k then v else μ.2.1 c z.toNat := by
  rw [st_L]
  by_cases h : z = k
  · rw [if_pos h, if_pos ⟨rfl, by rw [h]⟩]
  · rw [if_neg h, if_neg (fun q => h (by have := q.2; omega))]
theorem kB_ge {b : Nat} (h : kB b) : 32 ≤ b := by rcases h with rfl | rfl <;> omega
theorem CB.fr {b : Nat} {V : Vw} {μ μ' : Mem} (h : CB b V μ) (g : ∀ k j, 32 ≤ k → μ'.1 k j = μ.1 k j) : CB b V μ' := by
  have hb := kB_ge h.1
  obtain ⟨h1, ⟨s1, s2, s3⟩, h3, h4, h5, h6, h7, h8⟩ := h
  refine ⟨h1, ⟨s1, ?_, ?_⟩, ?_, ?_, ?_, ?_, ?_, ?_⟩
  · rw [g _ _ (by omega)]; exact s2
  · intro z a c
    rw [g _ _ (by omega), g _ _ (by omega), g _ _ (by omega), g _ _ (by omega), g _ _ (by omega), g _ _ (by omega), g _ _ (by omega), g _ _ (by omega), g _ _ (by omega), g _ _ (by omega)]
    exact s3 z a c
  · rw [g _ _ (by omega)]; exact h3
  · rw [g _ _ (by omega)]; exact h4
  · intro m a c
    rw [g _ _ (by omega), g _ _ (by omega), g _ _ (by omega)]
    exact h5 m a c
  · intro m a c
    rw [g _ _ (by omega)]
    exact h6 m a c
  · intro m a c
    rw [g _ _ (by omega)]
    exact h7 m a c
  · intro m a c
    rw [g _ _ (by omega)]
    exact h8 m a c
/-! The book's own answers. -/
section
variable {N : Nat} {b s : Nat} {V : Vw} {μ : Mem}
theorem c_costOf (hV : vB V) (hB : CB b V μ) {f m : Int} (f0 : 0 ≤ f) (f1 : f < 4) (m0 : 0 ≤ m) (m1 : m < mN V) : fX1_costOf N b (I_ f) (I_ m) μ = some (I_ (c_of V f m), μ) := by
  have hn := hV.1
  unfold vN at hn
  have h3 := hV.2.2.2.1 (f * 6 + m) (by omega) (by omega)
  unfold fX1_costOf c_of
  rw [if_pos hB.1]
  simp (disch := omega) only [Int.reduceEq, Int.reduceNe, Int.reduceLT, Int.reduceLE, Int.reduceAdd, Int.reduceSub, Int.reduceMul, Int.reduceNeg, Int.zero_add, Int.add_zero, nm_eq, bd_some, bv_some, aI_ok, aL_ok, aS_ok, dv_ok, dw_ok, I_add, I_sub, I_mul, I_neg, I_lt, I_le, I_eq, I_nat, J_add, J_sub, J_mul, J_neg, J_lt, J_le, J_eq, I_l, J_i, I_div, J_div, b2_0, b2_1, b2_nar, nar_0, nar_1, zr_0, zr_1, zr_b2, cmp_eq, cmp_le, cmp_lt, cmp_gt, cmp_ge, mx_I, mn_I, mx_L, mn_L, az_I, if_true, if_false, i_0, i_1, i_2, i_3, i_4, i_5, i_6, i_7, i_8, i_9, i_10, i_11, i_12, i_16, i_18, i_20, i_24, i_28, i_29, i_30, i_31, i_32, i_33, i_34, i_35, i_37, i_40, i_41, i_42, i_43, i_45, i_46, i_47, i_48, i_57, i_59, i_63, i_64, i_96, i_97, i_98, i_99, i_100, i_101, i_102, i_103, i_104, i_105, i_106, i_107, i_108, i_109, i_110, i_111, i_112, i_113, i_122, i_200, i_255, i_256, i_257, i_258, i_355, i_400, i_999, i_1000, i_1200, i_5680, i_9999, i_10000, i_99999, j_0, j_1, j_2, j_3, j_4, j_5, j_6, j_9, j_10, j_11, j_98, j_99, j_100, j_999, j_1000, j_9999, j_10000, j_99999, j_1000000, CB_m hB, CB_f hB, CB_co hB, CB_lk hB, CB_tg hB, CB_tc hB, CB_si hB, CB_se hB]
  split <;> rfl
theorem c_isZ (hV : vB V) (hB : CB b V μ) : fX1_isZeroing N b μ = some (I_ (b2 (s_se V 1 = 1)), μ) := by
  have hn := hV.1
  unfold vN at hn
  unfold fX1_isZeroing b2
  rw [if_pos hB.1]
  simp (disch := omega) only [Int.reduceEq, Int.reduceNe, Int.reduceLT, Int.reduceLE, Int.reduceAdd, Int.reduceSub, Int.reduceMul, Int.reduceNeg, Int.zero_add, Int.add_zero, nm_eq, bd_some, bv_some, aI_ok, aL_ok, aS_ok, dv_ok, dw_ok, I_add, I_sub, I_mul, I_neg, I_lt, I_le, I_eq, I_nat, J_add, J_sub, J_mul, J_neg, J_lt, J_le, J_eq, I_l, J_i, I_div, J_div, b2_0, b2_1, b2_nar, nar_0, nar_1, zr_0, zr_1, zr_b2, cmp_eq, cmp_le, cmp_lt, cmp_gt, cmp_ge, mx_I, mn_I, mx_L, mn_L, az_I, if_true, if_false, i_0, i_1, i_2, i_3, i_4, i_5, i_6, i_7, i_8, i_9, i_10, i_11, i_12, i_16, i_18, i_20, i_24, i_28, i_29, i_30, i_31, i_32, i_33, i_34, i_35, i_37, i_40, i_41, i_42, i_43, i_45, i_46, i_47, i_48, i_57, i_59, i_63, i_64, i_96, i_97, i_98, i_99, i_100, i_101, i_102, i_103, i_104, i_105, i_106, i_107, i_108, i_109, i_110, i_111, i_112, i_113, i_122, i_200, i_255, i_256, i_257, i_258, i_355, i_400, i_999, i_1000, i_1200, i_5680, i_9999, i_10000, i_99999, j_0, j_1, j_2, j_3, j_4, j_5, j_6, j_9, j_10, j_11, j_98, j_99, j_100, j_999, j_1000, j_9999, j_10000, j_99999, j_1000000, CB_m hB, CB_f hB, CB_co hB, CB_lk hB, CB_tg hB, CB_tc hB, CB_si hB, CB_se hB]
  (repeat' split) <;> first | rfl | (exfalso; omega)
theorem c_mOwed (hV : vB V) (hB : CB b V μ) : fX1_methodOwed N b μ = some (I_ (if s_se V 0 = 2 then 2 else 1), μ) := by
  have hn := hV.1
  unfold vN at hn
  unfold fX1_methodOwed
  rw [if_pos hB.1]
  simp (disch := omega) only [Int.reduceEq, Int.reduceNe, Int.reduceLT, Int.reduceLE, Int.reduceAdd, Int.reduceSub, Int.reduceMul, Int.reduceNeg, Int.zero_add, Int.add_zero, nm_eq, bd_some, bv_some, aI_ok, aL_ok, aS_ok, dv_ok, dw_ok, I_add, I_sub, I_mul, I_neg, I_lt, I_le, I_eq, I_nat, J_add, J_sub, J_mul, J_neg, J_lt, J_le, J_eq, I_l, J_i, I_div, J_div, b2_0, b2_1, b2_nar, nar_0, nar_1, zr_0, zr_1, zr_b2, cmp_eq, cmp_le, cmp_lt, cmp_gt, cmp_ge, mx_I, mn_I, mx_L, mn_L, az_I, if_true, if_false, i_0, i_1, i_2, i_3, i_4, i_5, i_6, i_7, i_8, i_9, i_10, i_11, i_12, i_16, i_18, i_20, i_24, i_28, i_29, i_30, i_31, i_32, i_33, i_34, i_35, i_37, i_40, i_41, i_42, i_43, i_45, i_46, i_47, i_48, i_57, i_59, i_63, i_64, i_96, i_97, i_98, i_99, i_100, i_101, i_102, i_103, i_104, i_105, i_106, i_107, i_108, i_109, i_110, i_111, i_112, i_113, i_122, i_200, i_255, i_256, i_257, i_258, i_355, i_400, i_999, i_1000, i_1200, i_5680, i_9999, i_10000, i_99999, j_0, j_1, j_2, j_3, j_4, j_5, j_6, j_9, j_10, j_11, j_98, j_99, j_100, j_999, j_1000, j_9999, j_10000, j_99999, j_1000000, CB_m hB, CB_f hB, CB_co hB, CB_lk hB, CB_tg hB, CB_tc hB, CB_si hB, CB_se hB]
  split <;> rfl
theorem c_mtc (hV : vB V) (hB : CB b V μ) {e : Int} (h0 : 0 ≤ e) (h1 : e < sN V) : fX1_monthToCompare N b (I_ e) μ = some (I_ (mtc V e), μ) := by
  have hn := hV.1
  unfold vN at hn
  have hS := hB.2.1
  unfold fX1_monthToCompare mtc
  rw [if_pos hB.1]
  simp (disch := omega) only [Int.reduceEq, Int.reduceNe, Int.reduceLT, Int.reduceLE, Int.reduceAdd, Int.reduceSub, Int.reduceMul, Int.reduceNeg, Int.zero_add, Int.add_zero, nm_eq, bd_some, bv_some, aI_ok, aL_ok, aS_ok, dv_ok, dw_ok, I_add, I_sub, I_mul, I_neg, I_lt, I_le, I_eq, I_nat, J_add, J_sub, J_mul, J_neg, J_lt, J_le, J_eq, I_l, J_i, I_div, J_div, b2_0, b2_1, b2_nar, nar_0, nar_1, zr_0, zr_1, zr_b2, cmp_eq, cmp_le, cmp_lt, cmp_gt, cmp_ge, mx_I, mn_I, mx_L, mn_L, az_I, if_true, if_false, i_0, i_1, i_2, i_3, i_4, i_5, i_6, i_7, i_8, i_9, i_10, i_11, i_12, i_16, i_18, i_20, i_24, i_28, i_29, i_30, i_31, i_32, i_33, i_34, i_35, i_37, i_40, i_41, i_42, i_43, i_45, i_46, i_47, i_48, i_57, i_59, i_63, i_64, i_96, i_97, i_98, i_99, i_100, i_101, i_102, i_103, i_104, i_105, i_106, i_107, i_108, i_109, i_110, i_111, i_112, i_113, i_122, i_200, i_255, i_256, i_257, i_258, i_355, i_400, i_999, i_1000, i_1200, i_5680, i_9999, i_10000, i_99999, j_0, j_1, j_2, j_3, j_4, j_5, j_6, j_9, j_10, j_11, j_98, j_99, j_100, j_999, j_1000, j_9999, j_10000, j_99999, j_1000000, CB_m hB, CB_f hB, CB_co hB, CB_lk hB, CB_tg hB, CB_tc hB, CB_si hB, CB_se hB, SB_mo hS]
  split <;> rfl
theorem c_exMany_l (hV : vB V) (hS : SB s V μ) {f : Int} (f0 : -10 ≤ f) (f1 : f ≤ 10) : ∀ (d n : Nat) (i acc : Int), d < n → 0 ≤ i → i + d = sN V → fX7_exportMany_4 N n s (I_ f) (I_ acc) (I_ i) μ = some (I_ (acc + sg d i (g_mn V f 1)), μ) := by
  have hn := hV.1
  unfold vN at hn
  intro d
  induction d with
  | zero =>
    intro n i acc h1 h2 h3
    obtain ⟨n, rfl⟩ : ∃ m, n = m + 1 := ⟨n - 1, by omega⟩
    have hle : sN V ≤ i := by omega
    simp (disch := omega) only [fX7_exportMany_4, Int.reduceEq, Int.reduceNe, Int.reduceLT, Int.reduceLE, Int.reduceAdd, Int.reduceSub, Int.reduceMul, Int.reduceNeg, Int.zero_add, Int.add_zero, nm_eq, bd_some, bv_some, aI_ok, aL_ok, aS_ok, dv_ok, dw_ok, I_add, I_sub, I_mul, I_neg, I_lt, I_le, I_eq, I_nat, J_add, J_sub, J_mul, J_neg, J_lt, J_le, J_eq, I_l, J_i, I_div, J_div, b2_0, b2_1, b2_nar, nar_0, nar_1, zr_0, zr_1, zr_b2, cmp_eq, cmp_le, cmp_lt, cmp_gt, cmp_ge, mx_I, mn_I, mx_L, mn_L, az_I, if_true, if_false, i_0, i_1, i_2, i_3, i_4, i_5, i_6, i_7, i_8, i_9, i_10, i_11, i_12, i_16, i_18, i_20, i_24, i_28, i_29, i_30, i_31, i_32, i_33, i_34, i_35, i_37, i_40, i_41, i_42, i_43, i_45, i_46, i_47, i_48, i_57, i_59, i_63, i_64, i_96, i_97, i_98, i_99, i_100, i_101, i_102, i_103, i_104, i_105, i_106, i_107, i_108, i_109, i_110, i_111, i_112, i_113, i_122, i_200, i_255, i_256, i_257, i_258, i_355, i_400, i_999, i_1000, i_1200, i_5680, i_9999, i_10000, i_99999, j_0, j_1, j_2, j_3, j_4, j_5, j_6, j_9, j_10, j_11, j_98, j_99, j_100, j_999, j_1000, j_9999, j_10000, j_99999, j_1000000, SB_n hS, SB_mk hS, SB_fm hS, SB_md hS, SB_lv hS, SB_mo hS, SB_mn hS, SB_pr hS, SB_of hS, SB_nt hS, SB_li hS, hle, sg, Int.add_zero]
  | succ d ih =>
    intro n i acc h1 h2 h3
    obtain ⟨n, rfl⟩ : ∃ m, n = m + 1 := ⟨n - 1, by omega⟩
    have hle : ¬ sN V ≤ i := by omega
    simp (disch := omega) only [fX7_exportMany_4, Int.reduceEq, Int.reduceNe, Int.reduceLT, Int.reduceLE, Int.reduceAdd, Int.reduceSub, Int.reduceMul, Int.reduceNeg, Int.zero_add, Int.add_zero, nm_eq, bd_some, bv_some, aI_ok, aL_ok, aS_ok, dv_ok, dw_ok, I_add, I_sub, I_mul, I_neg, I_lt, I_le, I_eq, I_nat, J_add, J_sub, J_mul, J_neg, J_lt, J_le, J_eq, I_l, J_i, I_div, J_div, b2_0, b2_1, b2_nar, nar_0, nar_1, zr_0, zr_1, zr_b2, cmp_eq, cmp_le, cmp_lt, cmp_gt, cmp_ge, mx_I, mn_I, mx_L, mn_L, az_I, if_true, if_false, i_0, i_1, i_2, i_3, i_4, i_5, i_6, i_7, i_8, i_9, i_10, i_11, i_12, i_16, i_18, i_20, i_24, i_28, i_29, i_30, i_31, i_32, i_33, i_34, i_35, i_37, i_40, i_41, i_42, i_43, i_45, i_46, i_47, i_48, i_57, i_59, i_63, i_64, i_96, i_97, i_98, i_99, i_100, i_101, i_102, i_103, i_104, i_105, i_106, i_107, i_108, i_109, i_110, i_111, i_112, i_113, i_122, i_200, i_255, i_256, i_257, i_258, i_355, i_400, i_999, i_1000, i_1200, i_5680, i_9999, i_10000, i_99999, j_0, j_1, j_2, j_3, j_4, j_5, j_6, j_9, j_10, j_11, j_98, j_99, j_100, j_999, j_1000, j_9999, j_10000, j_99999, j_1000000, SB_n hS, SB_mk hS, SB_fm hS, SB_md hS, SB_lv hS, SB_mo hS, SB_mn hS, SB_pr hS, SB_of hS, SB_nt hS, SB_li hS, hle, c_isOf hV hS]
    by_cases hp : s_li V i = 1 ∧ s_fm V i = f ∧ s_mk V i = 1
    · simp (disch := omega) only [hp, and_self, not_true, if_false, ih, sg, g_mn, if_true, Int.add_assoc]
    · simp (disch := omega) only [hp, not_false_eq_true, if_true, ih, sg, g_mn, if_false, Int.zero_add]
theorem c_exMany (hV : vB V) (hS : SB s V μ) (hN : 100 ≤ N) {f : Int} (f0 : -10 ≤ f) (f1 : f ≤ 10) : fX7_exportMany N s (I_ f) μ = some (I_ (x_mn V f 1), μ) := by
  have hn := hV.1
  unfold vN at hn
  unfold fX7_exportMany x_mn zN
  rw [if_pos hS.1, i_0, c_exMany_l hV hS f0 f1 (sN V).toNat N 0 0 (by omega) (by omega) (by omega), Int.zero_add]
def g_li (V : Vw) (z : Int) : Int := if s_li V z = 1 then 1 else 0
theorem c_live_l (hV : vB V) (hS : SB s V μ) : ∀ (d n : Nat) (i acc : Int), d < n → 0 ≤ i → i + d = sN V → fX7_countLive_4 N n s (I_ acc) (I_ i) μ = some (I_ (acc + sg d i (g_li V)), μ) := by
  have hn := hV.1
  unfold vN at hn
  intro d
  induction d with
  | zero =>
    intro n i acc h1 h2 h3
    obtain ⟨n, rfl⟩ : ∃ m, n = m + 1 := ⟨n - 1, by omega⟩
    have hle : sN V ≤ i := by omega
    simp (disch := omega) only [fX7_countLive_4, Int.reduceEq, Int.reduceNe, Int.reduceLT, Int.reduceLE, Int.reduceAdd, Int.reduceSub, Int.reduceMul, Int.reduceNeg, Int.zero_add, Int.add_zero, nm_eq, bd_some, bv_some, aI_ok, aL_ok, aS_ok, dv_ok, dw_ok, I_add, I_sub, I_mul, I_neg, I_lt, I_le, I_eq, I_nat, J_add, J_sub, J_mul, J_neg, J_lt, J_le, J_eq, I_l, J_i, I_div, J_div, b2_0, b2_1, b2_nar, nar_0, nar_1, zr_0, zr_1, zr_b2, cmp_eq, cmp_le, cmp_lt, cmp_gt, cmp_ge, mx_I, mn_I, mx_L, mn_L, az_I, if_true, if_false, i_0, i_1, i_2, i_3, i_4, i_5, i_6, i_7, i_8, i_9, i_10, i_11, i_12, i_16, i_18, i_20, i_24, i_28, i_29, i_30, i_31, i_32, i_33, i_34, i_35, i_37, i_40, i_41, i_42, i_43, i_45, i_46, i_47, i_48, i_57, i_59, i_63, i_64, i_96, i_97, i_98, i_99, i_100, i_101, i_102, i_103, i_104, i_105, i_106, i_107, i_108, i_109, i_110, i_111, i_112, i_113, i_122, i_200, i_255, i_256, i_257, i_258, i_355, i_400, i_999, i_1000, i_1200, i_5680, i_9999, i_10000, i_99999, j_0, j_1, j_2, j_3, j_4, j_5, j_6, j_9, j_10, j_11, j_98, j_99, j_100, j_999, j_1000, j_9999, j_10000, j_99999, j_1000000, SB_n hS, SB_mk hS, SB_fm hS, SB_md hS, SB_lv hS, SB_mo hS, SB_mn hS, SB_pr hS, SB_of hS, SB_nt hS, SB_li hS, hle, sg, Int.add_zero]
  | succ d ih =>
    intro n i acc h1 h2 h3
    obtain ⟨n, rfl⟩ : ∃ m, n = m + 1 := ⟨n - 1, by omega⟩
    have hle : ¬ sN V ≤ i := by omega
    have hv := hV.2.1 i h2 (by omega)
    unfold vS at hv
    simp (disch := omega) only [fX7_countLive_4, Int.reduceEq, Int.reduceNe, Int.reduceLT, Int.reduceLE, Int.reduceAdd, Int.reduceSub, Int.reduceMul, Int.reduceNeg, Int.zero_add, Int.add_zero, nm_eq, bd_some, bv_some, aI_ok, aL_ok, aS_ok, dv_ok, dw_ok, I_add, I_sub, I_mul, I_neg, I_lt, I_le, I_eq, I_nat, J_add, J_sub, J_mul, J_neg, J_lt, J_le, J_eq, I_l, J_i, I_div, J_div, b2_0, b2_1, b2_nar, nar_0, nar_1, zr_0, zr_1, zr_b2, cmp_eq, cmp_le, cmp_lt, cmp_gt, cmp_ge, mx_I, mn_I, mx_L, mn_L, az_I, if_true, if_false, i_0, i_1, i_2, i_3, i_4, i_5, i_6, i_7, i_8, i_9, i_10, i_11, i_12, i_16, i_18, i_20, i_24, i_28, i_29, i_30, i_31, i_32, i_33, i_34, i_35, i_37, i_40, i_41, i_42, i_43, i_45, i_46, i_47, i_48, i_57, i_59, i_63, i_64, i_96, i_97, i_98, i_99, i_100, i_101, i_102, i_103, i_104, i_105, i_106, i_107, i_108, i_109, i_110, i_111, i_112, i_113, i_122, i_200, i_255, i_256, i_257, i_258, i_355, i_400, i_999, i_1000, i_1200, i_5680, i_9999, i_10000, i_99999, j_0, j_1, j_2, j_3, j_4, j_5, j_6, j_9, j_10, j_11, j_98, j_99, j_100, j_999, j_1000, j_9999, j_10000, j_99999, j_1000000, SB_n hS, SB_mk hS, SB_fm hS, SB_md hS, SB_lv hS, SB_mo hS, SB_mn hS, SB_pr hS, SB_of hS, SB_nt hS, SB_li hS, hle]
    by_cases hp : s_li V i = 0
    · have hq : ¬ s_li V i = 1 := by omega
      simp (disch := omega) only [Int.reduceEq, Int.reduceNe, Int.reduceLT, Int.reduceLE, Int.reduceAdd, Int.reduceSub, Int.reduceMul, Int.reduceNeg, Int.zero_add, Int.add_zero, nm_eq, bd_some, bv_some, aI_ok, aL_ok, aS_ok, dv_ok, dw_ok, I_add, I_sub, I_mul, I_neg, I_lt, I_le, I_eq, I_nat, J_add, J_sub, J_mul, J_neg, J_lt, J_le, J_eq, I_l, J_i, I_div, J_div, b2_0, b2_1, b2_nar, nar_0, nar_1, zr_0, zr_1, zr_b2, cmp_eq, cmp_le, cmp_lt, cmp_gt, cmp_ge, mx_I, mn_I, mx_L, mn_L, az_I, if_true, if_false, i_0, i_1, i_2, i_3, i_4, i_5, i_6, i_7, i_8, i_9, i_10, i_11, i_12, i_16, i_18, i_20, i_24, i_28, i_29, i_30, i_31, i_32, i_33, i_34, i_35, i_37, i_40, i_41, i_42, i_43, i_45, i_46, i_47, i_48, i_57, i_59, i_63, i_64, i_96, i_97, i_98, i_99, i_100, i_101, i_102, i_103, i_104, i_105, i_106, i_107, i_108, i_109, i_110, i_111, i_112, i_113, i_122, i_200, i_255, i_256, i_257, i_258, i_355, i_400, i_999, i_1000, i_1200, i_5680, i_9999, i_10000, i_99999, j_0, j_1, j_2, j_3, j_4, j_5, j_6, j_9, j_10, j_11, j_98, j_99, j_100, j_999, j_1000, j_9999, j_10000, j_99999, j_1000000, hp, ih, sg, g_li]
    · have hq : s_li V i = 1 := by omega
      simp (disch := omega) only [Int.reduceEq, Int.reduceNe, Int.reduceLT, Int.reduceLE, Int.reduceAdd, Int.reduceSub, Int.reduceMul, Int.reduceNeg, Int.zero_add, Int.add_zero, nm_eq, bd_some, bv_some, aI_ok, aL_ok, aS_ok, dv_ok, dw_ok, I_add, I_sub, I_mul, I_neg, I_lt, I_le, I_eq, I_nat, J_add, J_sub, J_mul, J_neg, J_lt, J_le, J_eq, I_l, J_i, I_div, J_div, b2_0, b2_1, b2_nar, nar_0, nar_1, zr_0, zr_1, zr_b2, cmp_eq, cmp_le, cmp_lt, cmp_gt, cmp_ge, mx_I, mn_I, mx_L, mn_L, az_I, if_true, if_false, i_0, i_1, i_2, i_3, i_4, i_5, i_6, i_7, i_8, i_9, i_10, i_11, i_12, i_16, i_18, i_20, i_24, i_28, i_29, i_30, i_31, i_32, i_33, i_34, i_35, i_37, i_40, i_41, i_42, i_43, i_45, i_46, i_47, i_48, i_57, i_59, i_63, i_64, i_96, i_97, i_98, i_99, i_100, i_101, i_102, i_103, i_104, i_105, i_106, i_107, i_108, i_109, i_110, i_111, i_112, i_113, i_122, i_200, i_255, i_256, i_257, i_258, i_355, i_400, i_999, i_1000, i_1200, i_5680, i_9999, i_10000, i_99999, j_0, j_1, j_2, j_3, j_4, j_5, j_6, j_9, j_10, j_11, j_98, j_99, j_100, j_999, j_1000, j_9999, j_10000, j_99999, j_1000000, hq, ih, sg, g_li, Int.add_assoc]
theorem c_live (hV : vB V) (hS : SB s V μ) (hN : 100 ≤ N) : fX7_countLive N s μ = some (I_ (sg (zN V) 0 (g_li V)), μ) := by
  have hn := hV.1
  unfold vN at hn
  unfold fX7_countLive zN
  rw [if_pos hS.1, i_0, c_live_l hV hS (sN V).toNat N 0 0 (by omega) (by omega) (by omega), Int.zero_add]
def g_si (V : Vw) (f : Int) : Int := if s_si V f = 1 then 1 else 0
theorem c_sil_l (hV : vB V) (hB : CB b V μ) : ∀ (d n : Nat) (i acc : Int), d < n → 0 ≤ i → i + d = fN V → fX1_countSilent_4 N n b (I_ acc) (I_ i) μ = some (I_ (acc + sg d i (g_si V)), μ) := by
  have hn := hV.1
  unfold vN at hn
  intro d
  induction d with
  | zero =>
    intro n i acc h1 h2 h3
    obtain ⟨n, rfl⟩ : ∃ m, n = m + 1 := ⟨n - 1, by omega⟩
    have hle : fN V ≤ i := by omega
    simp (disch := omega) only [fX1_countSilent_4, Int.reduceEq, Int.reduceNe, Int.reduceLT, Int.reduceLE, Int.reduceAdd, Int.reduceSub, Int.reduceMul, Int.reduceNeg, Int.zero_add, Int.add_zero, nm_eq, bd_some, bv_some, aI_ok, aL_ok, aS_ok, dv_ok, dw_ok, I_add, I_sub, I_mul, I_neg, I_lt, I_le, I_eq, I_nat, J_add, J_sub, J_mul, J_neg, J_lt, J_le, J_eq, I_l, J_i, I_div, J_div, b2_0, b2_1, b2_nar, nar_0, nar_1, zr_0, zr_1, zr_b2, cmp_eq, cmp_le, cmp_lt, cmp_gt, cmp_ge, mx_I, mn_I, mx_L, mn_L, az_I, if_true, if_false, i_0, i_1, i_2, i_3, i_4, i_5, i_6, i_7, i_8, i_9, i_10, i_11, i_12, i_16, i_18, i_20, i_24, i_28, i_29, i_30, i_31, i_32, i_33, i_34, i_35, i_37, i_40, i_41, i_42, i_43, i_45, i_46, i_47, i_48, i_57, i_59, i_63, i_64, i_96, i_97, i_98, i_99, i_100, i_101, i_102, i_103, i_104, i_105, i_106, i_107, i_108, i_109, i_110, i_111, i_112, i_113, i_122, i_200, i_255, i_256, i_257, i_258, i_355, i_400, i_999, i_1000, i_1200, i_5680, i_9999, i_10000, i_99999, j_0, j_1, j_2, j_3, j_4, j_5, j_6, j_9, j_10, j_11, j_98, j_99, j_100, j_999, j_1000, j_9999, j_10000, j_99999, j_1000000, CB_m hB, CB_f hB, CB_co hB, CB_lk hB, CB_tg hB, CB_tc hB, CB_si hB, CB_se hB, hle, sg, Int.add_zero]
  | succ d ih =>
    intro n i acc h1 h2 h3
    obtain ⟨n, rfl⟩ : ∃ m, n = m + 1 := ⟨n - 1, by omega⟩
    have hle : ¬ fN V ≤ i := by omega
    have hv := hV.2.2.2.2 i h2 (by omega)
    simp (disch := omega) only [fX1_countSilent_4, Int.reduceEq, Int.reduceNe, Int.reduceLT, Int.reduceLE, Int.reduceAdd, Int.reduceSub, Int.reduceMul, Int.reduceNeg, Int.zero_add, Int.add_zero, nm_eq, bd_some, bv_some, aI_ok, aL_ok, aS_ok, dv_ok, dw_ok, I_add, I_sub, I_mul, I_neg, I_lt, I_le, I_eq, I_nat, J_add, J_sub, J_mul, J_neg, J_lt, J_le, J_eq, I_l, J_i, I_div, J_div, b2_0, b2_1, b2_nar, nar_0, nar_1, zr_0, zr_1, zr_b2, cmp_eq, cmp_le, cmp_lt, cmp_gt, cmp_ge, mx_I, mn_I, mx_L, mn_L, az_I, if_true, if_false, i_0, i_1, i_2, i_3, i_4, i_5, i_6, i_7, i_8, i_9, i_10, i_11, i_12, i_16, i_18, i_20, i_24, i_28, i_29, i_30, i_31, i_32, i_33, i_34, i_35, i_37, i_40, i_41, i_42, i_43, i_45, i_46, i_47, i_48, i_57, i_59, i_63, i_64, i_96, i_97, i_98, i_99, i_100, i_101, i_102, i_103, i_104, i_105, i_106, i_107, i_108, i_109, i_110, i_111, i_112, i_113, i_122, i_200, i_255, i_256, i_257, i_258, i_355, i_400, i_999, i_1000, i_1200, i_5680, i_9999, i_10000, i_99999, j_0, j_1, j_2, j_3, j_4, j_5, j_6, j_9, j_10, j_11, j_98, j_99, j_100, j_999, j_1000, j_9999, j_10000, j_99999, j_1000000, CB_m hB, CB_f hB, CB_co hB, CB_lk hB, CB_tg hB, CB_tc hB, CB_si hB, CB_se hB, hle]
    by_cases hp : s_si V i = 0
    · have hq : ¬ s_si V i = 1 := by omega
      simp (disch := omega) only [Int.reduceEq, Int.reduceNe, Int.reduceLT, Int.reduceLE, Int.reduceAdd, Int.reduceSub, Int.reduceMul, Int.reduceNeg, Int.zero_add, Int.add_zero, nm_eq, bd_some, bv_some, aI_ok, aL_ok, aS_ok, dv_ok, dw_ok, I_add, I_sub, I_mul, I_neg, I_lt, I_le, I_eq, I_nat, J_add, J_sub, J_mul, J_neg, J_lt, J_le, J_eq, I_l, J_i, I_div, J_div, b2_0, b2_1, b2_nar, nar_0, nar_1, zr_0, zr_1, zr_b2, cmp_eq, cmp_le, cmp_lt, cmp_gt, cmp_ge, mx_I, mn_I, mx_L, mn_L, az_I, if_true, if_false, i_0, i_1, i_2, i_3, i_4, i_5, i_6, i_7, i_8, i_9, i_10, i_11, i_12, i_16, i_18, i_20, i_24, i_28, i_29, i_30, i_31, i_32, i_33, i_34, i_35, i_37, i_40, i_41, i_42, i_43, i_45, i_46, i_47, i_48, i_57, i_59, i_63, i_64, i_96, i_97, i_98, i_99, i_100, i_101, i_102, i_103, i_104, i_105, i_106, i_107, i_108, i_109, i_110, i_111, i_112, i_113, i_122, i_200, i_255, i_256, i_257, i_258, i_355, i_400, i_999, i_1000, i_1200, i_5680, i_9999, i_10000, i_99999, j_0, j_1, j_2, j_3, j_4, j_5, j_6, j_9, j_10, j_11, j_98, j_99, j_100, j_999, j_1000, j_9999, j_10000, j_99999, j_1000000, hp, ih, sg, g_si]
    · have hq : s_si V i = 1 := by omega
      simp (disch := omega) only [Int.reduceEq, Int.reduceNe, Int.reduceLT, Int.reduceLE, Int.reduceAdd, Int.reduceSub, Int.reduceMul, Int.reduceNeg, Int.zero_add, Int.add_zero, nm_eq, bd_some, bv_some, aI_ok, aL_ok, aS_ok, dv_ok, dw_ok, I_add, I_sub, I_mul, I_neg, I_lt, I_le, I_eq, I_nat, J_add, J_sub, J_mul, J_neg, J_lt, J_le, J_eq, I_l, J_i, I_div, J_div, b2_0, b2_1, b2_nar, nar_0, nar_1, zr_0, zr_1, zr_b2, cmp_eq, cmp_le, cmp_lt, cmp_gt, cmp_ge, mx_I, mn_I, mx_L, mn_L, az_I, if_true, if_false, i_0, i_1, i_2, i_3, i_4, i_5, i_6, i_7, i_8, i_9, i_10, i_11, i_12, i_16, i_18, i_20, i_24, i_28, i_29, i_30, i_31, i_32, i_33, i_34, i_35, i_37, i_40, i_41, i_42, i_43, i_45, i_46, i_47, i_48, i_57, i_59, i_63, i_64, i_96, i_97, i_98, i_99, i_100, i_101, i_102, i_103, i_104, i_105, i_106, i_107, i_108, i_109, i_110, i_111, i_112, i_113, i_122, i_200, i_255, i_256, i_257, i_258, i_355, i_400, i_999, i_1000, i_1200, i_5680, i_9999, i_10000, i_99999, j_0, j_1, j_2, j_3, j_4, j_5, j_6, j_9, j_10, j_11, j_98, j_99, j_100, j_999, j_1000, j_9999, j_10000, j_99999, j_1000000, hq, ih, sg, g_si, Int.add_assoc]
theorem c_sil (hV : vB V) (hB : CB b V μ) (hN : 100 ≤ N) : fX1_countSilent N b μ = some (I_ (sg (fN V).toNat 0 (g_si V)), μ) := by
  have hn := hV.1
  unfold vN at hn
  unfold fX1_countSilent
  rw [if_pos hB.1, i_0, c_sil_l hV hB (fN V).toNat N 0 0 (by omega) (by omega) (by omega), Int.zero_add]
end
