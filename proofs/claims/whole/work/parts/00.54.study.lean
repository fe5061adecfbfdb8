/-! Study.look: the study of a firm in a book. -/
def P_cb (k j : Nat) : Prop := k = 18 ∨ (k = 3 ∧ j = 4)
def P_ct (k _ : Nat) : Prop := 11 ≤ k ∧ k ≤ 14
def P_ci (k _ : Nat) : Prop := 14 ≤ k ∧ k ≤ 17
def P_cp (k _ : Nat) : Prop := k = 3 ∨ k = 4 ∨ (11 ≤ k ∧ k ≤ 22)
def P_st (k _ : Nat) : Prop := k = 3 ∨ (11 ≤ k ∧ k ≤ 18)
def P_du (k _ : Nat) : Prop := (3 ≤ k ∧ k ≤ 5) ∨ (11 ≤ k ∧ k ≤ 30)
theorem CB.F {P : Nat → Nat → Prop} {b : Nat} {V : Vw} {μ μ' : Mem} (h : CB b V μ) (g : Fr P μ μ') (hp : ∀ k j, 32 ≤ k → ¬ P k j) : CB b V μ' := h.fr (fun k j hk => (g k j (hp k j hk)).1)
theorem CB.st {b : Nat} {V : Vw} {μ μ' : Mem} (h : CB b V μ) (g : Fr P_st μ μ') : CB b V μ' := h.F g (fun k j hk => by unfold P_st; omega)
theorem CB.cp {b : Nat} {V : Vw} {μ μ' : Mem} (h : CB b V μ) (g : Fr P_cp μ μ') : CB b V μ' := h.F g (fun k j hk => by unfold P_cp; omega)
theorem CB.du {b : Nat} {V : Vw} {μ μ' : Mem} (h : CB b V μ) (g : Fr P_du μ μ') : CB b V μ' := h.F g (fun k j hk => by unfold P_du; omega)
/-- the head of a study: its book and firm -/
def HD (b : Nat) (f : Int) (μ : Mem) : Prop := μ.2.2 3 9 = b ∧ μ.1 3 10 = I_ f
theorem HD.F {P : Nat → Nat → Prop} {b : Nat} {f : Int} {μ μ' : Mem} (h : HD b f μ) (g : Fr P μ μ') (h9 : ¬ P 3 9) (h10 : ¬ P 3 10) : HD b f μ' := ⟨((g 3 9 h9).2.2).trans h.1, ((g 3 10 h10).1).trans h.2⟩
theorem sg_step {g : Int → Int} {i : Int} (h : 0 ≤ i) : sg (i + 1).toNat 0 g = sg i.toNat 0 g + g i := by
  rw [show (i + 1).toNat = i.toNat + 1 by omega, sg_snoc, show (0 : Int) + (i.toNat : Int) = i by omega]
section
variable {N : Nat} {b : Nat} {V : Vw} {f : Int}
theorem sg_nn {g : Int → Int} {hi : Int} {d : Nat} {i : Int} (h : ∀ z, i ≤ z → z < i + d → 0 ≤ g z ∧ g z ≤ hi) : 0 ≤ sg d i g ∧ sg d i g ≤ hi * d := by
  have := sg_bound (lo := 0) (hi := hi) d i h
  rw [Int.zero_mul] at this
  exact this
/-- sums of MANY over part of the sales are small -/
theorem sg_small (hV : vB V) {g : Int → Int} {d : Nat} (hd : (d : Int) ≤ sN V) (h : ∀ z, 0 ≤ z → z < sN V → g z = 0 ∨ g z = s_mn V z) : 0 ≤ sg d 0 g ∧ sg d 0 g ≤ 39960 := by
  have hn := hV.1
  unfold vN at hn
  have := sg_nn (hi := 999) (g := g) (d := d) (i := 0) (fun z a c => by
    have hv := hV.2.1 z a (by omega)
    unfold vS at hv
    have := h z a (by omega)
    omega)
  omega
theorem g_mn_or (V : Vw) (f k z : Int) : g_mn V f k z = 0 ∨ g_mn V f k z = s_mn V z := by
  unfold g_mn; split
  · exact Or.inr rfl
  · exact Or.inl rfl
theorem x_mn_in (hV : vB V) (f k : Int) : 0 ≤ x_mn V f k ∧ x_mn V f k ≤ 39960 := by
  have hn := hV.1
  unfold vN at hn
  exact sg_small hV (d := zN V) (by unfold zN; omega) (fun z _ _ => g_mn_or V f k z)
theorem x_bs_in (V : Vw) (f : Int) : -1 ≤ x_bs V f ∧ x_bs V f ≤ 2 := by
  unfold x_bs
  (repeat' split) <;> omega
theorem c_canBe {μ : Mem} {a : Int → Int} (ha : ∀ k, 0 ≤ k → k < 3 → μ.1 18 k.toNat = I_ (a k) ∧ 0 ≤ a k ∧ a k ≤ 39960) {k : Int} (h0 : 0 ≤ k) (h1 : k < 3) : fX8_canBeBase N (I_ k) μ = some (I_ (b2 (0 < a k ∧ a 1 ≤ 20 * a k)), μ) := by
  have e1 := ha k h0 h1
  have e2 := ha 1 (by omega) (by omega)
  have r : ∀ {z : Int}, 0 ≤ z → z < 3 → μ.1 18 z.toNat = I_ (a z) := fun h h' => (ha _ h h').1
  unfold fX8_canBeBase b2
  simp (disch := omega) only [Int.reduceEq, Int.reduceNe, Int.reduceLT, Int.reduceLE, Int.reduceAdd, Int.reduceSub, Int.reduceMul, Int.reduceNeg, Int.zero_add, Int.add_zero, nm_eq, bd_some, bv_some, aI_ok, aL_ok, aS_ok, dv_ok, dw_ok, I_add, I_sub, I_mul, I_neg, I_lt, I_le, I_eq, I_nat, J_add, J_sub, J_mul, J_neg, J_lt, J_le, J_eq, I_l, J_i, I_div, J_div, b2_0, b2_1, b2_nar, nar_0, nar_1, zr_0, zr_1, zr_b2, cmp_eq, cmp_le, cmp_lt, cmp_gt, cmp_ge, mx_I, mn_I, mx_L, mn_L, az_I, if_true, if_false, i_0, i_1, i_2, i_3, i_4, i_5, i_6, i_7, i_8, i_9, i_10, i_11, i_12, i_16, i_18, i_20, i_24, i_28, i_29, i_30, i_31, i_32, i_33, i_34, i_35, i_37, i_40, i_41, i_42, i_43, i_45, i_46, i_47, i_48, i_57, i_59, i_63, i_64, i_96, i_97, i_98, i_99, i_100, i_101, i_102, i_103, i_104, i_105, i_106, i_107, i_108, i_109, i_110, i_111, i_112, i_113, i_122, i_200, i_255, i_256, i_257, i_258, i_355, i_400, i_999, i_1000, i_1200, i_5680, i_9999, i_10000, i_99999, j_0, j_1, j_2, j_3, j_4, j_5, j_6, j_9, j_10, j_11, j_98, j_99, j_100, j_999, j_1000, j_9999, j_10000, j_99999, j_1000000, r]
  (repeat' split) <;> first | rfl | (exfalso; omega)
theorem c_base86 {μ : Mem} (hV : vB V) (hM : ∀ k, 0 ≤ k → k < 3 → μ.1 18 k.toNat = I_ (x_mn V f k)) : fX8_chooseBase_86 N μ = some ((), stI μ 3 4 (I_ (x_bs V f))) := by
  have ha : ∀ k, 0 ≤ k → k < 3 → μ.1 18 k.toNat = I_ (x_mn V f k) ∧ 0 ≤ x_mn V f k ∧ x_mn V f k ≤ 39960 := fun k h0 h1 => ⟨hM k h0 h1, x_mn_in hV f k⟩
  unfold fX8_chooseBase_86 x_bs
  simp (disch := omega) only [Int.reduceEq, Int.reduceNe, Int.reduceLT, Int.reduceLE, Int.reduceAdd, Int.reduceSub, Int.reduceMul, Int.reduceNeg, Int.zero_add, Int.add_zero, nm_eq, bd_some, bv_some, aI_ok, aL_ok, aS_ok, dv_ok, dw_ok, I_add, I_sub, I_mul, I_neg, I_lt, I_le, I_eq, I_nat, J_add, J_sub, J_mul, J_neg, J_lt, J_le, J_eq, I_l, J_i, I_div, J_div, b2_0, b2_1, b2_nar, nar_0, nar_1, zr_0, zr_1, zr_b2, cmp_eq, cmp_le, cmp_lt, cmp_gt, cmp_ge, mx_I, mn_I, mx_L, mn_L, az_I, if_true, if_false, i_0, i_1, i_2, i_3, i_4, i_5, i_6, i_7, i_8, i_9, i_10, i_11, i_12, i_16, i_18, i_20, i_24, i_28, i_29, i_30, i_31, i_32, i_33, i_34, i_35, i_37, i_40, i_41, i_42, i_43, i_45, i_46, i_47, i_48, i_57, i_59, i_63, i_64, i_96, i_97, i_98, i_99, i_100, i_101, i_102, i_103, i_104, i_105, i_106, i_107, i_108, i_109, i_110, i_111, i_112, i_113, i_122, i_200, i_255, i_256, i_257, i_258, i_355, i_400, i_999, i_1000, i_1200, i_5680, i_9999, i_10000, i_99999, j_0, j_1, j_2, j_3, j_4, j_5, j_6, j_9, j_10, j_11, j_98, j_99, j_100, j_999, j_1000, j_9999, j_10000, j_99999, j_1000000, c_canBe (a := x_mn V f) ha]
  (repeat' split) <;> first | rfl | (exfalso; omega)
theorem c_base30 (hV : vB V) (f0 : 0 ≤ f) (f1 : f < 4) : ∀ (d n : Nat) (i : Int) (μ : Mem), d < n → 0 ≤ i → i + d = sN V → CB b V μ → HD b f μ → (∀ k, 0 ≤ k → k < 3 → μ.1 18 k.toNat = I_ (sg i.toNat 0 (g_mn V f k))) → ∃ μ', fX8_chooseBase_30 N n b (I_ i) μ = some ((), μ') ∧ Fr P_cb μ μ' ∧ μ'.1 3 4 = I_ (x_bs V f) := by
  have hn := hV.1
  unfold vN at hn
  intro d
  induction d with
  | zero =>
    intro n i μ h1 h2 h3 hB hH hM
    obtain ⟨n, rfl⟩ : ∃ m, n = m + 1 := ⟨n - 1, by omega⟩
    have hle : sN V ≤ i := by omega
    have hi : i = sN V := by omega
    refine ⟨stI μ 3 4 (I_ (x_bs V f)), ?_, Fr.rf.stI (Or.inr ⟨rfl, rfl⟩), at_S⟩
    rw [hi] at hM
    simp (disch := omega) only [fX8_chooseBase_30, Int.reduceEq, Int.reduceNe, Int.reduceLT, Int.reduceLE, Int.reduceAdd, Int.reduceSub, Int.reduceMul, Int.reduceNeg, Int.zero_add, Int.add_zero, nm_eq, bd_some, bv_some, aI_ok, aL_ok, aS_ok, dv_ok, dw_ok, I_add, I_sub, I_mul, I_neg, I_lt, I_le, I_eq, I_nat, J_add, J_sub, J_mul, J_neg, J_lt, J_le, J_eq, I_l, J_i, I_div, J_div, b2_0, b2_1, b2_nar, nar_0, nar_1, zr_0, zr_1, zr_b2, cmp_eq, cmp_le, cmp_lt, cmp_gt, cmp_ge, mx_I, mn_I, mx_L, mn_L, az_I, if_true, if_false, i_0, i_1, i_2, i_3, i_4, i_5, i_6, i_7, i_8, i_9, i_10, i_11, i_12, i_16, i_18, i_20, i_24, i_28, i_29, i_30, i_31, i_32, i_33, i_34, i_35, i_37, i_40, i_41, i_42, i_43, i_45, i_46, i_47, i_48, i_57, i_59, i_63, i_64, i_96, i_97, i_98, i_99, i_100, i_101, i_102, i_103, i_104, i_105, i_106, i_107, i_108, i_109, i_110, i_111, i_112, i_113, i_122, i_200, i_255, i_256, i_257, i_258, i_355, i_400, i_999, i_1000, i_1200, i_5680, i_9999, i_10000, i_99999, j_0, j_1, j_2, j_3, j_4, j_5, j_6, j_9, j_10, j_11, j_98, j_99, j_100, j_999, j_1000, j_9999, j_10000, j_99999, j_1000000, SB_n hB.2.1, hle]
    exact c_base86 hV hM
  | succ d ih =>
    intro n i μ h1 h2 h3 hB hH hM
    obtain ⟨n, rfl⟩ : ∃ m, n = m + 1 := ⟨n - 1, by omega⟩
    have hle : ¬ sN V ≤ i := by omega
    have hv := hV.2.1 i h2 (by omega)
    unfold vS at hv
    have hS := hB.2.1
    have hb := kB_ge hB.1
    have skip : ¬ (s_li V i = 1 ∧ s_fm V i = f) → ∃ μ', fX8_chooseBase_30 N n b (I_ (i + 1)) μ = some ((), μ') ∧ Fr P_cb μ μ' ∧ μ'.1 3 4 = I_ (x_bs V f) := fun hne => by
      refine ih n (i + 1) μ (by omega) (by omega) (by omega) hB hH (fun k k0 k1 => ?_)
      rw [sg_step h2, hM k k0 k1]
      have : g_mn V f k i = 0 := by unfold g_mn; rw [if_neg (fun q => hne ⟨q.1, q.2.1⟩)]
      rw [this, Int.add_zero]
    by_cases hl : s_li V i = 0
    · simp (disch := omega) only [fX8_chooseBase_30, Int.reduceEq, Int.reduceNe, Int.reduceLT, Int.reduceLE, Int.reduceAdd, Int.reduceSub, Int.reduceMul, Int.reduceNeg, Int.zero_add, Int.add_zero, nm_eq, bd_some, bv_some, aI_ok, aL_ok, aS_ok, dv_ok, dw_ok, I_add, I_sub, I_mul, I_neg, I_lt, I_le, I_eq, I_nat, J_add, J_sub, J_mul, J_neg, J_lt, J_le, J_eq, I_l, J_i, I_div, J_div, b2_0, b2_1, b2_nar, nar_0, nar_1, zr_0, zr_1, zr_b2, cmp_eq, cmp_le, cmp_lt, cmp_gt, cmp_ge, mx_I, mn_I, mx_L, mn_L, az_I, if_true, if_false, i_0, i_1, i_2, i_3, i_4, i_5, i_6, i_7, i_8, i_9, i_10, i_11, i_12, i_16, i_18, i_20, i_24, i_28, i_29, i_30, i_31, i_32, i_33, i_34, i_35, i_37, i_40, i_41, i_42, i_43, i_45, i_46, i_47, i_48, i_57, i_59, i_63, i_64, i_96, i_97, i_98, i_99, i_100, i_101, i_102, i_103, i_104, i_105, i_106, i_107, i_108, i_109, i_110, i_111, i_112, i_113, i_122, i_200, i_255, i_256, i_257, i_258, i_355, i_400, i_999, i_1000, i_1200, i_5680, i_9999, i_10000, i_99999, j_0, j_1, j_2, j_3, j_4, j_5, j_6, j_9, j_10, j_11, j_98, j_99, j_100, j_999, j_1000, j_9999, j_10000, j_99999, j_1000000, SB_n hS, SB_mk hS, SB_fm hS, SB_md hS, SB_lv hS, SB_mo hS, SB_mn hS, SB_pr hS, SB_of hS, SB_nt hS, SB_li hS, hle, hl]
      exact skip (by omega)
    · by_cases hf : s_fm V i = f
      · have hs := sg_small hV (d := i.toNat) (by omega) (fun z _ _ => g_mn_or V f (s_mk V i) z)
        have r : ∀ {z : Int}, 0 ≤ z → z < 3 → μ.1 18 z.toNat = I_ (sg i.toNat 0 (g_mn V f z)) := fun h h' => hM _ h h'
        simp (disch := omega) only [fX8_chooseBase_30, Int.reduceEq, Int.reduceNe, Int.reduceLT, Int.reduceLE, Int.reduceAdd, Int.reduceSub, Int.reduceMul, Int.reduceNeg, Int.zero_add, Int.add_zero, nm_eq, bd_some, bv_some, aI_ok, aL_ok, aS_ok, dv_ok, dw_ok, I_add, I_sub, I_mul, I_neg, I_lt, I_le, I_eq, I_nat, J_add, J_sub, J_mul, J_neg, J_lt, J_le, J_eq, I_l, J_i, I_div, J_div, b2_0, b2_1, b2_nar, nar_0, nar_1, zr_0, zr_1, zr_b2, cmp_eq, cmp_le, cmp_lt, cmp_gt, cmp_ge, mx_I, mn_I, mx_L, mn_L, az_I, if_true, if_false, i_0, i_1, i_2, i_3, i_4, i_5, i_6, i_7, i_8, i_9, i_10, i_11, i_12, i_16, i_18, i_20, i_24, i_28, i_29, i_30, i_31, i_32, i_33, i_34, i_35, i_37, i_40, i_41, i_42, i_43, i_45, i_46, i_47, i_48, i_57, i_59, i_63, i_64, i_96, i_97, i_98, i_99, i_100, i_101, i_102, i_103, i_104, i_105, i_106, i_107, i_108, i_109, i_110, i_111, i_112, i_113, i_122, i_200, i_255, i_256, i_257, i_258, i_355, i_400, i_999, i_1000, i_1200, i_5680, i_9999, i_10000, i_99999, j_0, j_1, j_2, j_3, j_4, j_5, j_6, j_9, j_10, j_11, j_98, j_99, j_100, j_999, j_1000, j_9999, j_10000, j_99999, j_1000000, SB_n hS, SB_mk hS, SB_fm hS, SB_md hS, SB_lv hS, SB_mo hS, SB_mn hS, SB_pr hS, SB_of hS, SB_nt hS, SB_li hS, hle, hl, hH.2, hf, r]
        obtain ⟨μ', e1, e2, e3⟩ := ih n (i + 1) (stI μ 18 (s_mk V i).toNat (I_ (sg i.toNat 0 (g_mn V f (s_mk V i)) + s_mn V i))) (by omega) (by omega) (by omega) (hB.F (P := P_cb) (Fr.rf.stI (Or.inl rfl)) (fun k j hk => by unfold P_cb; omega)) (hH.F (P := P_cb) (Fr.rf.stI (Or.inl rfl)) (by unfold P_cb; omega) (by unfold P_cb; omega)) (fun k k0 k1 => by
          rw [at_I k0 (by omega), sg_step h2, hM k k0 k1]
          by_cases hk : k = s_mk V i
          · rw [if_pos hk, hk]
            have : g_mn V f (s_mk V i) i = s_mn V i := by unfold g_mn; rw [if_pos ⟨by omega, hf, rfl⟩]
            rw [this]
          · rw [if_neg hk]
            have : g_mn V f k i = 0 := by unfold g_mn; rw [if_neg (fun q => hk q.2.2.symm)]
            rw [this, Int.add_zero])
        exact ⟨μ', e1, (Fr.rf.stI (Or.inl rfl)).tr e2, e3⟩
      · simp (disch := omega) only [fX8_chooseBase_30, Int.reduceEq, Int.reduceNe, Int.reduceLT, Int.reduceLE, Int.reduceAdd, Int.reduceSub, Int.reduceMul, Int.reduceNeg, Int.zero_add, Int.add_zero, nm_eq, bd_some, bv_some, aI_ok, aL_ok, aS_ok, dv_ok, dw_ok, I_add, I_sub, I_mul, I_neg, I_lt, I_le, I_eq, I_nat, J_add, J_sub, J_mul, J_neg, J_lt, J_le, J_eq, I_l, J_i, I_div, J_div, b2_0, b2_1, b2_nar, nar_0, nar_1, zr_0, zr_1, zr_b2, cmp_eq, cmp_le, cmp_lt, cmp_gt, cmp_ge, mx_I, mn_I, mx_L, mn_L, az_I, if_true, if_false, i_0, i_1, i_2, i_3, i_4, i_5, i_6, i_7, i_8, i_9, i_10, i_11, i_12, i_16, i_18, i_20, i_24, i_28, i_29, i_30, i_31, i_32, i_33, i_34, i_35, i_37, i_40, i_41, i_42, i_43, i_45, i_46, i_47, i_48, i_57, i_59, i_63, i_64, i_96, i_97, i_98, i_99, i_100, i_101, i_102, i_103, i_104, i_105, i_106, i_107, i_108, i_109, i_110, i_111, i_112, i_113, i_122, i_200, i_255, i_256, i_257, i_258, i_355, i_400, i_999, i_1000, i_1200, i_5680, i_9999, i_10000, i_99999, j_0, j_1, j_2, j_3, j_4, j_5, j_6, j_9, j_10, j_11, j_98, j_99, j_100, j_999, j_1000, j_9999, j_10000, j_99999, j_1000000, SB_n hS, SB_mk hS, SB_fm hS, SB_md hS, SB_lv hS, SB_mo hS, SB_mn hS, SB_pr hS, SB_of hS, SB_nt hS, SB_li hS, hle, hl, hH.2, hf]
        exact skip (by omega)
theorem c_base (hV : vB V) (hN : 100 ≤ N) (f0 : 0 ≤ f) (f1 : f < 4) {μ : Mem} (hB : CB b V μ) (hH : HD b f μ) : ∃ μ', fX8_chooseBase N μ = some ((), μ') ∧ Fr P_cb μ μ' ∧ μ'.1 3 4 = I_ (x_bs V f) := by
  have hn := hV.1
  unfold vN at hn
  obtain ⟨N, rfl⟩ : ∃ m, N = m + 4 := ⟨N - 4, by omega⟩
  let μ3 := stI (stI (stI μ 18 0 (I_ 0)) 18 1 (I_ 0)) 18 2 (I_ 0)
  have hF : Fr P_cb μ μ3 := ((Fr.rf.stI (Or.inl rfl)).stI (Or.inl rfl)).stI (Or.inl rfl)
  have hB3 : CB b V μ3 := hB.F hF (fun k j hk => by unfold P_cb; omega)
  have hH3 : HD b f μ3 := hH.F hF (by unfold P_cb; omega) (by unfold P_cb; omega)
  obtain ⟨μ', e1, e2, e3⟩ := c_base30 (N := N + 4) hV f0 f1 (sN V).toNat (N + 4) 0 μ3 (by omega) (by omega) (by omega) hB3 hH3 (fun k k0 k1 => by
    rcases (show k = 0 ∨ k = 1 ∨ k = 2 by omega) with rfl | rfl | rfl <;> rfl)
  refine ⟨μ', ?_, hF.tr e2, e3⟩
  have h3 : gB (μ3.2.2 3 9) (fun b_2 => fX8_chooseBase_30 (N + 4) (N + 4) b_2 (I_ 0) μ3) = some ((), μ') := by
    rw [hH3.1, gB_ok hB.1]; exact e1
  simp (disch := omega) only [fX8_chooseBase, fX8_chooseBase_2, fX8_chooseBase_20, Int.reduceEq, Int.reduceNe, Int.reduceLT, Int.reduceLE, Int.reduceAdd, Int.reduceSub, Int.reduceMul, Int.reduceNeg, Int.zero_add, Int.add_zero, nm_eq, bd_some, bv_some, aI_ok, aL_ok, aS_ok, dv_ok, dw_ok, I_add, I_sub, I_mul, I_neg, I_lt, I_le, I_eq, I_nat, J_add, J_sub, J_mul, J_neg, J_lt, J_le, J_eq, I_l, J_i, I_div, J_div, b2_0, b2_1, b2_nar, nar_0, nar_1, zr_0, zr_1, zr_b2, cmp_eq, cmp_le, cmp_lt, cmp_gt, cmp_ge, mx_I, mn_I, mx_L, mn_L, az_I, if_true, if_false, i_0, i_1, i_2, i_3, i_4, i_5, i_6, i_7, i_8, i_9, i_10, i_11, i_12, i_16, i_18, i_20, i_24, i_28, i_29, i_30, i_31, i_32, i_33, i_34, i_35, i_37, i_40, i_41, i_42, i_43, i_45, i_46, i_47, i_48, i_57, i_59, i_63, i_64, i_96, i_97, i_98, i_99, i_100, i_101, i_102, i_103, i_104, i_105, i_106, i_107, i_108, i_109, i_110, i_111, i_112, i_113, i_122, i_200, i_255, i_256, i_257, i_258, i_355, i_400, i_999, i_1000, i_1200, i_5680, i_9999, i_10000, i_99999, j_0, j_1, j_2, j_3, j_4, j_5, j_6, j_9, j_10, j_11, j_98, j_99, j_100, j_999, j_1000, j_9999, j_10000, j_99999, j_1000000, Int.zero_add, Int.reduceAdd, Int.reduceLE, Int.reduceToNat]
  exact h3
end
