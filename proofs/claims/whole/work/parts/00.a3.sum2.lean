/-! Signs that wait are settled; atoms. -/
section
variable {T : Int → Int} {n : Int} {N b : Nat} {μ ν : Mem} {s f q0 ad d : Int} {K W : List Int}
theorem r_pop {c : Int} (h : RSt T n ad s f K (c :: W) d ν) (a0 : 0 ≤ ad) : RSt T n ad s f K W d (stI ν 0 29 (I_ W.length)) := by
  obtain ⟨h1, h2, h3, h4, h5, h6, h7⟩ := h
  have gF : Fr (fun k j => k = 0 ∧ j = 29) ν (stI ν 0 29 (I_ W.length)) := Fr.rf.stI ⟨rfl, rfl⟩
  have g' : ∀ k j, k ≠ 0 → (stI ν 0 29 (I_ W.length)).1 k j = ν.1 k j := fun k j a1 => st_ne a1 j
  refine ⟨h1.F gF (fun k j q => by omega), ?_, rsg_fr K _ (by omega) (fun j _ _ => ⟨g' 14 j (by omega), g' 15 j (by omega)⟩) h3, ?_, ?_, at_S, wsg_fr W (fun j _ => g' 17 j (by omega)) h7.2⟩
  · rw [g' 16 _ (by omega)]; exact h2
  · simp (disch := omega) only [st_I, st_I2, st_L1, st_L2, st_R1, st_R2, Nat.reduceEqDiff, Nat.reduceAdd, and_true, true_and, and_false, false_and, and_self, if_false, if_true]; exact h4
  · simp (disch := omega) only [st_I, st_I2, st_L1, st_L2, st_R1, st_R2, Nat.reduceEqDiff, Nat.reduceAdd, and_true, true_and, and_false, false_and, and_self, if_false, if_true]; exact h5
theorem r_settles_l (a0 : 0 ≤ ad) (a2 : ad ≤ 2) {l : Int} (l1 : 1 ≤ l) (l2 : l ≤ 2) (hW : ∀ w W', W = w :: W' → bnd w < l) (w4 : W.length ≤ 400) : ∀ (p K : List Int) (m : Nat) (ν : Mem), p.length < m → K.length + p.length ≤ 400 → p.length + W.length ≤ 400 → (∀ c ∈ p, isO c ∧ l ≤ bnd c) → RSt T n ad s (-1) K (p ++ W) d ν → ∃ ν', fX11_settles_0 N m (I_ l) ν = some ((), ν') ∧ RSt T n ad s (-1) (K ++ p) W d ν' ∧ Fr (P_re ad) ν ν' := by
  intro p
  induction p with
  | nil =>
    intro K m ν hm _ _ _ h
    obtain ⟨m, rfl⟩ : ∃ mm, m = mm + 1 := ⟨m - 1, by omega⟩
    have h' : RSt T n ad s (-1) K W d ν := h
    obtain ⟨h1, h2, h3, h4, h5, h6, h7⟩ := h'
    rw [List.append_nil]
    refine ⟨ν, ?_, h, Fr.rf⟩
    match W, hW, w4, h6, h7 with
    | [], hW, w4, h6, h7 =>
      rw [show (([] : List Int).length : Int) = 0 from rfl] at h6
      simp (disch := omega) only [fX11_settles_0, Int.reduceEq, Int.reduceNe, Int.reduceLT, Int.reduceLE, Int.reduceAdd, Int.reduceSub, Int.reduceMul, Int.reduceNeg, Int.zero_add, Int.add_zero, nm_eq, bd_some, bv_some, aI_ok, aL_ok, aS_ok, dv_ok, dw_ok, I_add, I_sub, I_mul, I_neg, I_lt, I_le, I_eq, I_nat, J_add, J_sub, J_mul, J_neg, J_lt, J_le, J_eq, I_l, J_i, I_div, J_div, b2_0, b2_1, b2_nar, nar_0, nar_1, zr_0, zr_1, zr_b2, cmp_eq, cmp_le, cmp_lt, cmp_gt, cmp_ge, mx_I, mn_I, mx_L, mn_L, az_I, if_true, if_false, not_true_eq_false, not_false_eq_true, Bool.false_eq_true, i_0, i_1, i_2, i_3, i_4, i_5, i_6, i_7, i_8, i_9, i_10, i_11, i_12, i_16, i_18, i_20, i_24, i_28, i_29, i_30, i_31, i_32, i_33, i_34, i_35, i_37, i_40, i_41, i_42, i_43, i_45, i_46, i_47, i_48, i_57, i_59, i_63, i_64, i_96, i_97, i_98, i_99, i_100, i_101, i_102, i_103, i_104, i_105, i_106, i_107, i_108, i_109, i_110, i_111, i_112, i_113, i_122, i_200, i_255, i_256, i_257, i_258, i_355, i_400, i_999, i_1000, i_1200, i_5680, i_9999, i_10000, i_99999, j_0, j_1, j_2, j_3, j_4, j_5, j_6, j_9, j_10, j_11, j_98, j_99, j_100, j_999, j_1000, j_9999, j_10000, j_99999, j_1000000, h6]
    | w :: W', hW, w4, h6, h7 =>
      have hw := hW w W' rfl
      have hl : (((w :: W').length : Nat) : Int) = (W'.length : Int) + 1 := rfl
      have hl' : (w :: W').length = W'.length + 1 := rfl
      rw [hl] at h6
      have n0 : ¬ (W'.length : Int) + 1 ≤ 0 := by omega
      have e1 : (W'.length : Int) + 1 - 1 = (W'.length : Int) := by omega
      have b0 : 0 ≤ bnd w ∧ bnd w ≤ 2 := by unfold bnd; (repeat' split) <;> omega
      have w0 : ((W'.length : Nat) : Int).toNat = W'.length := Int.toNat_natCast _
      simp (disch := omega) only [fX11_settles_0, Int.reduceEq, Int.reduceNe, Int.reduceLT, Int.reduceLE, Int.reduceAdd, Int.reduceSub, Int.reduceMul, Int.reduceNeg, Int.zero_add, Int.add_zero, nm_eq, bd_some, bv_some, aI_ok, aL_ok, aS_ok, dv_ok, dw_ok, I_add, I_sub, I_mul, I_neg, I_lt, I_le, I_eq, I_nat, J_add, J_sub, J_mul, J_neg, J_lt, J_le, J_eq, I_l, J_i, I_div, J_div, b2_0, b2_1, b2_nar, nar_0, nar_1, zr_0, zr_1, zr_b2, cmp_eq, cmp_le, cmp_lt, cmp_gt, cmp_ge, mx_I, mn_I, mx_L, mn_L, az_I, if_true, if_false, not_true_eq_false, not_false_eq_true, Bool.false_eq_true, i_0, i_1, i_2, i_3, i_4, i_5, i_6, i_7, i_8, i_9, i_10, i_11, i_12, i_16, i_18, i_20, i_24, i_28, i_29, i_30, i_31, i_32, i_33, i_34, i_35, i_37, i_40, i_41, i_42, i_43, i_45, i_46, i_47, i_48, i_57, i_59, i_63, i_64, i_96, i_97, i_98, i_99, i_100, i_101, i_102, i_103, i_104, i_105, i_106, i_107, i_108, i_109, i_110, i_111, i_112, i_113, i_122, i_200, i_255, i_256, i_257, i_258, i_355, i_400, i_999, i_1000, i_1200, i_5680, i_9999, i_10000, i_99999, j_0, j_1, j_2, j_3, j_4, j_5, j_6, j_9, j_10, j_11, j_98, j_99, j_100, j_999, j_1000, j_9999, j_10000, j_99999, j_1000000, h6, n0, e1, w0, h7.1.1, r_binds h7.1.2, hw]
  | cons c p ih =>
    intro K m ν hm hK hpW hp h
    obtain ⟨m, rfl⟩ : ∃ mm, m = mm + 1 := ⟨m - 1, by omega⟩
    have hm' : p.length + 1 < m + 1 := hm
    have hK' : K.length + (p.length + 1) ≤ 400 := hK
    have hpW' : p.length + 1 + W.length ≤ 400 := hpW
    have hc := hp c (List.mem_cons_self ..)
    have hpop := r_pop (W := p ++ W) h a0
    obtain ⟨h1, h2, h3, h4, h5, h6, h7⟩ := h
    have hln : (p ++ W).length = p.length + W.length := List.length_append
    have hl : (((c :: p ++ W).length : Nat) : Int) = ((p ++ W).length : Int) + 1 := rfl
    rw [hl] at h6
    obtain ⟨ν1, e1, e2, e3⟩ := r_emits (N := N) a0 a2 hpop (by omega) c
    obtain ⟨ν2, i1, i2, i3⟩ := ih (K ++ [c]) m ν1 (by omega) (by rw [List.length_append]; show K.length + 1 + p.length ≤ 400; omega) (by omega) (fun x hx => hp x (List.mem_cons_of_mem _ hx)) e2
    rw [List.append_assoc] at i2
    refine ⟨ν2, ?_, i2, Fr.tr (Fr.tr (Fr.rf.stI (Or.inl ⟨rfl, rfl⟩)) e3) i3⟩
    have n0 : ¬ ((p ++ W).length : Int) + 1 ≤ 0 := by omega
    have q1 : ((p ++ W).length : Int) + 1 - 1 = ((p ++ W).length : Int) := by omega
    have b0 : 0 ≤ bnd c ∧ bnd c ≤ 2 := by unfold bnd; (repeat' split) <;> omega
    have nb : ¬ bnd c < l := by omega
    have w0 : (((p ++ W).length : Nat) : Int).toNat = (p ++ W).length := Int.toNat_natCast _
    rw [(rA_op hc.1).1, (rA_op hc.1).2] at e1
    have hv : ν.1 17 (p ++ W).length = I_ (wW c) := h7.1.1
    simp (disch := omega) only [fX11_settles_0, Int.reduceEq, Int.reduceNe, Int.reduceLT, Int.reduceLE, Int.reduceAdd, Int.reduceSub, Int.reduceMul, Int.reduceNeg, Int.zero_add, Int.add_zero, nm_eq, bd_some, bv_some, aI_ok, aL_ok, aS_ok, dv_ok, dw_ok, I_add, I_sub, I_mul, I_neg, I_lt, I_le, I_eq, I_nat, J_add, J_sub, J_mul, J_neg, J_lt, J_le, J_eq, I_l, J_i, I_div, J_div, b2_0, b2_1, b2_nar, nar_0, nar_1, zr_0, zr_1, zr_b2, cmp_eq, cmp_le, cmp_lt, cmp_gt, cmp_ge, mx_I, mn_I, mx_L, mn_L, az_I, if_true, if_false, not_true_eq_false, not_false_eq_true, Bool.false_eq_true, i_0, i_1, i_2, i_3, i_4, i_5, i_6, i_7, i_8, i_9, i_10, i_11, i_12, i_16, i_18, i_20, i_24, i_28, i_29, i_30, i_31, i_32, i_33, i_34, i_35, i_37, i_40, i_41, i_42, i_43, i_45, i_46, i_47, i_48, i_57, i_59, i_63, i_64, i_96, i_97, i_98, i_99, i_100, i_101, i_102, i_103, i_104, i_105, i_106, i_107, i_108, i_109, i_110, i_111, i_112, i_113, i_122, i_200, i_255, i_256, i_257, i_258, i_355, i_400, i_999, i_1000, i_1200, i_5680, i_9999, i_10000, i_99999, j_0, j_1, j_2, j_3, j_4, j_5, j_6, j_9, j_10, j_11, j_98, j_99, j_100, j_999, j_1000, j_9999, j_10000, j_99999, j_1000000, h6, n0, q1, w0, hv, r_binds h7.1.2, nb, st_I, st_I2, st_L1, st_L2, st_R1, st_R2, Nat.reduceEqDiff, Nat.reduceAdd, and_true, true_and, and_false, false_and, and_self, if_false, if_true, st_ne, e1, i1]
theorem r_settles (a0 : 0 ≤ ad) (a2 : ad ≤ 2) (hN : 500 ≤ N) {l : Int} (l1 : 1 ≤ l) (l2 : l ≤ 2) (hW : ∀ w W', W = w :: W' → bnd w < l) {p : List Int} (hk : K.length + p.length ≤ 400) (hp4 : p.length + W.length ≤ 400) (hp : ∀ c ∈ p, isO c ∧ l ≤ bnd c) (h : RSt T n ad s (-1) K (p ++ W) d ν) : ∃ ν', fX11_settles N (I_ l) ν = some ((), ν') ∧ RSt T n ad s (-1) (K ++ p) W d ν' ∧ Fr (P_re ad) ν ν' := r_settles_l a0 a2 l1 l2 hW (by omega) p K N ν (by omega) hk hp4 hp h
theorem r_settlesf_l (hf : ¬ f = -1) (a0 : 0 ≤ ad) {l : Int} (l1 : 1 ≤ l) (l2 : l ≤ 2) : ∀ (W : List Int) (m : Nat) (ν : Mem), W.length < m → W.length ≤ 400 → RSt T n ad s f K W d ν → ∃ ν', fX11_settles_0 N m (I_ l) ν = some ((), ν') ∧ RR T n s f ν' ∧ Fr (P_rs ad) ν ν' := by
  intro W
  induction W with
  | nil =>
    intro m ν hm _ h
    obtain ⟨m, rfl⟩ : ∃ mm, m = mm + 1 := ⟨m - 1, by omega⟩
    obtain ⟨h1, h2, h3, h4, h5, h6, h7⟩ := h
    rw [show (([] : List Int).length : Int) = 0 from rfl] at h6
    refine ⟨ν, ?_, h1, Fr.rf⟩
    simp (disch := omega) only [fX11_settles_0, Int.reduceEq, Int.reduceNe, Int.reduceLT, Int.reduceLE, Int.reduceAdd, Int.reduceSub, Int.reduceMul, Int.reduceNeg, Int.zero_add, Int.add_zero, nm_eq, bd_some, bv_some, aI_ok, aL_ok, aS_ok, dv_ok, dw_ok, I_add, I_sub, I_mul, I_neg, I_lt, I_le, I_eq, I_nat, J_add, J_sub, J_mul, J_neg, J_lt, J_le, J_eq, I_l, J_i, I_div, J_div, b2_0, b2_1, b2_nar, nar_0, nar_1, zr_0, zr_1, zr_b2, cmp_eq, cmp_le, cmp_lt, cmp_gt, cmp_ge, mx_I, mn_I, mx_L, mn_L, az_I, if_true, if_false, not_true_eq_false, not_false_eq_true, Bool.false_eq_true, i_0, i_1, i_2, i_3, i_4, i_5, i_6, i_7, i_8, i_9, i_10, i_11, i_12, i_16, i_18, i_20, i_24, i_28, i_29, i_30, i_31, i_32, i_33, i_34, i_35, i_37, i_40, i_41, i_42, i_43, i_45, i_46, i_47, i_48, i_57, i_59, i_63, i_64, i_96, i_97, i_98, i_99, i_100, i_101, i_102, i_103, i_104, i_105, i_106, i_107, i_108, i_109, i_110, i_111, i_112, i_113, i_122, i_200, i_255, i_256, i_257, i_258, i_355, i_400, i_999, i_1000, i_1200, i_5680, i_9999, i_10000, i_99999, j_0, j_1, j_2, j_3, j_4, j_5, j_6, j_9, j_10, j_11, j_98, j_99, j_100, j_999, j_1000, j_9999, j_10000, j_99999, j_1000000, h6]
  | cons c W ih =>
    intro m ν hm h4' h
    obtain ⟨m, rfl⟩ : ∃ mm, m = mm + 1 := ⟨m - 1, by omega⟩
    have hm' : W.length + 1 < m + 1 := hm
    have h4'' : W.length + 1 ≤ 400 := h4'
    have hpop := r_pop (W := W) h a0
    obtain ⟨h1, h2, h3, h4, h5, h6, h7⟩ := h
    have hl : (((c :: W).length : Nat) : Int) = (W.length : Int) + 1 := rfl
    rw [hl] at h6
    have n0 : ¬ (W.length : Int) + 1 ≤ 0 := by omega
    have e1 : (W.length : Int) + 1 - 1 = (W.length : Int) := by omega
    have b0 : 0 ≤ bnd c ∧ bnd c ≤ 2 := by unfold bnd; (repeat' split) <;> omega
    have w0 : ((W.length : Nat) : Int).toNat = W.length := Int.toNat_natCast _
    by_cases nb : bnd c < l
    · refine ⟨ν, ?_, h1, Fr.rf⟩
      simp (disch := omega) only [fX11_settles_0, Int.reduceEq, Int.reduceNe, Int.reduceLT, Int.reduceLE, Int.reduceAdd, Int.reduceSub, Int.reduceMul, Int.reduceNeg, Int.zero_add, Int.add_zero, nm_eq, bd_some, bv_some, aI_ok, aL_ok, aS_ok, dv_ok, dw_ok, I_add, I_sub, I_mul, I_neg, I_lt, I_le, I_eq, I_nat, J_add, J_sub, J_mul, J_neg, J_lt, J_le, J_eq, I_l, J_i, I_div, J_div, b2_0, b2_1, b2_nar, nar_0, nar_1, zr_0, zr_1, zr_b2, cmp_eq, cmp_le, cmp_lt, cmp_gt, cmp_ge, mx_I, mn_I, mx_L, mn_L, az_I, if_true, if_false, not_true_eq_false, not_false_eq_true, Bool.false_eq_true, i_0, i_1, i_2, i_3, i_4, i_5, i_6, i_7, i_8, i_9, i_10, i_11, i_12, i_16, i_18, i_20, i_24, i_28, i_29, i_30, i_31, i_32, i_33, i_34, i_35, i_37, i_40, i_41, i_42, i_43, i_45, i_46, i_47, i_48, i_57, i_59, i_63, i_64, i_96, i_97, i_98, i_99, i_100, i_101, i_102, i_103, i_104, i_105, i_106, i_107, i_108, i_109, i_110, i_111, i_112, i_113, i_122, i_200, i_255, i_256, i_257, i_258, i_355, i_400, i_999, i_1000, i_1200, i_5680, i_9999, i_10000, i_99999, j_0, j_1, j_2, j_3, j_4, j_5, j_6, j_9, j_10, j_11, j_98, j_99, j_100, j_999, j_1000, j_9999, j_10000, j_99999, j_1000000, h6, n0, e1, w0, h7.1.1, r_binds h7.1.2, nb]
    · obtain ⟨ν2, i1, i2, i3⟩ := ih m _ (by omega) (by omega) hpop
      refine ⟨ν2, ?_, i2, Fr.tr (Fr.rf.stI (Or.inl ⟨rfl, by omega⟩)) i3⟩
      have em := fun x y => r_emitsf (N := N) hpop.1 hf x y
      simp (disch := omega) only [fX11_settles_0, Int.reduceEq, Int.reduceNe, Int.reduceLT, Int.reduceLE, Int.reduceAdd, Int.reduceSub, Int.reduceMul, Int.reduceNeg, Int.zero_add, Int.add_zero, nm_eq, bd_some, bv_some, aI_ok, aL_ok, aS_ok, dv_ok, dw_ok, I_add, I_sub, I_mul, I_neg, I_lt, I_le, I_eq, I_nat, J_add, J_sub, J_mul, J_neg, J_lt, J_le, J_eq, I_l, J_i, I_div, J_div, b2_0, b2_1, b2_nar, nar_0, nar_1, zr_0, zr_1, zr_b2, cmp_eq, cmp_le, cmp_lt, cmp_gt, cmp_ge, mx_I, mn_I, mx_L, mn_L, az_I, if_true, if_false, not_true_eq_false, not_false_eq_true, Bool.false_eq_true, i_0, i_1, i_2, i_3, i_4, i_5, i_6, i_7, i_8, i_9, i_10, i_11, i_12, i_16, i_18, i_20, i_24, i_28, i_29, i_30, i_31, i_32, i_33, i_34, i_35, i_37, i_40, i_41, i_42, i_43, i_45, i_46, i_47, i_48, i_57, i_59, i_63, i_64, i_96, i_97, i_98, i_99, i_100, i_101, i_102, i_103, i_104, i_105, i_106, i_107, i_108, i_109, i_110, i_111, i_112, i_113, i_122, i_200, i_255, i_256, i_257, i_258, i_355, i_400, i_999, i_1000, i_1200, i_5680, i_9999, i_10000, i_99999, j_0, j_1, j_2, j_3, j_4, j_5, j_6, j_9, j_10, j_11, j_98, j_99, j_100, j_999, j_1000, j_9999, j_10000, j_99999, j_1000000, h6, n0, e1, w0, h7.1.1, r_binds h7.1.2, nb, st_I, st_I2, st_L1, st_L2, st_R1, st_R2, Nat.reduceEqDiff, Nat.reduceAdd, and_true, true_and, and_false, false_and, and_self, if_false, if_true, st_ne, em, i1]
theorem r_settlesf (hf : ¬ f = -1) (a0 : 0 ≤ ad) (hN : 500 ≤ N) {l : Int} (l1 : 1 ≤ l) (l2 : l ≤ 2) (w4 : W.length ≤ 400) (h : RSt T n ad s f K W d ν) : ∃ ν', fX11_settles N (I_ l) ν = some ((), ν') ∧ RR T n s f ν' ∧ Fr (P_rs ad) ν ν' := r_settlesf_l hf a0 l1 l2 W N ν (by omega) w4 h
/-! atoms but brackets -/
def lcd (c : Int) : Int := if c = 113 then -1 else if c = 112 then -2 else if c = 108 then -3 else if c = 109 then -4 else if c = 99 then -5 else 0
theorem lcd_in (c : Int) : -5 ≤ lcd c ∧ lcd c ≤ 0 := by unfold lcd; (repeat' split) <;> omega
def lfK (T : Int → Int) (n s : Int) : Bool := decide ((kd T n s = 257 ∧ te T n s - s ≤ 4) ∨ (kd T n s = 256 ∧ te T n s - s = 1 ∧ ¬ lcd (T s) = 0))
theorem lfK_y : (lfK T n s = true) = ((kd T n s = 257 ∧ te T n s - s ≤ 4) ∨ (kd T n s = 256 ∧ te T n s - s = 1 ∧ ¬ lcd (T s) = 0)) := by unfold lfK; exact propext decide_eq_true_iff
def lfC (T : Int → Int) (n s : Int) : Int := if kd T n s = 257 then nv T n s else lcd (T s)
theorem dg_in4 : ∀ (d : Nat) (i : Int), d ≤ 4 → (∀ j, i ≤ j → j < i + d → cDi (T j) = true) → 0 ≤ dg T d i 0 ∧ dg T d i 0 ≤ 9999 := by
  intro d i hd h
  have q : ∀ j, i ≤ j → j < i + d → 48 ≤ T j ∧ T j ≤ 57 := fun j a c => by have := h j a c; rw [cDi_y] at this; exact this
  match d, hd, q with
  | 0, _, q => show 0 ≤ (0 : Int) ∧ (0 : Int) ≤ 9999; omega
  | 1, _, q =>
    have q0 := q i (by omega) (by omega)
    unfold dg dg; omega
  | 2, _, q =>
    have q0 := q i (by omega) (by omega)
    have q1 := q (i + 1) (by omega) (by omega)
    unfold dg dg dg; omega
  | 3, _, q =>
    have q0 := q i (by omega) (by omega)
    have q1 := q (i + 1) (by omega) (by omega)
    have q2 := q (i + 1 + 1) (by omega) (by omega)
    unfold dg dg dg dg; omega
  | 4, _, q =>
    have q0 := q i (by omega) (by omega)
    have q1 := q (i + 1) (by omega) (by omega)
    have q2 := q (i + 1 + 1) (by omega) (by omega)
    have q3 := q (i + 1 + 1 + 1) (by omega) (by omega)
    unfold dg dg dg dg dg; omega
theorem nv_in4 (hT : tB T n) (h : kd T n s = 257) (hd : te T n s - s ≤ 4) : 0 ≤ nv T n s ∧ nv T n s ≤ 9999 := by
  obtain ⟨h1, h2, h3, h4⟩ := kd_257 h hT
  have hi := te_in (T := T) (n := n) (s := s) (by omega)
  refine dg_in4 (te T n s - s).toNat s (by omega) (fun j a c => ?_)
  refine sca_all (n - s).toNat s j a ?_
  show j < de T n s
  omega
theorem lfC_in (hT : tB T n) (h : lfK T n s = true) : -5 ≤ lfC T n s ∧ lfC T n s ≤ 9999 := by
  rw [lfK_y] at h
  unfold lfC
  rcases h with h | h
  · rw [if_pos h.1]
    have := nv_in4 hT h.1 h.2
    omega
  · rw [if_neg (by omega)]
    have := lcd_in (T s)
    omega
def lcF (x : Int32) : Int32 := if x = (99 : Int32) then (-5 : Int32) else if x = (100 : Int32) then (0 : Int32) else if x = (101 : Int32) then (0 : Int32) else if x = (102 : Int32) then (0 : Int32) else if x = (103 : Int32) then (0 : Int32) else if x = (104 : Int32) then (0 : Int32) else if x = (105 : Int32) then (0 : Int32) else if x = (106 : Int32) then (0 : Int32) else if x = (107 : Int32) then (0 : Int32) else if x = (108 : Int32) then (-3 : Int32) else if x = (109 : Int32) then (-4 : Int32) else if x = (110 : Int32) then (0 : Int32) else if x = (111 : Int32) then (0 : Int32) else if x = (112 : Int32) then (-2 : Int32) else if x = (113 : Int32) then (-1 : Int32) else (0 : Int32)
theorem lcF_I {x : Int} (h0 : -128 ≤ x) (h1 : x ≤ 127) : lcF (I_ x) = I_ (lcd x) := by
  have q : ∀ k : Fin 256, lcF (I_ ((k.1 : Int) - 128)) = I_ (lcd ((k.1 : Int) - 128)) := by decide +kernel
  have := q ⟨(x + 128).toNat, by omega⟩
  rw [show (((x + 128).toNat : Nat) : Int) - 128 = x by omega] at this
  exact this
theorem ite_s {p : Prop} [Decidable p] {a c : Int32} {μ : Mem} : (if p then some (a, μ) else some (c, μ)) = some (if p then a else c, μ) := by split <;> rfl
theorem c_lcode (hC : CR T n b s f μ) (n1 : n ≤ 400) (hs : s < n) (hT : tB T n) : fX5_letterCode N μ = some (I_ (lcd (T s)), μ) := by
  have h8 := hC.2.2.2.2.2.2.2.1
  have hv := hC.2.2.2.2.2.2.1 s (by omega) hs
  have bs := hT.2.2 s
  have e : fX5_letterCode N μ = some (lcF (I_ (T s)), μ) := by
    unfold fX5_letterCode lcF
    rw [nm_eq, hC.2.2.1, aI_ok (by omega) (by omega) (by omega), hv]
    simp only [ite_s]
  rw [e, lcF_I bs.1 bs.2]
theorem c_leaf (hT : tB T n) (hN : 500 ≤ N) (hb : kB b) (h0 : 0 ≤ q0) {rs : Int32 → Mem → Option (Unit × Mem)} (d0 : 0 ≤ d) (d1 : d ≤ 6) (hq : ¬ (kd T n s = 40 ∧ d < 6)) (h : CSt T n b q0 s (-1) K μ) (hl : q0 + K.length ≤ s) : ∃ μ', fX5_readAtom N rs (I_ d) μ = some ((), μ') ∧ Fr (P_cs b q0) μ μ' ∧ (lfK T n s = true → CSt T n b q0 (nx T n s) (-1) (K ++ [lfC T n s]) μ') ∧ (¬ lfK T n s = true → CSf T n b q0 s s μ') := by
  have hk := kd_in hT s
  have n1 := hT.2.1
  have hC := h.1
  have h8 := hC.2.2.2.2.2.2.2.1
  have ht := te_in (T := T) (n := n) (s := s) (by omega)
  have hgB : ∀ {β : Type} (k : Nat → Option β), gB b k = k b := fun k => if_pos hb
  have e44 : fX5_readAtom N rs (I_ d) μ = fX5_readAtom_44 N rs μ := by
    by_cases q : kd T n s = 40
    · have q6 : 6 ≤ d := by omega
      simp (disch := omega) only [fX5_readAtom, Int.reduceEq, Int.reduceNe, Int.reduceLT, Int.reduceLE, Int.reduceAdd, Int.reduceSub, Int.reduceMul, Int.reduceNeg, Int.zero_add, Int.add_zero, nm_eq, bd_some, bv_some, aI_ok, aL_ok, aS_ok, dv_ok, dw_ok, I_add, I_sub, I_mul, I_neg, I_lt, I_le, I_eq, I_nat, J_add, J_sub, J_mul, J_neg, J_lt, J_le, J_eq, I_l, J_i, I_div, J_div, b2_0, b2_1, b2_nar, nar_0, nar_1, zr_0, zr_1, zr_b2, cmp_eq, cmp_le, cmp_lt, cmp_gt, cmp_ge, mx_I, mn_I, mx_L, mn_L, az_I, if_true, if_false, not_true_eq_false, not_false_eq_true, Bool.false_eq_true, i_0, i_1, i_2, i_3, i_4, i_5, i_6, i_7, i_8, i_9, i_10, i_11, i_12, i_16, i_18, i_20, i_24, i_28, i_29, i_30, i_31, i_32, i_33, i_34, i_35, i_37, i_40, i_41, i_42, i_43, i_45, i_46, i_47, i_48, i_57, i_59, i_63, i_64, i_96, i_97, i_98, i_99, i_100, i_101, i_102, i_103, i_104, i_105, i_106, i_107, i_108, i_109, i_110, i_111, i_112, i_113, i_122, i_200, i_255, i_256, i_257, i_258, i_355, i_400, i_999, i_1000, i_1200, i_5680, i_9999, i_10000, i_99999, j_0, j_1, j_2, j_3, j_4, j_5, j_6, j_9, j_10, j_11, j_98, j_99, j_100, j_999, j_1000, j_9999, j_10000, j_99999, j_1000000, hC.2.1, hC.2.2.2.1, q, q6]
    · simp (disch := omega) only [fX5_readAtom, Int.reduceEq, Int.reduceNe, Int.reduceLT, Int.reduceLE, Int.reduceAdd, Int.reduceSub, Int.reduceMul, Int.reduceNeg, Int.zero_add, Int.add_zero, nm_eq, bd_some, bv_some, aI_ok, aL_ok, aS_ok, dv_ok, dw_ok, I_add, I_sub, I_mul, I_neg, I_lt, I_le, I_eq, I_nat, J_add, J_sub, J_mul, J_neg, J_lt, J_le, J_eq, I_l, J_i, I_div, J_div, b2_0, b2_1, b2_nar, nar_0, nar_1, zr_0, zr_1, zr_b2, cmp_eq, cmp_le, cmp_lt, cmp_gt, cmp_ge, mx_I, mn_I, mx_L, mn_L, az_I, if_true, if_false, not_true_eq_false, not_false_eq_true, Bool.false_eq_true, i_0, i_1, i_2, i_3, i_4, i_5, i_6, i_7, i_8, i_9, i_10, i_11, i_12, i_16, i_18, i_20, i_24, i_28, i_29, i_30, i_31, i_32, i_33, i_34, i_35, i_37, i_40, i_41, i_42, i_43, i_45, i_46, i_47, i_48, i_57, i_59, i_63, i_64, i_96, i_97, i_98, i_99, i_100, i_101, i_102, i_103, i_104, i_105, i_106, i_107, i_108, i_109, i_110, i_111, i_112, i_113, i_122, i_200, i_255, i_256, i_257, i_258, i_355, i_400, i_999, i_1000, i_1200, i_5680, i_9999, i_10000, i_99999, j_0, j_1, j_2, j_3, j_4, j_5, j_6, j_9, j_10, j_11, j_98, j_99, j_100, j_999, j_1000, j_9999, j_10000, j_99999, j_1000000, hC.2.1, hC.2.2.2.1, q]
  rw [e44]
  by_cases hlf : lfK T n s = true
  · have hlf' := hlf
    rw [lfK_y] at hlf'
    rcases hlf' with ⟨k7, k4⟩ | ⟨k6, k1, k0⟩
    · have hv := nv_in4 hT k7 k4
      have hd := c_dig (N := N) hC n1 (te T n s - s).toNat N s 0 (by omega) (by omega) (by omega)
      have hd' : fX5_digits N μ = some (I_ (nv T n s), μ) := by
        unfold fX5_digits
        rw [nm_eq, hC.2.2.1]
        exact hd
      have ks := (kd_257 k7 hT).1
      obtain ⟨μ1, e1, e2, e3⟩ := c_emit (N := N) hb h0 h (by omega) (nv T n s)
      obtain ⟨μ2, s1, s2, s3⟩ := c_step hT hN e2.1
      have k5 : ¬ 4 < te T n s - s := by omega
      have ec : lfC T n s = nv T n s := if_pos k7
      refine ⟨μ2, ?_, e3.tr (s3.mono (fun k j q => P1_cs q)), fun _ => ?_, fun q => absurd hlf q⟩
      · simp (disch := omega) only [fX5_readAtom_44, Int.reduceEq, Int.reduceNe, Int.reduceLT, Int.reduceLE, Int.reduceAdd, Int.reduceSub, Int.reduceMul, Int.reduceNeg, Int.zero_add, Int.add_zero, nm_eq, bd_some, bv_some, aI_ok, aL_ok, aS_ok, dv_ok, dw_ok, I_add, I_sub, I_mul, I_neg, I_lt, I_le, I_eq, I_nat, J_add, J_sub, J_mul, J_neg, J_lt, J_le, J_eq, I_l, J_i, I_div, J_div, b2_0, b2_1, b2_nar, nar_0, nar_1, zr_0, zr_1, zr_b2, cmp_eq, cmp_le, cmp_lt, cmp_gt, cmp_ge, mx_I, mn_I, mx_L, mn_L, az_I, if_true, if_false, not_true_eq_false, not_false_eq_true, Bool.false_eq_true, i_0, i_1, i_2, i_3, i_4, i_5, i_6, i_7, i_8, i_9, i_10, i_11, i_12, i_16, i_18, i_20, i_24, i_28, i_29, i_30, i_31, i_32, i_33, i_34, i_35, i_37, i_40, i_41, i_42, i_43, i_45, i_46, i_47, i_48, i_57, i_59, i_63, i_64, i_96, i_97, i_98, i_99, i_100, i_101, i_102, i_103, i_104, i_105, i_106, i_107, i_108, i_109, i_110, i_111, i_112, i_113, i_122, i_200, i_255, i_256, i_257, i_258, i_355, i_400, i_999, i_1000, i_1200, i_5680, i_9999, i_10000, i_99999, j_0, j_1, j_2, j_3, j_4, j_5, j_6, j_9, j_10, j_11, j_98, j_99, j_100, j_999, j_1000, j_9999, j_10000, j_99999, j_1000000, hC.2.2.2.1, hC.2.2.1, hC.2.2.2.2.1, k7, k5, hC.2.2.2.2.2.1, hgB, hd', e1, s1]
      · rw [ec]; exact e2.P1 hb s3 s2 h0
    · have w1 := kd_256 k6 hT
      have hlc := c_lcode (N := N) hC n1 w1.1 hT
      have lb := lcd_in (T s)
      obtain ⟨μ1, e1, e2, e3⟩ := c_emit (N := N) hb h0 h (by omega) (lcd (T s))
      obtain ⟨μ2, s1, s2, s3⟩ := c_step hT hN e2.1
      have ec : lfC T n s = lcd (T s) := if_neg (by omega)
      refine ⟨μ2, ?_, e3.tr (s3.mono (fun k j q => P1_cs q)), fun _ => ?_, fun q => absurd hlf q⟩
      · simp (disch := omega) only [fX5_readAtom_44, fX5_readAtom_88, Int.reduceEq, Int.reduceNe, Int.reduceLT, Int.reduceLE, Int.reduceAdd, Int.reduceSub, Int.reduceMul, Int.reduceNeg, Int.zero_add, Int.add_zero, nm_eq, bd_some, bv_some, aI_ok, aL_ok, aS_ok, dv_ok, dw_ok, I_add, I_sub, I_mul, I_neg, I_lt, I_le, I_eq, I_nat, J_add, J_sub, J_mul, J_neg, J_lt, J_le, J_eq, I_l, J_i, I_div, J_div, b2_0, b2_1, b2_nar, nar_0, nar_1, zr_0, zr_1, zr_b2, cmp_eq, cmp_le, cmp_lt, cmp_gt, cmp_ge, mx_I, mn_I, mx_L, mn_L, az_I, if_true, if_false, not_true_eq_false, not_false_eq_true, Bool.false_eq_true, i_0, i_1, i_2, i_3, i_4, i_5, i_6, i_7, i_8, i_9, i_10, i_11, i_12, i_16, i_18, i_20, i_24, i_28, i_29, i_30, i_31, i_32, i_33, i_34, i_35, i_37, i_40, i_41, i_42, i_43, i_45, i_46, i_47, i_48, i_57, i_59, i_63, i_64, i_96, i_97, i_98, i_99, i_100, i_101, i_102, i_103, i_104, i_105, i_106, i_107, i_108, i_109, i_110, i_111, i_112, i_113, i_122, i_200, i_255, i_256, i_257, i_258, i_355, i_400, i_999, i_1000, i_1200, i_5680, i_9999, i_10000, i_99999, j_0, j_1, j_2, j_3, j_4, j_5, j_6, j_9, j_10, j_11, j_98, j_99, j_100, j_999, j_1000, j_9999, j_10000, j_99999, j_1000000, hC.2.2.2.1, hC.2.2.1, hC.2.2.2.2.1, k6, k1, hlc, k0, hC.2.2.2.2.2.1, hgB, e1, s1]
      · rw [ec]; exact e2.P1 hb s3 s2 h0
  · have hfl := c_fail (N := N) hC n1
    rw [if_pos rfl] at hfl
    obtain ⟨μ1, e1, e2, e3⟩ := hfl
    have hF := (h.toF (by omega)).P1 hb e3 e2
    refine ⟨μ1, ?_, e3.mono (fun k j q => P1_cs q), fun q => absurd q hlf, fun _ => hF⟩
    rw [lfK_y] at hlf
    have e88 : kd T n s = 257 → fX5_readAtom_44 N rs μ = fX5_readAtom_88 N rs μ := fun k7 => by
      have k5 : 4 < te T n s - s := by omega
      simp (disch := omega) only [fX5_readAtom_44, Int.reduceEq, Int.reduceNe, Int.reduceLT, Int.reduceLE, Int.reduceAdd, Int.reduceSub, Int.reduceMul, Int.reduceNeg, Int.zero_add, Int.add_zero, nm_eq, bd_some, bv_some, aI_ok, aL_ok, aS_ok, dv_ok, dw_ok, I_add, I_sub, I_mul, I_neg, I_lt, I_le, I_eq, I_nat, J_add, J_sub, J_mul, J_neg, J_lt, J_le, J_eq, I_l, J_i, I_div, J_div, b2_0, b2_1, b2_nar, nar_0, nar_1, zr_0, zr_1, zr_b2, cmp_eq, cmp_le, cmp_lt, cmp_gt, cmp_ge, mx_I, mn_I, mx_L, mn_L, az_I, if_true, if_false, not_true_eq_false, not_false_eq_true, Bool.false_eq_true, i_0, i_1, i_2, i_3, i_4, i_5, i_6, i_7, i_8, i_9, i_10, i_11, i_12, i_16, i_18, i_20, i_24, i_28, i_29, i_30, i_31, i_32, i_33, i_34, i_35, i_37, i_40, i_41, i_42, i_43, i_45, i_46, i_47, i_48, i_57, i_59, i_63, i_64, i_96, i_97, i_98, i_99, i_100, i_101, i_102, i_103, i_104, i_105, i_106, i_107, i_108, i_109, i_110, i_111, i_112, i_113, i_122, i_200, i_255, i_256, i_257, i_258, i_355, i_400, i_999, i_1000, i_1200, i_5680, i_9999, i_10000, i_99999, j_0, j_1, j_2, j_3, j_4, j_5, j_6, j_9, j_10, j_11, j_98, j_99, j_100, j_999, j_1000, j_9999, j_10000, j_99999, j_1000000, hC.2.2.2.1, hC.2.2.1, hC.2.2.2.2.1, k7, k5]
    by_cases k7 : kd T n s = 257
    · rw [e88 k7]
      simp (disch := omega) only [fX5_readAtom_88, Int.reduceEq, Int.reduceNe, Int.reduceLT, Int.reduceLE, Int.reduceAdd, Int.reduceSub, Int.reduceMul, Int.reduceNeg, Int.zero_add, Int.add_zero, nm_eq, bd_some, bv_some, aI_ok, aL_ok, aS_ok, dv_ok, dw_ok, I_add, I_sub, I_mul, I_neg, I_lt, I_le, I_eq, I_nat, J_add, J_sub, J_mul, J_neg, J_lt, J_le, J_eq, I_l, J_i, I_div, J_div, b2_0, b2_1, b2_nar, nar_0, nar_1, zr_0, zr_1, zr_b2, cmp_eq, cmp_le, cmp_lt, cmp_gt, cmp_ge, mx_I, mn_I, mx_L, mn_L, az_I, if_true, if_false, not_true_eq_false, not_false_eq_true, Bool.false_eq_true, i_0, i_1, i_2, i_3, i_4, i_5, i_6, i_7, i_8, i_9, i_10, i_11, i_12, i_16, i_18, i_20, i_24, i_28, i_29, i_30, i_31, i_32, i_33, i_34, i_35, i_37, i_40, i_41, i_42, i_43, i_45, i_46, i_47, i_48, i_57, i_59, i_63, i_64, i_96, i_97, i_98, i_99, i_100, i_101, i_102, i_103, i_104, i_105, i_106, i_107, i_108, i_109, i_110, i_111, i_112, i_113, i_122, i_200, i_255, i_256, i_257, i_258, i_355, i_400, i_999, i_1000, i_1200, i_5680, i_9999, i_10000, i_99999, j_0, j_1, j_2, j_3, j_4, j_5, j_6, j_9, j_10, j_11, j_98, j_99, j_100, j_999, j_1000, j_9999, j_10000, j_99999, j_1000000, hC.2.2.2.1, k7, e1]
    · by_cases k6 : kd T n s = 256
      · by_cases k1 : te T n s - s = 1
        · have w1 := kd_256 k6 hT
          have hlc := c_lcode (N := N) hC n1 w1.1 hT
          have k0 : lcd (T s) = 0 := by omega
          simp (disch := omega) only [fX5_readAtom_44, fX5_readAtom_88, Int.reduceEq, Int.reduceNe, Int.reduceLT, Int.reduceLE, Int.reduceAdd, Int.reduceSub, Int.reduceMul, Int.reduceNeg, Int.zero_add, Int.add_zero, nm_eq, bd_some, bv_some, aI_ok, aL_ok, aS_ok, dv_ok, dw_ok, I_add, I_sub, I_mul, I_neg, I_lt, I_le, I_eq, I_nat, J_add, J_sub, J_mul, J_neg, J_lt, J_le, J_eq, I_l, J_i, I_div, J_div, b2_0, b2_1, b2_nar, nar_0, nar_1, zr_0, zr_1, zr_b2, cmp_eq, cmp_le, cmp_lt, cmp_gt, cmp_ge, mx_I, mn_I, mx_L, mn_L, az_I, if_true, if_false, not_true_eq_false, not_false_eq_true, Bool.false_eq_true, i_0, i_1, i_2, i_3, i_4, i_5, i_6, i_7, i_8, i_9, i_10, i_11, i_12, i_16, i_18, i_20, i_24, i_28, i_29, i_30, i_31, i_32, i_33, i_34, i_35, i_37, i_40, i_41, i_42, i_43, i_45, i_46, i_47, i_48, i_57, i_59, i_63, i_64, i_96, i_97, i_98, i_99, i_100, i_101, i_102, i_103, i_104, i_105, i_106, i_107, i_108, i_109, i_110, i_111, i_112, i_113, i_122, i_200, i_255, i_256, i_257, i_258, i_355, i_400, i_999, i_1000, i_1200, i_5680, i_9999, i_10000, i_99999, j_0, j_1, j_2, j_3, j_4, j_5, j_6, j_9, j_10, j_11, j_98, j_99, j_100, j_999, j_1000, j_9999, j_10000, j_99999, j_1000000, hC.2.2.2.1, hC.2.2.1, hC.2.2.2.2.1, k6, k1, hlc, k0, e1]
        · simp (disch := omega) only [fX5_readAtom_44, fX5_readAtom_88, Int.reduceEq, Int.reduceNe, Int.reduceLT, Int.reduceLE, Int.reduceAdd, Int.reduceSub, Int.reduceMul, Int.reduceNeg, Int.zero_add, Int.add_zero, nm_eq, bd_some, bv_some, aI_ok, aL_ok, aS_ok, dv_ok, dw_ok, I_add, I_sub, I_mul, I_neg, I_lt, I_le, I_eq, I_nat, J_add, J_sub, J_mul, J_neg, J_lt, J_le, J_eq, I_l, J_i, I_div, J_div, b2_0, b2_1, b2_nar, nar_0, nar_1, zr_0, zr_1, zr_b2, cmp_eq, cmp_le, cmp_lt, cmp_gt, cmp_ge, mx_I, mn_I, mx_L, mn_L, az_I, if_true, if_false, not_true_eq_false, not_false_eq_true, Bool.false_eq_true, i_0, i_1, i_2, i_3, i_4, i_5, i_6, i_7, i_8, i_9, i_10, i_11, i_12, i_16, i_18, i_20, i_24, i_28, i_29, i_30, i_31, i_32, i_33, i_34, i_35, i_37, i_40, i_41, i_42, i_43, i_45, i_46, i_47, i_48, i_57, i_59, i_63, i_64, i_96, i_97, i_98, i_99, i_100, i_101, i_102, i_103, i_104, i_105, i_106, i_107, i_108, i_109, i_110, i_111, i_112, i_113, i_122, i_200, i_255, i_256, i_257, i_258, i_355, i_400, i_999, i_1000, i_1200, i_5680, i_9999, i_10000, i_99999, j_0, j_1, j_2, j_3, j_4, j_5, j_6, j_9, j_10, j_11, j_98, j_99, j_100, j_999, j_1000, j_9999, j_10000, j_99999, j_1000000, hC.2.2.2.1, hC.2.2.1, hC.2.2.2.2.1, k6, k1, e1]
      · simp (disch := omega) only [fX5_readAtom_44, fX5_readAtom_88, Int.reduceEq, Int.reduceNe, Int.reduceLT, Int.reduceLE, Int.reduceAdd, Int.reduceSub, Int.reduceMul, Int.reduceNeg, Int.zero_add, Int.add_zero, nm_eq, bd_some, bv_some, aI_ok, aL_ok, aS_ok, dv_ok, dw_ok, I_add, I_sub, I_mul, I_neg, I_lt, I_le, I_eq, I_nat, J_add, J_sub, J_mul, J_neg, J_lt, J_le, J_eq, I_l, J_i, I_div, J_div, b2_0, b2_1, b2_nar, nar_0, nar_1, zr_0, zr_1, zr_b2, cmp_eq, cmp_le, cmp_lt, cmp_gt, cmp_ge, mx_I, mn_I, mx_L, mn_L, az_I, if_true, if_false, not_true_eq_false, not_false_eq_true, Bool.false_eq_true, i_0, i_1, i_2, i_3, i_4, i_5, i_6, i_7, i_8, i_9, i_10, i_11, i_12, i_16, i_18, i_20, i_24, i_28, i_29, i_30, i_31, i_32, i_33, i_34, i_35, i_37, i_40, i_41, i_42, i_43, i_45, i_46, i_47, i_48, i_57, i_59, i_63, i_64, i_96, i_97, i_98, i_99, i_100, i_101, i_102, i_103, i_104, i_105, i_106, i_107, i_108, i_109, i_110, i_111, i_112, i_113, i_122, i_200, i_255, i_256, i_257, i_258, i_355, i_400, i_999, i_1000, i_1200, i_5680, i_9999, i_10000, i_99999, j_0, j_1, j_2, j_3, j_4, j_5, j_6, j_9, j_10, j_11, j_98, j_99, j_100, j_999, j_1000, j_9999, j_10000, j_99999, j_1000000, hC.2.2.2.1, k7, k6, e1]
/-! the same of the reference -/
theorem isW_one {k : Nat} (hk : lw_ k = 1) : (isW T n s k = true) = (we T n s - s = 1 ∧ I_ (T s) = chS k 0) := by
  unfold isW
  rw [hk]
  unfold mw mw
  rw [Bool.and_true, Bool.and_eq_true, decide_eq_true_iff, decide_eq_true_iff, show s + ((0 : Nat) : Int) = s by omega]
  rfl
theorem r_fact (hT : tB T n) (hN : 500 ≤ N) (hX : RX T n s f ν) (hs : sk T n s = s) : fX11_factHere N ν = some (I_ (if we T n s - s = 1 ∧ ¬ lcd (T s) = 0 then -1 - lcd (T s) else -1), ν) := by
  have bs := hT.2.2 s
  have c0 : chS 30 0 = I_ 113 := rfl
  have c1 : chS 31 0 = I_ 112 := rfl
  have c2 : chS 32 0 = I_ 108 := rfl
  have c3 : chS 33 0 = I_ 109 := rfl
  have c4 : chS 34 0 = I_ 99 := rfl
  have w : ∀ {k : Nat}, k < 35 → fX11_isWord N k ν = some (I_ (b2 (isW T n s k = true)), ν) := fun h => r_isWs hT hN hX hs h
  unfold fX11_factHere
  simp only [bd_some, w (k := 30) (by omega), w (k := 31) (by omega), w (k := 32) (by omega), w (k := 33) (by omega), w (k := 34) (by omega), i_0, b2_0, ite_not]
  have y : ∀ {k : Nat} {c : Int}, lw_ k = 1 → chS k 0 = I_ c → -128 ≤ c → c ≤ 127 → ((isW T n s k = true) ↔ (we T n s - s = 1 ∧ T s = c)) := fun {k c} a1 a2 a3 a4 => by rw [isW_one a1, a2, I_eq (by omega) (by omega) (by omega) (by omega)]
  have y0 := y (k := 30) rfl c0 (by omega) (by omega)
  have y1 := y (k := 31) rfl c1 (by omega) (by omega)
  have y2 := y (k := 32) rfl c2 (by omega) (by omega)
  have y3 := y (k := 33) rfl c3 (by omega) (by omega)
  have y4 := y (k := 34) rfl c4 (by omega) (by omega)
  by_cases h1 : we T n s - s = 1
  · by_cases q0 : T s = 113
    · have : lcd (T s) = -1 := by rw [q0]; rfl
      rw [if_pos (y0.mpr ⟨h1, q0⟩), if_pos ⟨h1, by omega⟩, this]; rfl
    rw [if_neg (fun q => q0 (y0.mp q).2)]
    by_cases q1 : T s = 112
    · have : lcd (T s) = -2 := by rw [q1]; rfl
      rw [if_pos (y1.mpr ⟨h1, q1⟩), if_pos ⟨h1, by omega⟩, this]; rfl
    rw [if_neg (fun q => q1 (y1.mp q).2)]
    by_cases q2 : T s = 108
    · have : lcd (T s) = -3 := by rw [q2]; rfl
      rw [if_pos (y2.mpr ⟨h1, q2⟩), if_pos ⟨h1, by omega⟩, this]; rfl
    rw [if_neg (fun q => q2 (y2.mp q).2)]
    by_cases q3 : T s = 109
    · have : lcd (T s) = -4 := by rw [q3]; rfl
      rw [if_pos (y3.mpr ⟨h1, q3⟩), if_pos ⟨h1, by omega⟩, this]; rfl
    rw [if_neg (fun q => q3 (y3.mp q).2)]
    by_cases q4 : T s = 99
    · have : lcd (T s) = -5 := by rw [q4]; rfl
      rw [if_pos (y4.mpr ⟨h1, q4⟩), if_pos ⟨h1, by omega⟩, this]; rfl
    rw [if_neg (fun q => q4 (y4.mp q).2)]
    have : lcd (T s) = 0 := by unfold lcd; rw [if_neg q0, if_neg q1, if_neg q2, if_neg q3, if_neg q4]
    rw [if_neg (fun q => q.2 this)]
    rfl
  · rw [if_neg (fun q => h1 (y0.mp q).1), if_neg (fun q => h1 (y1.mp q).1), if_neg (fun q => h1 (y2.mp q).1), if_neg (fun q => h1 (y3.mp q).1), if_neg (fun q => h1 (y4.mp q).1), if_neg (fun q => h1 q.1)]
    rfl
theorem RSt.hX (h : RSt T n ad s (-1) K W d ν) (hT : tB T n) (hN : 500 ≤ N) (a0 : 0 ≤ ad) : sk T n s = s ∧ 0 ≤ s ∧ s ≤ n ∧ fX11_here N ν = some (I_ (hb T n s), stI ν 0 16 (I_ s)) ∧ RX T n s (-1) (stI ν 0 16 (I_ s)) ∧ RSt T n ad s (-1) K W d (stI ν 0 16 (I_ s)) := by
  obtain ⟨r, hX, hr⟩ := h.1
  have i0 := hX.2.2.2.2.1
  have hi := sk_in (T := T) i0.2
  have hid := sk_id (T := T) i0.2
  have hh := r_here hT hN hX
  rw [hr rfl] at hi hid hh
  have hY := hX.at (i := s) (by omega) (by omega)
  exact ⟨hid, by omega, by omega, hh, hY, h.fr (P_a16 Fr.rf) ⟨s, hY, fun _ => hid⟩ a0⟩
theorem r_leaf (hT : tB T n) (hN : 500 ≤ N) (a0 : 0 ≤ ad) (a2 : ad ≤ 2) (d0 : 0 ≤ d) (d1 : d ≤ 6) (hq : ¬ (kd T n s = 40 ∧ d < 6)) (h : RSt T n ad s (-1) K W d ν) (hl : (K.length : Int) ≤ s) : ∃ ν' z, fX11_opensOrAtom N ν = some (I_ z, ν') ∧ Fr (P_rs ad) ν ν' ∧ (0 ≤ z ∧ z ≤ 1) ∧ (lfK T n s = true → z = 0 ∧ RSt T n ad (nx T n s) (-1) (K ++ [lfC T n s]) W d ν') ∧ (¬ lfK T n s = true → RSt T n ad s s K W d ν') := by
  obtain ⟨hid, s0, s1, hh, hY, hS⟩ := h.hX hT hN a0
  have n1 := hT.2.1
  have hb' := hb_in hT s
  have ht := te_in (T := T) (n := n) (s := s) (by omega)
  obtain ⟨k1, k2⟩ := kd_c (s := s) (c := 40) hT (by omega) (by omega) (by omega) (by omega)
  have g0 : Fr (P_rs ad) ν (stI ν 0 16 (I_ s)) := Fr.rf.stI (Or.inl ⟨rfl, by omega⟩)
  by_cases q40 : kd T n s = 40
  · have d6 : d = 6 := by omega
    have hq : hb T n s = 40 := k1.mpr q40
    have hw := r_wr (N := N) hY
    rw [if_pos rfl] at hw
    have nlf : ¬ lfK T n s = true := by rw [lfK_y]; omega
    refine ⟨stI (stI ν 0 16 (I_ s)) 0 17 (I_ s), 1, ?_, g0.stI (Or.inl ⟨rfl, by omega⟩), by omega, fun q => absurd q nlf, fun _ => ?_⟩
    · have h27 : (stI ν 0 16 (I_ s)).1 0 27 = I_ 6 := by rw [← d6]; exact hS.2.2.2.2.1
      simp (disch := omega) only [fX11_opensOrAtom, Int.reduceEq, Int.reduceNe, Int.reduceLT, Int.reduceLE, Int.reduceAdd, Int.reduceSub, Int.reduceMul, Int.reduceNeg, Int.zero_add, Int.add_zero, nm_eq, bd_some, bv_some, aI_ok, aL_ok, aS_ok, dv_ok, dw_ok, I_add, I_sub, I_mul, I_neg, I_lt, I_le, I_eq, I_nat, J_add, J_sub, J_mul, J_neg, J_lt, J_le, J_eq, I_l, J_i, I_div, J_div, b2_0, b2_1, b2_nar, nar_0, nar_1, zr_0, zr_1, zr_b2, cmp_eq, cmp_le, cmp_lt, cmp_gt, cmp_ge, mx_I, mn_I, mx_L, mn_L, az_I, if_true, if_false, not_true_eq_false, not_false_eq_true, Bool.false_eq_true, i_0, i_1, i_2, i_3, i_4, i_5, i_6, i_7, i_8, i_9, i_10, i_11, i_12, i_16, i_18, i_20, i_24, i_28, i_29, i_30, i_31, i_32, i_33, i_34, i_35, i_37, i_40, i_41, i_42, i_43, i_45, i_46, i_47, i_48, i_57, i_59, i_63, i_64, i_96, i_97, i_98, i_99, i_100, i_101, i_102, i_103, i_104, i_105, i_106, i_107, i_108, i_109, i_110, i_111, i_112, i_113, i_122, i_200, i_255, i_256, i_257, i_258, i_355, i_400, i_999, i_1000, i_1200, i_5680, i_9999, i_10000, i_99999, j_0, j_1, j_2, j_3, j_4, j_5, j_6, j_9, j_10, j_11, j_98, j_99, j_100, j_999, j_1000, j_9999, j_10000, j_99999, j_1000000, hh, hq, h27, hw]
    · exact hS.fr (P_a17 Fr.rf) ⟨s, hY.wr (by omega) (by omega), fun q => by omega⟩ a0
  · have hq : ¬ hb T n s = 40 := fun q => q40 (k1.mp q)
    have hfa := r_fact hT hN hY hid
    have lb := lcd_in (T s)
    by_cases hf : we T n s - s = 1 ∧ ¬ lcd (T s) = 0
    · have sl : s < n ∧ cLe (T s) = true := by
        by_cases q : s < n ∧ cLe (T s) = true
        · exact q
        · exfalso
          have e : we T n s = s := by
            by_cases hs : s < n
            · exact sca_n hs (fun w => q ⟨hs, w⟩)
            · exact sca_0 (by omega)
          omega
      have k6 : kd T n s = 256 := kd_y sl.1 sl.2
      have w3 := (kd_256 k6 hT).2.2
      have lf : lfK T n s = true := by rw [lfK_y]; right; exact ⟨k6, by omega, hf.2⟩
      have ec : lfC T n s = lcd (T s) := if_neg (by omega)
      rw [if_pos hf] at hfa
      have hZ : RSt T n ad (nx T n s) (-1) K W d (stI (stI ν 0 16 (I_ s)) 0 16 (I_ (s + 1))) := hS.fr (P_a16 Fr.rf) ⟨s + 1, hY.at (by omega) (by omega), fun _ => by unfold nx; rw [show te T n s = s + 1 by omega]⟩ a0
      obtain ⟨ν1, e1, e2, e3⟩ := r_emits (N := N) a0 a2 hZ (by omega) (lcd (T s))
      have rA1 : rA (lcd (T s)) = 1 := by unfold rA; rw [if_neg (by omega), if_pos (by omega)]
      have rB1 : rB (lcd (T s)) = -1 - lcd (T s) := by unfold rB; rw [if_neg (by omega), if_pos (by omega)]
      rw [rA1, rB1] at e1
      have nf : ¬ -1 - lcd (T s) = -1 := by omega
      refine ⟨ν1, 0, ?_, (g0.stI (Or.inl ⟨rfl, by omega⟩)).tr (e3.mono (fun k j q => re_rs q)), by omega, fun _ => ⟨rfl, by rw [ec]; exact e2⟩, fun q => absurd lf q⟩
      simp (disch := omega) only [fX11_opensOrAtom, Int.reduceEq, Int.reduceNe, Int.reduceLT, Int.reduceLE, Int.reduceAdd, Int.reduceSub, Int.reduceMul, Int.reduceNeg, Int.zero_add, Int.add_zero, nm_eq, bd_some, bv_some, aI_ok, aL_ok, aS_ok, dv_ok, dw_ok, I_add, I_sub, I_mul, I_neg, I_lt, I_le, I_eq, I_nat, J_add, J_sub, J_mul, J_neg, J_lt, J_le, J_eq, I_l, J_i, I_div, J_div, b2_0, b2_1, b2_nar, nar_0, nar_1, zr_0, zr_1, zr_b2, cmp_eq, cmp_le, cmp_lt, cmp_gt, cmp_ge, mx_I, mn_I, mx_L, mn_L, az_I, if_true, if_false, not_true_eq_false, not_false_eq_true, Bool.false_eq_true, i_0, i_1, i_2, i_3, i_4, i_5, i_6, i_7, i_8, i_9, i_10, i_11, i_12, i_16, i_18, i_20, i_24, i_28, i_29, i_30, i_31, i_32, i_33, i_34, i_35, i_37, i_40, i_41, i_42, i_43, i_45, i_46, i_47, i_48, i_57, i_59, i_63, i_64, i_96, i_97, i_98, i_99, i_100, i_101, i_102, i_103, i_104, i_105, i_106, i_107, i_108, i_109, i_110, i_111, i_112, i_113, i_122, i_200, i_255, i_256, i_257, i_258, i_355, i_400, i_999, i_1000, i_1200, i_5680, i_9999, i_10000, i_99999, j_0, j_1, j_2, j_3, j_4, j_5, j_6, j_9, j_10, j_11, j_98, j_99, j_100, j_999, j_1000, j_9999, j_10000, j_99999, j_1000000, hh, hq, hfa, nf, hY.2.2.1, e1]
    · rw [if_neg hf] at hfa
      obtain ⟨ν1, e1, e2, e3⟩ := r_number (N := N) (dl := 4) (lo := 0) (hi := 9999) hT hN (by omega) (by omega) (by omega) (by omega) (by omega) ⟨s, hY, fun _ => hid⟩
      have hS1 := hS.fr e3 e2 a0
      have lfn : lfK T n s = nOK T n s 4 0 9999 := by
        have : (lfK T n s = true) = (nOK T n s 4 0 9999 = true) := by
          rw [lfK_y, nOK_y]
          refine propext ⟨fun q => ?_, fun q => Or.inl ⟨q.1, q.2.1⟩⟩
          rcases q with q | q
          · have := nv_in4 hT q.1 q.2
            exact ⟨q.1, q.2, this.1, this.2⟩
          · exfalso
            have w3 := (kd_256 q.1 hT).2.2
            exact hf ⟨by omega, q.2.2⟩
        exact Bool.eq_iff_iff.mpr (by rw [this])
      by_cases ho : nOK T n s 4 0 9999 = true
      · have ho' := ho
        rw [nOK_y] at ho'
        rw [oS_y ho, oF_y ho] at hS1
        rw [if_pos ⟨rfl, ho⟩] at e1
        have ec : lfC T n s = nv T n s := if_pos ho'.1
        have ks := (kd_257 ho'.1 hT).1
        obtain ⟨ν2, f1, f2, f3⟩ := r_emits (N := N) a0 a2 hS1 (by omega) (nv T n s)
        have rA1 : rA (nv T n s) = 0 := if_pos (by omega)
        have rB1 : rB (nv T n s) = nv T n s := if_pos (by omega)
        rw [rA1, rB1] at f1
        refine ⟨ν2, 0, ?_, (g0.tr (e3.mono (fun k j q => at_rs q))).tr (f3.mono (fun k j q => re_rs q)), by omega, fun _ => ⟨rfl, by rw [ec]; exact f2⟩, fun q => absurd (lfn.trans ho) q⟩
        simp (disch := omega) only [fX11_opensOrAtom, Int.reduceEq, Int.reduceNe, Int.reduceLT, Int.reduceLE, Int.reduceAdd, Int.reduceSub, Int.reduceMul, Int.reduceNeg, Int.zero_add, Int.add_zero, nm_eq, bd_some, bv_some, aI_ok, aL_ok, aS_ok, dv_ok, dw_ok, I_add, I_sub, I_mul, I_neg, I_lt, I_le, I_eq, I_nat, J_add, J_sub, J_mul, J_neg, J_lt, J_le, J_eq, I_l, J_i, I_div, J_div, b2_0, b2_1, b2_nar, nar_0, nar_1, zr_0, zr_1, zr_b2, cmp_eq, cmp_le, cmp_lt, cmp_gt, cmp_ge, mx_I, mn_I, mx_L, mn_L, az_I, if_true, if_false, not_true_eq_false, not_false_eq_true, Bool.false_eq_true, i_0, i_1, i_2, i_3, i_4, i_5, i_6, i_7, i_8, i_9, i_10, i_11, i_12, i_16, i_18, i_20, i_24, i_28, i_29, i_30, i_31, i_32, i_33, i_34, i_35, i_37, i_40, i_41, i_42, i_43, i_45, i_46, i_47, i_48, i_57, i_59, i_63, i_64, i_96, i_97, i_98, i_99, i_100, i_101, i_102, i_103, i_104, i_105, i_106, i_107, i_108, i_109, i_110, i_111, i_112, i_113, i_122, i_200, i_255, i_256, i_257, i_258, i_355, i_400, i_999, i_1000, i_1200, i_5680, i_9999, i_10000, i_99999, j_0, j_1, j_2, j_3, j_4, j_5, j_6, j_9, j_10, j_11, j_98, j_99, j_100, j_999, j_1000, j_9999, j_10000, j_99999, j_1000000, hh, hq, hfa, e1, f1]
      · rw [oS_n ho, oF_n ho] at hS1
        rw [if_neg (fun q => ho q.2)] at e1
        have em := r_emitsf (N := N) hS1.1 (by omega) (I_ 0) (I_ 0)
        refine ⟨ν1, 0, ?_, g0.tr (e3.mono (fun k j q => at_rs q)), by omega, fun q => absurd (lfn.symm.trans q) ho, fun _ => hS1⟩
        simp (disch := omega) only [fX11_opensOrAtom, Int.reduceEq, Int.reduceNe, Int.reduceLT, Int.reduceLE, Int.reduceAdd, Int.reduceSub, Int.reduceMul, Int.reduceNeg, Int.zero_add, Int.add_zero, nm_eq, bd_some, bv_some, aI_ok, aL_ok, aS_ok, dv_ok, dw_ok, I_add, I_sub, I_mul, I_neg, I_lt, I_le, I_eq, I_nat, J_add, J_sub, J_mul, J_neg, J_lt, J_le, J_eq, I_l, J_i, I_div, J_div, b2_0, b2_1, b2_nar, nar_0, nar_1, zr_0, zr_1, zr_b2, cmp_eq, cmp_le, cmp_lt, cmp_gt, cmp_ge, mx_I, mn_I, mx_L, mn_L, az_I, if_true, if_false, not_true_eq_false, not_false_eq_true, Bool.false_eq_true, i_0, i_1, i_2, i_3, i_4, i_5, i_6, i_7, i_8, i_9, i_10, i_11, i_12, i_16, i_18, i_20, i_24, i_28, i_29, i_30, i_31, i_32, i_33, i_34, i_35, i_37, i_40, i_41, i_42, i_43, i_45, i_46, i_47, i_48, i_57, i_59, i_63, i_64, i_96, i_97, i_98, i_99, i_100, i_101, i_102, i_103, i_104, i_105, i_106, i_107, i_108, i_109, i_110, i_111, i_112, i_113, i_122, i_200, i_255, i_256, i_257, i_258, i_355, i_400, i_999, i_1000, i_1200, i_5680, i_9999, i_10000, i_99999, j_0, j_1, j_2, j_3, j_4, j_5, j_6, j_9, j_10, j_11, j_98, j_99, j_100, j_999, j_1000, j_9999, j_10000, j_99999, j_1000000, hh, hq, hfa, e1, em]
end
