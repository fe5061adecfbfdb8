/-! The reference's past. -/
def HF (V : Vw) (g : Nat → Int32) : Prop := (∀ k z, okk k → ¬ (11 ≤ k ∧ k ≤ 13) → 0 ≤ z → z < szv (sN V) (mN V) k → g (dI k z) = I_ (V k z)) ∧ g 34 = I_ (sN V)
def HS (G : Nat → Vw) (a : Nat) (ν : Mem) : Prop := ν.1 0 4 = I_ a ∧ ∀ t, t < a → HF (G (t + 1)) (fun j => ν.1 3 (355 * (a - 1 - t) + j))
section
variable {N : Nat} {ν ν' : Mem} {V V1 : Vw} {Lm Lf : Int → Int} {Am Af : Int → Int → Int} {K : Int → List Int} {G : Nat → Vw} {a : Nat}
theorem HF.fr {g g' : Nat → Int32} (h : HF V g) (hc : sN V ≤ 40) (f : ∀ j, j < 355 → g' j = g j) : HF V g' := ⟨fun k z hk hm z0 z1 => by rw [f _ (dI_in hk hm z0 z1 hc).1]; exact h.1 k z hk hm z0 z1, by rw [f 34 (by omega)]; exact h.2⟩
theorem HS.fr (h : HS G a ν) (g : ∀ k j, (k = 0 ∧ j = 4) ∨ k = 3 → ν'.1 k j = ν.1 k j) : HS G a ν' := ⟨by rw [g _ _ (by omega)]; exact h.1, fun t ht => by
  have := h.2 t ht
  have e : (fun j => ν'.1 3 (355 * (a - 1 - t) + j)) = fun j => ν.1 3 (355 * (a - 1 - t) + j) := funext fun j => g _ _ (Or.inr rfl)
  rw [e]
  exact this⟩
theorem HF_of (h : PE V Lm Am Lf Af K ν) : HF V (ν.1 1) := ⟨fun k z hk hm z0 z1 => by
  have := h.1 k z hk z0 z1
  rw [if_neg hm] at this
  exact this, h.2.1⟩
/-- the row w is kept in the slot a -/
theorem r_rem54 (hN : 20000 ≤ N) (ha : a ≤ 15) (h4 : ν.1 0 4 = I_ a) : ∃ ν', fX11_remembers_54 N N (I_ 0) ν = some ((), ν') ∧ ν'.1 0 4 = I_ (a + 1 : Nat) ∧ ν'.1 0 30 = I_ 0 ∧ (∀ j, j < 355 → ν'.1 3 (355 * a + j) = ν.1 1 j) ∧ (∀ j, ¬ (355 * a ≤ j ∧ j < 355 * a + 355) → ν'.1 3 j = ν.1 3 j) ∧ Fr (fun k j => k = 3 ∨ (k = 0 ∧ (j = 4 ∨ j = 30))) ν ν' := by
  obtain ⟨ν1, a1, a2, a3⟩ := fill (loop := fun m i μ => fX11_remembers_54 N m i μ) (fin := fun μ => fX11_remembers_88 N μ) (c := 3) (o := 355 * a) (L := 355) (i0 := 0) (g := fun j => ν.1 1 j) (μ0 := ν) (fun m t μ ht g => by
    have h : ¬ 355 ≤ (t : Int) := by omega
    have e : ((t : Nat) : Int).toNat = t := Int.toNat_natCast _
    have e2 : ((t + 1 : Nat) : Int) = (t : Int) + 1 := by omega
    have e3 : (355 * (a : Int) + (t : Int)).toNat = 355 * a + t := by omega
    have gv : μ.1 1 t = ν.1 1 t := (g 1 t (by omega)).1
    have g4 : μ.1 0 4 = I_ a := by rw [(g 0 4 (by omega)).1]; exact h4
    simp (disch := omega) only [fX11_remembers_54, Int.reduceEq, Int.reduceNe, Int.reduceLT, Int.reduceLE, Int.reduceAdd, Int.reduceSub, Int.reduceMul, Int.reduceNeg, Int.zero_add, Int.add_zero, nm_eq, bd_some, bv_some, aI_ok, aL_ok, aS_ok, dv_ok, dw_ok, I_add, I_sub, I_mul, I_neg, I_lt, I_le, I_eq, I_nat, J_add, J_sub, J_mul, J_neg, J_lt, J_le, J_eq, I_l, J_i, I_div, J_div, b2_0, b2_1, b2_nar, nar_0, nar_1, zr_0, zr_1, zr_b2, cmp_eq, cmp_le, cmp_lt, cmp_gt, cmp_ge, mx_I, mn_I, mx_L, mn_L, az_I, if_true, if_false, not_true_eq_false, not_false_eq_true, Bool.false_eq_true, i_0, i_1, i_2, i_3, i_4, i_5, i_6, i_7, i_8, i_9, i_10, i_11, i_12, i_16, i_18, i_20, i_24, i_28, i_29, i_30, i_31, i_32, i_33, i_34, i_35, i_37, i_40, i_41, i_42, i_43, i_45, i_46, i_47, i_48, i_57, i_59, i_63, i_64, i_96, i_97, i_98, i_99, i_100, i_101, i_102, i_103, i_104, i_105, i_106, i_107, i_108, i_109, i_110, i_111, i_112, i_113, i_122, i_200, i_255, i_256, i_257, i_258, i_355, i_400, i_999, i_1000, i_1200, i_5680, i_9999, i_10000, i_99999, j_0, j_1, j_2, j_3, j_4, j_5, j_6, j_9, j_10, j_11, j_98, j_99, j_100, j_999, j_1000, j_9999, j_10000, j_99999, j_1000000, h, e, e2, g4, e3, gv]) (fun m μ _ => by
    simp (disch := omega) only [fX11_remembers_54, Int.reduceEq, Int.reduceNe, Int.reduceLT, Int.reduceLE, Int.reduceAdd, Int.reduceSub, Int.reduceMul, Int.reduceNeg, Int.zero_add, Int.add_zero, nm_eq, bd_some, bv_some, aI_ok, aL_ok, aS_ok, dv_ok, dw_ok, I_add, I_sub, I_mul, I_neg, I_lt, I_le, I_eq, I_nat, J_add, J_sub, J_mul, J_neg, J_lt, J_le, J_eq, I_l, J_i, I_div, J_div, b2_0, b2_1, b2_nar, nar_0, nar_1, zr_0, zr_1, zr_b2, cmp_eq, cmp_le, cmp_lt, cmp_gt, cmp_ge, mx_I, mn_I, mx_L, mn_L, az_I, if_true, if_false, not_true_eq_false, not_false_eq_true, Bool.false_eq_true, i_0, i_1, i_2, i_3, i_4, i_5, i_6, i_7, i_8, i_9, i_10, i_11, i_12, i_16, i_18, i_20, i_24, i_28, i_29, i_30, i_31, i_32, i_33, i_34, i_35, i_37, i_40, i_41, i_42, i_43, i_45, i_46, i_47, i_48, i_57, i_59, i_63, i_64, i_96, i_97, i_98, i_99, i_100, i_101, i_102, i_103, i_104, i_105, i_106, i_107, i_108, i_109, i_110, i_111, i_112, i_113, i_122, i_200, i_255, i_256, i_257, i_258, i_355, i_400, i_999, i_1000, i_1200, i_5680, i_9999, i_10000, i_99999, j_0, j_1, j_2, j_3, j_4, j_5, j_6, j_9, j_10, j_11, j_98, j_99, j_100, j_999, j_1000, j_9999, j_10000, j_99999, j_1000000]
    rfl) N (by omega)
  have g4 : ν1.1 0 4 = I_ a := by rw [(a3 0 4 (by omega)).1]; exact h4
  refine ⟨stI (stI ν1 0 4 (I_ ((a : Int) + 1))) 0 30 (I_ 0), ?_, ?_, at_S, fun j hj => ?_, fun j hj => ?_, ((a3.mono (fun k j w => Or.inl w.1)).stI (Or.inr ⟨rfl, Or.inl rfl⟩)).stI (Or.inr ⟨rfl, Or.inr rfl⟩)⟩
  · have a1' : fX11_remembers_54 N N (I_ 0) ν = fX11_remembers_88 N ν1 := a1
    rw [a1']
    simp (disch := omega) only [fX11_remembers_88, Int.reduceEq, Int.reduceNe, Int.reduceLT, Int.reduceLE, Int.reduceAdd, Int.reduceSub, Int.reduceMul, Int.reduceNeg, Int.zero_add, Int.add_zero, nm_eq, bd_some, bv_some, aI_ok, aL_ok, aS_ok, dv_ok, dw_ok, I_add, I_sub, I_mul, I_neg, I_lt, I_le, I_eq, I_nat, J_add, J_sub, J_mul, J_neg, J_lt, J_le, J_eq, I_l, J_i, I_div, J_div, b2_0, b2_1, b2_nar, nar_0, nar_1, zr_0, zr_1, zr_b2, cmp_eq, cmp_le, cmp_lt, cmp_gt, cmp_ge, mx_I, mn_I, mx_L, mn_L, az_I, if_true, if_false, not_true_eq_false, not_false_eq_true, Bool.false_eq_true, i_0, i_1, i_2, i_3, i_4, i_5, i_6, i_7, i_8, i_9, i_10, i_11, i_12, i_16, i_18, i_20, i_24, i_28, i_29, i_30, i_31, i_32, i_33, i_34, i_35, i_37, i_40, i_41, i_42, i_43, i_45, i_46, i_47, i_48, i_57, i_59, i_63, i_64, i_96, i_97, i_98, i_99, i_100, i_101, i_102, i_103, i_104, i_105, i_106, i_107, i_108, i_109, i_110, i_111, i_112, i_113, i_122, i_200, i_255, i_256, i_257, i_258, i_355, i_400, i_999, i_1000, i_1200, i_5680, i_9999, i_10000, i_99999, j_0, j_1, j_2, j_3, j_4, j_5, j_6, j_9, j_10, j_11, j_98, j_99, j_100, j_999, j_1000, j_9999, j_10000, j_99999, j_1000000, g4]
  · have e2 : ((a + 1 : Nat) : Int) = (a : Int) + 1 := by omega
    rw [e2]
    simp (disch := omega) only [st_I, st_I2, st_L1, st_L2, st_R1, st_R2, Nat.reduceEqDiff, Nat.reduceAdd, and_true, true_and, and_false, false_and, and_self, if_false, if_true]
  · rw [st_ne (by omega), st_ne (by omega)]; exact a2 j hj
  · rw [st_ne (by omega), st_ne (by omega)]; exact (a3 3 j (fun w => hj w.2)).1
theorem r_rem (hN : 20000 ≤ N) (ha : a ≤ 16) (hV : ∀ t, t ≤ a → sN (G t) ≤ 40) (hP : PE (G 0) Lm Am Lf Af K ν) (h : HS G a ν) : ∃ ν', fX11_remembers N ν = some ((), ν') ∧ HS (gSh V1 G) (min 16 (a + 1)) ν' ∧ ν'.1 0 30 = I_ 0 ∧ Fr (fun k j => k = 3 ∨ (k = 0 ∧ (j = 4 ∨ j = 30))) ν ν' := by
  by_cases e16 : a = 16
  · subst e16
    obtain ⟨ν1, a1, a2, a3⟩ := fill (loop := fun m i μ => fX11_remembers_13 N m i μ) (fin := fun μ => fX11_remembers_42 N μ) (c := 3) (o := 0) (L := 5325) (i0 := 355) (g := fun j => ν.1 3 (355 + j)) (μ0 := ν) (fun m t μ ht g => by
      have h : ¬ 5680 ≤ 355 + (t : Int) := by omega
      have e : (355 + (t : Int)).toNat = 355 + t := by omega
      have e1 : 355 + (t : Int) - 355 = (t : Int) := by omega
      have e2 : 355 + ((t + 1 : Nat) : Int) = 355 + (t : Int) + 1 := by omega
      have e3 : ((t : Nat) : Int).toNat = t := Int.toNat_natCast _
      have gv : μ.1 3 (355 + t) = ν.1 3 (355 + t) := (g 3 _ (by omega)).1
      simp (disch := omega) only [fX11_remembers_13, Int.reduceEq, Int.reduceNe, Int.reduceLT, Int.reduceLE, Int.reduceAdd, Int.reduceSub, Int.reduceMul, Int.reduceNeg, Int.zero_add, Int.add_zero, nm_eq, bd_some, bv_some, aI_ok, aL_ok, aS_ok, dv_ok, dw_ok, I_add, I_sub, I_mul, I_neg, I_lt, I_le, I_eq, I_nat, J_add, J_sub, J_mul, J_neg, J_lt, J_le, J_eq, I_l, J_i, I_div, J_div, b2_0, b2_1, b2_nar, nar_0, nar_1, zr_0, zr_1, zr_b2, cmp_eq, cmp_le, cmp_lt, cmp_gt, cmp_ge, mx_I, mn_I, mx_L, mn_L, az_I, if_true, if_false, not_true_eq_false, not_false_eq_true, Bool.false_eq_true, i_0, i_1, i_2, i_3, i_4, i_5, i_6, i_7, i_8, i_9, i_10, i_11, i_12, i_16, i_18, i_20, i_24, i_28, i_29, i_30, i_31, i_32, i_33, i_34, i_35, i_37, i_40, i_41, i_42, i_43, i_45, i_46, i_47, i_48, i_57, i_59, i_63, i_64, i_96, i_97, i_98, i_99, i_100, i_101, i_102, i_103, i_104, i_105, i_106, i_107, i_108, i_109, i_110, i_111, i_112, i_113, i_122, i_200, i_255, i_256, i_257, i_258, i_355, i_400, i_999, i_1000, i_1200, i_5680, i_9999, i_10000, i_99999, j_0, j_1, j_2, j_3, j_4, j_5, j_6, j_9, j_10, j_11, j_98, j_99, j_100, j_999, j_1000, j_9999, j_10000, j_99999, j_1000000, h, e, e1, e2, e3, gv, Nat.zero_add]) (fun m μ _ => by
      simp (disch := omega) only [fX11_remembers_13, Int.reduceEq, Int.reduceNe, Int.reduceLT, Int.reduceLE, Int.reduceAdd, Int.reduceSub, Int.reduceMul, Int.reduceNeg, Int.zero_add, Int.add_zero, nm_eq, bd_some, bv_some, aI_ok, aL_ok, aS_ok, dv_ok, dw_ok, I_add, I_sub, I_mul, I_neg, I_lt, I_le, I_eq, I_nat, J_add, J_sub, J_mul, J_neg, J_lt, J_le, J_eq, I_l, J_i, I_div, J_div, b2_0, b2_1, b2_nar, nar_0, nar_1, zr_0, zr_1, zr_b2, cmp_eq, cmp_le, cmp_lt, cmp_gt, cmp_ge, mx_I, mn_I, mx_L, mn_L, az_I, if_true, if_false, not_true_eq_false, not_false_eq_true, Bool.false_eq_true, i_0, i_1, i_2, i_3, i_4, i_5, i_6, i_7, i_8, i_9, i_10, i_11, i_12, i_16, i_18, i_20, i_24, i_28, i_29, i_30, i_31, i_32, i_33, i_34, i_35, i_37, i_40, i_41, i_42, i_43, i_45, i_46, i_47, i_48, i_57, i_59, i_63, i_64, i_96, i_97, i_98, i_99, i_100, i_101, i_102, i_103, i_104, i_105, i_106, i_107, i_108, i_109, i_110, i_111, i_112, i_113, i_122, i_200, i_255, i_256, i_257, i_258, i_355, i_400, i_999, i_1000, i_1200, i_5680, i_9999, i_10000, i_99999, j_0, j_1, j_2, j_3, j_4, j_5, j_6, j_9, j_10, j_11, j_98, j_99, j_100, j_999, j_1000, j_9999, j_10000, j_99999, j_1000000]
      rfl) N (by omega)
    have h4 : ν1.1 0 4 = I_ 16 := by rw [(a3 0 4 (by omega)).1]; exact h.1
    obtain ⟨ν2, b1, b2', b3, b4, b5, b6⟩ := r_rem54 (N := N) (ν := stI ν1 0 4 (I_ 15)) (a := 15) hN (by omega) at_S
    have g2 : Fr (fun k j => k = 3 ∨ (k = 0 ∧ (j = 4 ∨ j = 30))) ν ν2 := ((a3.mono (fun k j w => Or.inl w.1)).stI (Or.inr ⟨rfl, Or.inl rfl⟩)).tr b6
    refine ⟨ν2, ?_, ⟨b2', fun t ht => ?_⟩, b3, g2⟩
    · have a1' : fX11_remembers_13 N N (I_ 355) ν = fX11_remembers_42 N ν1 := a1
      have h16 : ν.1 0 4 = I_ 16 := h.1
      have e1 : fX11_remembers N ν = fX11_remembers_13 N N (I_ 355) ν := by
        simp (disch := omega) only [fX11_remembers, Int.reduceEq, Int.reduceNe, Int.reduceLT, Int.reduceLE, Int.reduceAdd, Int.reduceSub, Int.reduceMul, Int.reduceNeg, Int.zero_add, Int.add_zero, nm_eq, bd_some, bv_some, aI_ok, aL_ok, aS_ok, dv_ok, dw_ok, I_add, I_sub, I_mul, I_neg, I_lt, I_le, I_eq, I_nat, J_add, J_sub, J_mul, J_neg, J_lt, J_le, J_eq, I_l, J_i, I_div, J_div, b2_0, b2_1, b2_nar, nar_0, nar_1, zr_0, zr_1, zr_b2, cmp_eq, cmp_le, cmp_lt, cmp_gt, cmp_ge, mx_I, mn_I, mx_L, mn_L, az_I, if_true, if_false, not_true_eq_false, not_false_eq_true, Bool.false_eq_true, i_0, i_1, i_2, i_3, i_4, i_5, i_6, i_7, i_8, i_9, i_10, i_11, i_12, i_16, i_18, i_20, i_24, i_28, i_29, i_30, i_31, i_32, i_33, i_34, i_35, i_37, i_40, i_41, i_42, i_43, i_45, i_46, i_47, i_48, i_57, i_59, i_63, i_64, i_96, i_97, i_98, i_99, i_100, i_101, i_102, i_103, i_104, i_105, i_106, i_107, i_108, i_109, i_110, i_111, i_112, i_113, i_122, i_200, i_255, i_256, i_257, i_258, i_355, i_400, i_999, i_1000, i_1200, i_5680, i_9999, i_10000, i_99999, j_0, j_1, j_2, j_3, j_4, j_5, j_6, j_9, j_10, j_11, j_98, j_99, j_100, j_999, j_1000, j_9999, j_10000, j_99999, j_1000000, h16]
      rw [e1, a1']
      simp (disch := omega) only [fX11_remembers_42, Int.reduceEq, Int.reduceNe, Int.reduceLT, Int.reduceLE, Int.reduceAdd, Int.reduceSub, Int.reduceMul, Int.reduceNeg, Int.zero_add, Int.add_zero, nm_eq, bd_some, bv_some, aI_ok, aL_ok, aS_ok, dv_ok, dw_ok, I_add, I_sub, I_mul, I_neg, I_lt, I_le, I_eq, I_nat, J_add, J_sub, J_mul, J_neg, J_lt, J_le, J_eq, I_l, J_i, I_div, J_div, b2_0, b2_1, b2_nar, nar_0, nar_1, zr_0, zr_1, zr_b2, cmp_eq, cmp_le, cmp_lt, cmp_gt, cmp_ge, mx_I, mn_I, mx_L, mn_L, az_I, if_true, if_false, not_true_eq_false, not_false_eq_true, Bool.false_eq_true, i_0, i_1, i_2, i_3, i_4, i_5, i_6, i_7, i_8, i_9, i_10, i_11, i_12, i_16, i_18, i_20, i_24, i_28, i_29, i_30, i_31, i_32, i_33, i_34, i_35, i_37, i_40, i_41, i_42, i_43, i_45, i_46, i_47, i_48, i_57, i_59, i_63, i_64, i_96, i_97, i_98, i_99, i_100, i_101, i_102, i_103, i_104, i_105, i_106, i_107, i_108, i_109, i_110, i_111, i_112, i_113, i_122, i_200, i_255, i_256, i_257, i_258, i_355, i_400, i_999, i_1000, i_1200, i_5680, i_9999, i_10000, i_99999, j_0, j_1, j_2, j_3, j_4, j_5, j_6, j_9, j_10, j_11, j_98, j_99, j_100, j_999, j_1000, j_9999, j_10000, j_99999, j_1000000, h4, b1]
    · match t, ht with
      | 0, _ =>
        refine (HF_of hP).fr (hV 0 (by omega)) (fun j hj => ?_)
        show ν2.1 3 (355 * 15 + j) = ν.1 1 j
        rw [b4 j hj, st_ne (by omega), (a3 1 j (by omega)).1]
      | t + 1, ht =>
        have ht' : t + 1 < 16 := ht
        refine (h.2 t (by omega)).fr (hV (t + 1) (by omega)) (fun j hj => ?_)
        show ν2.1 3 (355 * (16 - 1 - (t + 1)) + j) = ν.1 3 (355 * (16 - 1 - t) + j)
        rw [b5 _ (by omega), st_ne (by omega)]
        have := a2 (355 * (16 - 1 - (t + 1)) + j) (by omega)
        rw [Nat.zero_add] at this
        refine this.trans ?_
        show ν.1 3 (355 + (355 * (16 - 1 - (t + 1)) + j)) = ν.1 3 (355 * (16 - 1 - t) + j)
        exact congrArg (ν.1 3) (by omega)
  · obtain ⟨ν2, b1, b2', b3, b4, b5, b6⟩ := r_rem54 (N := N) (ν := ν) (a := a) hN (by omega) h.1
    have em : min 16 (a + 1) = a + 1 := by omega
    rw [em]
    refine ⟨ν2, ?_, ⟨b2', fun t ht => ?_⟩, b3, b6⟩
    · have na : ¬ (a : Int) = 16 := by omega
      simp (disch := omega) only [fX11_remembers, Int.reduceEq, Int.reduceNe, Int.reduceLT, Int.reduceLE, Int.reduceAdd, Int.reduceSub, Int.reduceMul, Int.reduceNeg, Int.zero_add, Int.add_zero, nm_eq, bd_some, bv_some, aI_ok, aL_ok, aS_ok, dv_ok, dw_ok, I_add, I_sub, I_mul, I_neg, I_lt, I_le, I_eq, I_nat, J_add, J_sub, J_mul, J_neg, J_lt, J_le, J_eq, I_l, J_i, I_div, J_div, b2_0, b2_1, b2_nar, nar_0, nar_1, zr_0, zr_1, zr_b2, cmp_eq, cmp_le, cmp_lt, cmp_gt, cmp_ge, mx_I, mn_I, mx_L, mn_L, az_I, if_true, if_false, not_true_eq_false, not_false_eq_true, Bool.false_eq_true, i_0, i_1, i_2, i_3, i_4, i_5, i_6, i_7, i_8, i_9, i_10, i_11, i_12, i_16, i_18, i_20, i_24, i_28, i_29, i_30, i_31, i_32, i_33, i_34, i_35, i_37, i_40, i_41, i_42, i_43, i_45, i_46, i_47, i_48, i_57, i_59, i_63, i_64, i_96, i_97, i_98, i_99, i_100, i_101, i_102, i_103, i_104, i_105, i_106, i_107, i_108, i_109, i_110, i_111, i_112, i_113, i_122, i_200, i_255, i_256, i_257, i_258, i_355, i_400, i_999, i_1000, i_1200, i_5680, i_9999, i_10000, i_99999, j_0, j_1, j_2, j_3, j_4, j_5, j_6, j_9, j_10, j_11, j_98, j_99, j_100, j_999, j_1000, j_9999, j_10000, j_99999, j_1000000, h.1, na, b1]
    · match t, ht with
      | 0, _ =>
        refine (HF_of hP).fr (hV 0 (by omega)) (fun j hj => ?_)
        show ν2.1 3 (355 * (a + 1 - 1 - 0) + j) = ν.1 1 j
        rw [show a + 1 - 1 - 0 = a by omega]
        exact b4 j hj
      | t + 1, ht =>
        refine (h.2 t (by omega)).fr (hV (t + 1) (by omega)) (fun j hj => ?_)
        show ν2.1 3 (355 * (a + 1 - 1 - (t + 1)) + j) = ν.1 3 (355 * (a - 1 - t) + j)
        rw [show a + 1 - 1 - (t + 1) = a - 1 - t by omega]
        exact b5 _ (by omega)
theorem r_undo (hN : 20000 ≤ N) (ha : a ≤ 15) (hV : ∀ t, t ≤ a + 1 → sN (G t) ≤ 40) (hP : PE (G 0) Lm Am Lf Af K ν) (h : HS G (a + 1) ν) (hm : mN (G 1) = mN (G 0)) (hf : fN (G 1) = fN (G 0)) (hr : ∀ k z, 11 ≤ k → k ≤ 13 → 0 ≤ z → z < mN (G 0) → G 1 k z = G 0 k z) : ∃ ν', fX11_undo N ν = some (I_ a, ν') ∧ PE (G 1) Lm Am Lf Af K ν' ∧ HS (fun t => G (t + 1)) a ν' ∧ ν'.1 0 30 = I_ 0 ∧ ν'.1 0 0 = I_ 0 ∧ Fr (fun k j => k = 1 ∨ (k = 0 ∧ (j = 0 ∨ j = 4 ∨ j = 30))) ν ν' := by
  have g0 : Fr (fun k j => k = 0 ∧ (j = 0 ∨ j = 4)) ν (stI (stI ν 0 0 (I_ 0)) 0 4 (I_ a)) := (Fr.rf.stI ⟨rfl, Or.inl rfl⟩).stI ⟨rfl, Or.inr rfl⟩
  obtain ⟨ν1, a1, a2, a3⟩ := fill (loop := fun m i μ => fX11_undo_26 N m i μ) (fin := fun μ => fX11_undo_60 N μ) (c := 1) (o := 0) (L := 355) (i0 := 0) (g := fun j => ν.1 3 (355 * a + j)) (μ0 := stI (stI ν 0 0 (I_ 0)) 0 4 (I_ a)) (fun m t μ ht g => by
    have h : ¬ 355 ≤ (t : Int) := by omega
    have e : ((t : Nat) : Int).toNat = t := Int.toNat_natCast _
    have e2 : ((t + 1 : Nat) : Int) = (t : Int) + 1 := by omega
    have e3 : (355 * (a : Int) + (t : Int)).toNat = 355 * a + t := by omega
    have gv : μ.1 3 (355 * a + t) = ν.1 3 (355 * a + t) := by rw [(g 3 _ (by omega)).1, (g0 3 _ (by omega)).1]
    have g4 : μ.1 0 4 = I_ a := by rw [(g 0 4 (by omega)).1, at_S]
    simp (disch := omega) only [fX11_undo_26, Int.reduceEq, Int.reduceNe, Int.reduceLT, Int.reduceLE, Int.reduceAdd, Int.reduceSub, Int.reduceMul, Int.reduceNeg, Int.zero_add, Int.add_zero, nm_eq, bd_some, bv_some, aI_ok, aL_ok, aS_ok, dv_ok, dw_ok, I_add, I_sub, I_mul, I_neg, I_lt, I_le, I_eq, I_nat, J_add, J_sub, J_mul, J_neg, J_lt, J_le, J_eq, I_l, J_i, I_div, J_div, b2_0, b2_1, b2_nar, nar_0, nar_1, zr_0, zr_1, zr_b2, cmp_eq, cmp_le, cmp_lt, cmp_gt, cmp_ge, mx_I, mn_I, mx_L, mn_L, az_I, if_true, if_false, not_true_eq_false, not_false_eq_true, Bool.false_eq_true, i_0, i_1, i_2, i_3, i_4, i_5, i_6, i_7, i_8, i_9, i_10, i_11, i_12, i_16, i_18, i_20, i_24, i_28, i_29, i_30, i_31, i_32, i_33, i_34, i_35, i_37, i_40, i_41, i_42, i_43, i_45, i_46, i_47, i_48, i_57, i_59, i_63, i_64, i_96, i_97, i_98, i_99, i_100, i_101, i_102, i_103, i_104, i_105, i_106, i_107, i_108, i_109, i_110, i_111, i_112, i_113, i_122, i_200, i_255, i_256, i_257, i_258, i_355, i_400, i_999, i_1000, i_1200, i_5680, i_9999, i_10000, i_99999, j_0, j_1, j_2, j_3, j_4, j_5, j_6, j_9, j_10, j_11, j_98, j_99, j_100, j_999, j_1000, j_9999, j_10000, j_99999, j_1000000, h, e, e2, g4, e3, gv, Nat.zero_add]) (fun m μ _ => by
    simp (disch := omega) only [fX11_undo_26, Int.reduceEq, Int.reduceNe, Int.reduceLT, Int.reduceLE, Int.reduceAdd, Int.reduceSub, Int.reduceMul, Int.reduceNeg, Int.zero_add, Int.add_zero, nm_eq, bd_some, bv_some, aI_ok, aL_ok, aS_ok, dv_ok, dw_ok, I_add, I_sub, I_mul, I_neg, I_lt, I_le, I_eq, I_nat, J_add, J_sub, J_mul, J_neg, J_lt, J_le, J_eq, I_l, J_i, I_div, J_div, b2_0, b2_1, b2_nar, nar_0, nar_1, zr_0, zr_1, zr_b2, cmp_eq, cmp_le, cmp_lt, cmp_gt, cmp_ge, mx_I, mn_I, mx_L, mn_L, az_I, if_true, if_false, not_true_eq_false, not_false_eq_true, Bool.false_eq_true, i_0, i_1, i_2, i_3, i_4, i_5, i_6, i_7, i_8, i_9, i_10, i_11, i_12, i_16, i_18, i_20, i_24, i_28, i_29, i_30, i_31, i_32, i_33, i_34, i_35, i_37, i_40, i_41, i_42, i_43, i_45, i_46, i_47, i_48, i_57, i_59, i_63, i_64, i_96, i_97, i_98, i_99, i_100, i_101, i_102, i_103, i_104, i_105, i_106, i_107, i_108, i_109, i_110, i_111, i_112, i_113, i_122, i_200, i_255, i_256, i_257, i_258, i_355, i_400, i_999, i_1000, i_1200, i_5680, i_9999, i_10000, i_99999, j_0, j_1, j_2, j_3, j_4, j_5, j_6, j_9, j_10, j_11, j_98, j_99, j_100, j_999, j_1000, j_9999, j_10000, j_99999, j_1000000]
    rfl) N (by omega)
  have g4 : ν1.1 0 4 = I_ a := by rw [(a3 0 4 (by omega)).1, at_S]
  have gA : Fr (fun k j => k = 1 ∨ (k = 0 ∧ (j = 0 ∨ j = 4 ∨ j = 30))) ν (stI ν1 0 30 (I_ 0)) := ((g0.mono (fun k j w => by omega)).tr (a3.mono (fun k j w => by omega))).stI (by omega)
  have row : ∀ j, j < 355 → (stI ν1 0 30 (I_ 0)).1 1 j = ν.1 3 (355 * a + j) := fun j hj => by
    rw [st_ne (by omega)]
    have := a2 j hj
    rw [Nat.zero_add] at this
    exact this
  have h0 := (h.2 0 (by omega)).fr (g' := (stI ν1 0 30 (I_ 0)).1 1) (hV 1 (by omega)) (fun j hj => by
    rw [row j hj]
    show ν.1 3 (355 * a + j) = ν.1 3 (355 * (a + 1 - 1 - 0) + j)
    rw [show a + 1 - 1 - 0 = a by omega])
  refine ⟨stI ν1 0 30 (I_ 0), ?_, ⟨fun k z hk z0 z1 => ?_, h0.2, ?_, ?_, fun k k0 k2 => ?_⟩, ⟨?_, fun t ht => ?_⟩, at_S, ?_, gA⟩
  · have a1' : fX11_undo_26 N N (I_ 0) (stI (stI ν 0 0 (I_ 0)) 0 4 (I_ a)) = fX11_undo_60 N ν1 := a1
    have h4 : ν.1 0 4 = I_ ((a : Int) + 1) := by
      have e2 : ((a + 1 : Nat) : Int) = (a : Int) + 1 := by omega
      rw [← e2]; exact h.1
    have na : ¬ (a : Int) + 1 = 0 := by omega
    have e1 : (a : Int) + 1 - 1 = a := by omega
    have e60 : fX11_undo_60 N ν1 = some (I_ a, stI ν1 0 30 (I_ 0)) := by
      simp (disch := omega) only [fX11_undo_60, Int.reduceEq, Int.reduceNe, Int.reduceLT, Int.reduceLE, Int.reduceAdd, Int.reduceSub, Int.reduceMul, Int.reduceNeg, Int.zero_add, Int.add_zero, nm_eq, bd_some, bv_some, aI_ok, aL_ok, aS_ok, dv_ok, dw_ok, I_add, I_sub, I_mul, I_neg, I_lt, I_le, I_eq, I_nat, J_add, J_sub, J_mul, J_neg, J_lt, J_le, J_eq, I_l, J_i, I_div, J_div, b2_0, b2_1, b2_nar, nar_0, nar_1, zr_0, zr_1, zr_b2, cmp_eq, cmp_le, cmp_lt, cmp_gt, cmp_ge, mx_I, mn_I, mx_L, mn_L, az_I, if_true, if_false, not_true_eq_false, not_false_eq_true, Bool.false_eq_true, i_0, i_1, i_2, i_3, i_4, i_5, i_6, i_7, i_8, i_9, i_10, i_11, i_12, i_16, i_18, i_20, i_24, i_28, i_29, i_30, i_31, i_32, i_33, i_34, i_35, i_37, i_40, i_41, i_42, i_43, i_45, i_46, i_47, i_48, i_57, i_59, i_63, i_64, i_96, i_97, i_98, i_99, i_100, i_101, i_102, i_103, i_104, i_105, i_106, i_107, i_108, i_109, i_110, i_111, i_112, i_113, i_122, i_200, i_255, i_256, i_257, i_258, i_355, i_400, i_999, i_1000, i_1200, i_5680, i_9999, i_10000, i_99999, j_0, j_1, j_2, j_3, j_4, j_5, j_6, j_9, j_10, j_11, j_98, j_99, j_100, j_999, j_1000, j_9999, j_10000, j_99999, j_1000000, st_I, st_I2, st_L1, st_L2, st_R1, st_R2, Nat.reduceEqDiff, Nat.reduceAdd, and_true, true_and, and_false, false_and, and_self, if_false, if_true, g4]
    rw [← e60, ← a1']
    simp (disch := omega) only [fX11_undo, Int.reduceEq, Int.reduceNe, Int.reduceLT, Int.reduceLE, Int.reduceAdd, Int.reduceSub, Int.reduceMul, Int.reduceNeg, Int.zero_add, Int.add_zero, nm_eq, bd_some, bv_some, aI_ok, aL_ok, aS_ok, dv_ok, dw_ok, I_add, I_sub, I_mul, I_neg, I_lt, I_le, I_eq, I_nat, J_add, J_sub, J_mul, J_neg, J_lt, J_le, J_eq, I_l, J_i, I_div, J_div, b2_0, b2_1, b2_nar, nar_0, nar_1, zr_0, zr_1, zr_b2, cmp_eq, cmp_le, cmp_lt, cmp_gt, cmp_ge, mx_I, mn_I, mx_L, mn_L, az_I, if_true, if_false, not_true_eq_false, not_false_eq_true, Bool.false_eq_true, i_0, i_1, i_2, i_3, i_4, i_5, i_6, i_7, i_8, i_9, i_10, i_11, i_12, i_16, i_18, i_20, i_24, i_28, i_29, i_30, i_31, i_32, i_33, i_34, i_35, i_37, i_40, i_41, i_42, i_43, i_45, i_46, i_47, i_48, i_57, i_59, i_63, i_64, i_96, i_97, i_98, i_99, i_100, i_101, i_102, i_103, i_104, i_105, i_106, i_107, i_108, i_109, i_110, i_111, i_112, i_113, i_122, i_200, i_255, i_256, i_257, i_258, i_355, i_400, i_999, i_1000, i_1200, i_5680, i_9999, i_10000, i_99999, j_0, j_1, j_2, j_3, j_4, j_5, j_6, j_9, j_10, j_11, j_98, j_99, j_100, j_999, j_1000, j_9999, j_10000, j_99999, j_1000000, st_I, st_I2, st_L1, st_L2, st_R1, st_R2, Nat.reduceEqDiff, Nat.reduceAdd, and_true, true_and, and_false, false_and, and_self, if_false, if_true, h4, na, e1]
  · by_cases m : 11 ≤ k ∧ k ≤ 13
    · rw [if_pos m]
      rw [szv_m m.1 m.2, hm] at z1
      have := hP.1 k z hk z0 (by rw [szv_m m.1 m.2]; exact z1)
      rw [if_pos m] at this
      rw [hr k z m.1 m.2 z0 z1, (gA 6 _ (by omega)).1]
      exact this
    · rw [if_neg m]
      exact h0.1 k z hk m z0 z1
  · rw [hm]; exact hP.2.2.1.F gA (fun k j w => by omega)
  · rw [hf]; exact hP.2.2.2.1.F gA (fun k j w => by omega)
  · obtain ⟨u1, u2⟩ := hP.2.2.2.2 k k0 k2
    exact ⟨by rw [(gA 9 _ (by omega)).1]; exact u1, rsq_fr _ _ (by omega) (fun j _ _ => ⟨(gA 7 j (by omega)).1, (gA 8 j (by omega)).1⟩) u2⟩
  · simp (disch := omega) only [st_I, st_I2, st_L1, st_L2, st_R1, st_R2, Nat.reduceEqDiff, Nat.reduceAdd, and_true, true_and, and_false, false_and, and_self, if_false, if_true]; exact g4
  · have := h.2 (t + 1) (by omega)
    refine this.fr (hV (t + 1 + 1) (by omega)) (fun j hj => ?_)
    show (stI ν1 0 30 (I_ 0)).1 3 (355 * (a - 1 - t) + j) = ν.1 3 (355 * (a + 1 - 1 - (t + 1)) + j)
    rw [show a + 1 - 1 - (t + 1) = a - 1 - t by omega, (gA 3 _ (by omega)).1]
  · simp (disch := omega) only [st_I, st_I2, st_L1, st_L2, st_R1, st_R2, Nat.reduceEqDiff, Nat.reduceAdd, and_true, true_and, and_false, false_and, and_self, if_false, if_true]
    rw [(a3 0 0 (by omega)).1]
    simp (disch := omega) only [st_I, st_I2, st_L1, st_L2, st_R1, st_R2, Nat.reduceEqDiff, Nat.reduceAdd, and_true, true_and, and_false, false_and, and_self, if_false, if_true]
end
