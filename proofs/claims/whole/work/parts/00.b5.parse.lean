/-! Rows that are filled. -/
theorem fill {α : Type} {loop : Nat → Int32 → Mem → Option α} {fin : Mem → Option α} {c o L : Nat} {i0 : Int} {g : Nat → Int32} {μ0 : Mem} (hs : ∀ (m t : Nat) (μ : Mem), t < L → Fr (fun k j => k = c ∧ o ≤ j ∧ j < o + t) μ0 μ → loop (m + 1) (I_ (i0 + t)) μ = loop m (I_ (i0 + (t + 1 : Nat))) (stI μ c (o + t) (g t))) (he : ∀ (m : Nat) (μ : Mem), Fr (fun k j => k = c ∧ o ≤ j ∧ j < o + L) μ0 μ → loop (m + 1) (I_ (i0 + L)) μ = fin μ) (N : Nat) (hN : L < N) : ∃ μ', loop N (I_ i0) μ0 = fin μ' ∧ (∀ p, p < L → μ'.1 c (o + p) = g p) ∧ Fr (fun k j => k = c ∧ o ≤ j ∧ j < o + L) μ0 μ' := by
  have key : ∀ (d m t : Nat) (μ : Mem), d < m → t + d = L → Fr (fun k j => k = c ∧ o ≤ j ∧ j < o + t) μ0 μ → (∀ p, p < t → μ.1 c (o + p) = g p) → ∃ μ', loop m (I_ (i0 + t)) μ = fin μ' ∧ (∀ p, p < L → μ'.1 c (o + p) = g p) ∧ Fr (fun k j => k = c ∧ o ≤ j ∧ j < o + L) μ0 μ' := by
    intro d
    induction d with
    | zero =>
      intro m t μ h1 h2 h3 h4
      obtain ⟨m, rfl⟩ : ∃ mm, m = mm + 1 := ⟨m - 1, by omega⟩
      have e : t = L := by omega
      subst e
      exact ⟨μ, he m μ h3, h4, h3⟩
    | succ d ih =>
      intro m t μ h1 h2 h3 h4
      obtain ⟨m, rfl⟩ : ∃ mm, m = mm + 1 := ⟨m - 1, by omega⟩
      rw [hs m t μ (by omega) h3]
      refine ih m (t + 1) _ (by omega) (by omega) ?_ (fun p hp => ?_)
      · exact (h3.mono (fun k j q => ⟨q.1, q.2.1, by omega⟩)).stI ⟨rfl, by omega, by omega⟩
      · by_cases e : p = t
        · rw [e, at_S]
        · rw [st_I, if_neg (by omega)]
          exact h4 p (by omega)
  have := key L N 0 μ0 hN (by omega) Fr.rf (fun p hp => absurd hp (by omega))
  rw [show i0 + ((0 : Nat) : Int) = i0 by omega] at this
  exact this
section
variable {T : Int → Int} {n : Int} {N b : Nat} {μ μ' ν ν' : Mem} {s f : Int}
theorem c_clr7 (hN : 500 ≤ N) (hb : kB b) : ∃ μ', fX9_clear N (b + 7) μ = some ((), μ') ∧ μ'.1 (b + 7) 4 = I_ 0 ∧ (∀ k : Nat, k < 3 → μ'.1 (b + 9) k = I_ 0 ∧ μ'.1 (b + 10) k = I_ 0) ∧ Fr (fun k _ => b + 7 ≤ k ∧ k ≤ b + 10) μ μ' := by
  have kU7 : kU (b + 7) := by unfold kU; rcases hb with e | e <;> omega
  have st : ∀ (m : Nat) (i : Int) (μ : Mem), 0 ≤ i → i < 3 → fX9_clear_7 N (m + 1) (b + 7) (I_ i) μ = fX9_clear_7 N m (b + 7) (I_ (i + 1)) (stI (stI μ (b + 9) i.toNat (I_ 0)) (b + 10) i.toNat (I_ 0)) := fun m i μ h0 h1 => by
    have h3 : ¬ 3 ≤ i := by omega
    simp (disch := omega) only [fX9_clear_7, Int.reduceEq, Int.reduceNe, Int.reduceLT, Int.reduceLE, Int.reduceAdd, Int.reduceSub, Int.reduceMul, Int.reduceNeg, Int.zero_add, Int.add_zero, nm_eq, bd_some, bv_some, aI_ok, aL_ok, aS_ok, dv_ok, dw_ok, I_add, I_sub, I_mul, I_neg, I_lt, I_le, I_eq, I_nat, J_add, J_sub, J_mul, J_neg, J_lt, J_le, J_eq, I_l, J_i, I_div, J_div, b2_0, b2_1, b2_nar, nar_0, nar_1, zr_0, zr_1, zr_b2, cmp_eq, cmp_le, cmp_lt, cmp_gt, cmp_ge, mx_I, mn_I, mx_L, mn_L, az_I, if_true, if_false, not_true_eq_false, not_false_eq_true, Bool.false_eq_true, i_0, i_1, i_2, i_3, i_4, i_5, i_6, i_7, i_8, i_9, i_10, i_11, i_12, i_16, i_18, i_20, i_24, i_28, i_29, i_30, i_31, i_32, i_33, i_34, i_35, i_37, i_40, i_41, i_42, i_43, i_45, i_46, i_47, i_48, i_57, i_59, i_63, i_64, i_96, i_97, i_98, i_99, i_100, i_101, i_102, i_103, i_104, i_105, i_106, i_107, i_108, i_109, i_110, i_111, i_112, i_113, i_122, i_200, i_255, i_256, i_257, i_258, i_355, i_400, i_999, i_1000, i_1200, i_5680, i_9999, i_10000, i_99999, j_0, j_1, j_2, j_3, j_4, j_5, j_6, j_9, j_10, j_11, j_98, j_99, j_100, j_999, j_1000, j_9999, j_10000, j_99999, j_1000000, h3]
  obtain ⟨m, hm⟩ : ∃ m, N = m + 4 := ⟨N - 4, by omega⟩
  refine ⟨stI (stI (stI (stI (stI (stI (stI μ (b + 7) 4 (I_ 0)) (b + 9) 0 (I_ 0)) (b + 10) 0 (I_ 0)) (b + 9) 1 (I_ 0)) (b + 10) 1 (I_ 0)) (b + 9) 2 (I_ 0)) (b + 10) 2 (I_ 0), ?_, ?_, ?_, ?_⟩
  · have e3 : ∀ m (μ : Mem), fX9_clear_7 N (m + 1) (b + 7) (I_ 3) μ = some ((), μ) := fun m μ => by
      simp (disch := omega) only [fX9_clear_7, Int.reduceEq, Int.reduceNe, Int.reduceLT, Int.reduceLE, Int.reduceAdd, Int.reduceSub, Int.reduceMul, Int.reduceNeg, Int.zero_add, Int.add_zero, nm_eq, bd_some, bv_some, aI_ok, aL_ok, aS_ok, dv_ok, dw_ok, I_add, I_sub, I_mul, I_neg, I_lt, I_le, I_eq, I_nat, J_add, J_sub, J_mul, J_neg, J_lt, J_le, J_eq, I_l, J_i, I_div, J_div, b2_0, b2_1, b2_nar, nar_0, nar_1, zr_0, zr_1, zr_b2, cmp_eq, cmp_le, cmp_lt, cmp_gt, cmp_ge, mx_I, mn_I, mx_L, mn_L, az_I, if_true, if_false, not_true_eq_false, not_false_eq_true, Bool.false_eq_true, i_0, i_1, i_2, i_3, i_4, i_5, i_6, i_7, i_8, i_9, i_10, i_11, i_12, i_16, i_18, i_20, i_24, i_28, i_29, i_30, i_31, i_32, i_33, i_34, i_35, i_37, i_40, i_41, i_42, i_43, i_45, i_46, i_47, i_48, i_57, i_59, i_63, i_64, i_96, i_97, i_98, i_99, i_100, i_101, i_102, i_103, i_104, i_105, i_106, i_107, i_108, i_109, i_110, i_111, i_112, i_113, i_122, i_200, i_255, i_256, i_257, i_258, i_355, i_400, i_999, i_1000, i_1200, i_5680, i_9999, i_10000, i_99999, j_0, j_1, j_2, j_3, j_4, j_5, j_6, j_9, j_10, j_11, j_98, j_99, j_100, j_999, j_1000, j_9999, j_10000, j_99999, j_1000000]
    have : ∀ μ : Mem, fX9_clear_7 N (m + 4) (b + 7) (I_ 0) μ = some ((), stI (stI (stI (stI (stI (stI μ (b + 9) 0 (I_ 0)) (b + 10) 0 (I_ 0)) (b + 9) 1 (I_ 0)) (b + 10) 1 (I_ 0)) (b + 9) 2 (I_ 0)) (b + 10) 2 (I_ 0)) := fun μ => by
      rw [st (m + 3) 0 μ (by omega) (by omega), show (0 : Int) + 1 = 1 from rfl, st (m + 2) 1 _ (by omega) (by omega), show (1 : Int) + 1 = 2 from rfl, st (m + 1) 2 _ (by omega) (by omega), show (2 : Int) + 1 = 3 from rfl, e3]
      rfl
    unfold fX9_clear
    rw [if_pos kU7, nm_eq]
    have h := this (stI μ (b + 7) 4 (I_ 0))
    rw [← hm] at h
    exact h
  · rw [st_ne (by omega), st_ne (by omega), st_ne (by omega), st_ne (by omega), st_ne (by omega), st_ne (by omega), at_S]
  · intro k hk
    have : k = 0 ∨ k = 1 ∨ k = 2 := by omega
    rcases this with e | e | e <;> subst e
    · constructor
      · rw [st_ne (by omega), st_I, if_neg (by omega), st_ne (by omega), st_I, if_neg (by omega), st_ne (by omega), at_S]
      · rw [st_I, if_neg (by omega), st_ne (by omega), st_I, if_neg (by omega), st_ne (by omega), at_S]
    · constructor
      · rw [st_ne (by omega), st_I, if_neg (by omega), st_ne (by omega), at_S]
      · rw [st_I, if_neg (by omega), st_ne (by omega), at_S]
    · constructor
      · rw [st_ne (by omega), at_S]
      · rw [at_S]
  · exact ((((((Fr.rf.stI ⟨by omega, by omega⟩).stI ⟨by omega, by omega⟩).stI ⟨by omega, by omega⟩).stI ⟨by omega, by omega⟩).stI ⟨by omega, by omega⟩).stI ⟨by omega, by omega⟩).stI ⟨by omega, by omega⟩
theorem c_clear (hN : 500 ≤ N) (hb : kB b) : ∃ μ', fX1_clear N b μ = some ((), μ') ∧ Fr (fun k _ => b ≤ k ∧ k ≤ b + 28) μ μ' ∧ PC b v00 (fun _ => 0) (fun _ _ => 0) (fun _ => 0) (fun _ _ => 0) (fun _ => []) (fun _ => 0) 0 μ' := by
  obtain ⟨μ1, a1, a2, a3, a4⟩ := c_clr7 (N := N) (μ := stI (stI (stI μ (b + 1) 2 (I_ 0)) (b + 4) 2 (I_ 0)) (b + 12) 10 (I_ 0)) hN hb
  obtain ⟨μ2, b1, b2', b3⟩ := fill (loop := fun m i μ => fX1_clear_33 N m b i μ) (fin := fun μ => fX1_clear_54 N N b (I_ 0) μ) (c := b + 26) (o := 0) (L := 24) (i0 := 0) (g := fun _ => I_ 0) (μ0 := μ1) (fun m t μ ht _ => by
    have h : ¬ 24 ≤ (t : Int) := by omega
    have e : ((t : Nat) : Int).toNat = t := Int.toNat_natCast _
    have e2 : ((t + 1 : Nat) : Int) = (t : Int) + 1 := by omega
    simp (disch := omega) only [fX1_clear_33, Int.reduceEq, Int.reduceNe, Int.reduceLT, Int.reduceLE, Int.reduceAdd, Int.reduceSub, Int.reduceMul, Int.reduceNeg, Int.zero_add, Int.add_zero, nm_eq, bd_some, bv_some, aI_ok, aL_ok, aS_ok, dv_ok, dw_ok, I_add, I_sub, I_mul, I_neg, I_lt, I_le, I_eq, I_nat, J_add, J_sub, J_mul, J_neg, J_lt, J_le, J_eq, I_l, J_i, I_div, J_div, b2_0, b2_1, b2_nar, nar_0, nar_1, zr_0, zr_1, zr_b2, cmp_eq, cmp_le, cmp_lt, cmp_gt, cmp_ge, mx_I, mn_I, mx_L, mn_L, az_I, if_true, if_false, not_true_eq_false, not_false_eq_true, Bool.false_eq_true, i_0, i_1, i_2, i_3, i_4, i_5, i_6, i_7, i_8, i_9, i_10, i_11, i_12, i_16, i_18, i_20, i_24, i_28, i_29, i_30, i_31, i_32, i_33, i_34, i_35, i_37, i_40, i_41, i_42, i_43, i_45, i_46, i_47, i_48, i_57, i_59, i_63, i_64, i_96, i_97, i_98, i_99, i_100, i_101, i_102, i_103, i_104, i_105, i_106, i_107, i_108, i_109, i_110, i_111, i_112, i_113, i_122, i_200, i_255, i_256, i_257, i_258, i_355, i_400, i_999, i_1000, i_1200, i_5680, i_9999, i_10000, i_99999, j_0, j_1, j_2, j_3, j_4, j_5, j_6, j_9, j_10, j_11, j_98, j_99, j_100, j_999, j_1000, j_9999, j_10000, j_99999, j_1000000, h, e, e2, Nat.zero_add]) (fun m μ _ => by
    simp (disch := omega) only [fX1_clear_33, Int.reduceEq, Int.reduceNe, Int.reduceLT, Int.reduceLE, Int.reduceAdd, Int.reduceSub, Int.reduceMul, Int.reduceNeg, Int.zero_add, Int.add_zero, nm_eq, bd_some, bv_some, aI_ok, aL_ok, aS_ok, dv_ok, dw_ok, I_add, I_sub, I_mul, I_neg, I_lt, I_le, I_eq, I_nat, J_add, J_sub, J_mul, J_neg, J_lt, J_le, J_eq, I_l, J_i, I_div, J_div, b2_0, b2_1, b2_nar, nar_0, nar_1, zr_0, zr_1, zr_b2, cmp_eq, cmp_le, cmp_lt, cmp_gt, cmp_ge, mx_I, mn_I, mx_L, mn_L, az_I, if_true, if_false, not_true_eq_false, not_false_eq_true, Bool.false_eq_true, i_0, i_1, i_2, i_3, i_4, i_5, i_6, i_7, i_8, i_9, i_10, i_11, i_12, i_16, i_18, i_20, i_24, i_28, i_29, i_30, i_31, i_32, i_33, i_34, i_35, i_37, i_40, i_41, i_42, i_43, i_45, i_46, i_47, i_48, i_57, i_59, i_63, i_64, i_96, i_97, i_98, i_99, i_100, i_101, i_102, i_103, i_104, i_105, i_106, i_107, i_108, i_109, i_110, i_111, i_112, i_113, i_122, i_200, i_255, i_256, i_257, i_258, i_355, i_400, i_999, i_1000, i_1200, i_5680, i_9999, i_10000, i_99999, j_0, j_1, j_2, j_3, j_4, j_5, j_6, j_9, j_10, j_11, j_98, j_99, j_100, j_999, j_1000, j_9999, j_10000, j_99999, j_1000000]
    rfl) N (by omega)
  obtain ⟨μ3, c1, c2, c3⟩ := fill (loop := fun m i μ => fX1_clear_54 N m b i μ) (fin := fun μ => fX1_clear_74 N N b (I_ 0) μ) (c := b + 27) (o := 0) (L := 4) (i0 := 0) (g := fun _ => I_ 0) (μ0 := μ2) (fun m t μ ht _ => by
    have h : ¬ 4 ≤ (t : Int) := by omega
    have e : ((t : Nat) : Int).toNat = t := Int.toNat_natCast _
    have e2 : ((t + 1 : Nat) : Int) = (t : Int) + 1 := by omega
    simp (disch := omega) only [fX1_clear_54, Int.reduceEq, Int.reduceNe, Int.reduceLT, Int.reduceLE, Int.reduceAdd, Int.reduceSub, Int.reduceMul, Int.reduceNeg, Int.zero_add, Int.add_zero, nm_eq, bd_some, bv_some, aI_ok, aL_ok, aS_ok, dv_ok, dw_ok, I_add, I_sub, I_mul, I_neg, I_lt, I_le, I_eq, I_nat, J_add, J_sub, J_mul, J_neg, J_lt, J_le, J_eq, I_l, J_i, I_div, J_div, b2_0, b2_1, b2_nar, nar_0, nar_1, zr_0, zr_1, zr_b2, cmp_eq, cmp_le, cmp_lt, cmp_gt, cmp_ge, mx_I, mn_I, mx_L, mn_L, az_I, if_true, if_false, not_true_eq_false, not_false_eq_true, Bool.false_eq_true, i_0, i_1, i_2, i_3, i_4, i_5, i_6, i_7, i_8, i_9, i_10, i_11, i_12, i_16, i_18, i_20, i_24, i_28, i_29, i_30, i_31, i_32, i_33, i_34, i_35, i_37, i_40, i_41, i_42, i_43, i_45, i_46, i_47, i_48, i_57, i_59, i_63, i_64, i_96, i_97, i_98, i_99, i_100, i_101, i_102, i_103, i_104, i_105, i_106, i_107, i_108, i_109, i_110, i_111, i_112, i_113, i_122, i_200, i_255, i_256, i_257, i_258, i_355, i_400, i_999, i_1000, i_1200, i_5680, i_9999, i_10000, i_99999, j_0, j_1, j_2, j_3, j_4, j_5, j_6, j_9, j_10, j_11, j_98, j_99, j_100, j_999, j_1000, j_9999, j_10000, j_99999, j_1000000, h, e, e2, Nat.zero_add]) (fun m μ _ => by
    simp (disch := omega) only [fX1_clear_54, Int.reduceEq, Int.reduceNe, Int.reduceLT, Int.reduceLE, Int.reduceAdd, Int.reduceSub, Int.reduceMul, Int.reduceNeg, Int.zero_add, Int.add_zero, nm_eq, bd_some, bv_some, aI_ok, aL_ok, aS_ok, dv_ok, dw_ok, I_add, I_sub, I_mul, I_neg, I_lt, I_le, I_eq, I_nat, J_add, J_sub, J_mul, J_neg, J_lt, J_le, J_eq, I_l, J_i, I_div, J_div, b2_0, b2_1, b2_nar, nar_0, nar_1, zr_0, zr_1, zr_b2, cmp_eq, cmp_le, cmp_lt, cmp_gt, cmp_ge, mx_I, mn_I, mx_L, mn_L, az_I, if_true, if_false, not_true_eq_false, not_false_eq_true, Bool.false_eq_true, i_0, i_1, i_2, i_3, i_4, i_5, i_6, i_7, i_8, i_9, i_10, i_11, i_12, i_16, i_18, i_20, i_24, i_28, i_29, i_30, i_31, i_32, i_33, i_34, i_35, i_37, i_40, i_41, i_42, i_43, i_45, i_46, i_47, i_48, i_57, i_59, i_63, i_64, i_96, i_97, i_98, i_99, i_100, i_101, i_102, i_103, i_104, i_105, i_106, i_107, i_108, i_109, i_110, i_111, i_112, i_113, i_122, i_200, i_255, i_256, i_257, i_258, i_355, i_400, i_999, i_1000, i_1200, i_5680, i_9999, i_10000, i_99999, j_0, j_1, j_2, j_3, j_4, j_5, j_6, j_9, j_10, j_11, j_98, j_99, j_100, j_999, j_1000, j_9999, j_10000, j_99999, j_1000000]
    rfl) N (by omega)
  obtain ⟨μ4, d1, d2, d3⟩ := fill (loop := fun m i μ => fX1_clear_74 N m b i μ) (fin := fun μ => fX1_clear_93 N b μ) (c := b + 28) (o := 0) (L := 6) (i0 := 0) (g := fun _ => I_ 0) (μ0 := μ3) (fun m t μ ht _ => by
    have h : ¬ 6 ≤ (t : Int) := by omega
    have e : ((t : Nat) : Int).toNat = t := Int.toNat_natCast _
    have e2 : ((t + 1 : Nat) : Int) = (t : Int) + 1 := by omega
    simp (disch := omega) only [fX1_clear_74, Int.reduceEq, Int.reduceNe, Int.reduceLT, Int.reduceLE, Int.reduceAdd, Int.reduceSub, Int.reduceMul, Int.reduceNeg, Int.zero_add, Int.add_zero, nm_eq, bd_some, bv_some, aI_ok, aL_ok, aS_ok, dv_ok, dw_ok, I_add, I_sub, I_mul, I_neg, I_lt, I_le, I_eq, I_nat, J_add, J_sub, J_mul, J_neg, J_lt, J_le, J_eq, I_l, J_i, I_div, J_div, b2_0, b2_1, b2_nar, nar_0, nar_1, zr_0, zr_1, zr_b2, cmp_eq, cmp_le, cmp_lt, cmp_gt, cmp_ge, mx_I, mn_I, mx_L, mn_L, az_I, if_true, if_false, not_true_eq_false, not_false_eq_true, Bool.false_eq_true, i_0, i_1, i_2, i_3, i_4, i_5, i_6, i_7, i_8, i_9, i_10, i_11, i_12, i_16, i_18, i_20, i_24, i_28, i_29, i_30, i_31, i_32, i_33, i_34, i_35, i_37, i_40, i_41, i_42, i_43, i_45, i_46, i_47, i_48, i_57, i_59, i_63, i_64, i_96, i_97, i_98, i_99, i_100, i_101, i_102, i_103, i_104, i_105, i_106, i_107, i_108, i_109, i_110, i_111, i_112, i_113, i_122, i_200, i_255, i_256, i_257, i_258, i_355, i_400, i_999, i_1000, i_1200, i_5680, i_9999, i_10000, i_99999, j_0, j_1, j_2, j_3, j_4, j_5, j_6, j_9, j_10, j_11, j_98, j_99, j_100, j_999, j_1000, j_9999, j_10000, j_99999, j_1000000, h, e, e2, Nat.zero_add]) (fun m μ _ => by
    simp (disch := omega) only [fX1_clear_74, Int.reduceEq, Int.reduceNe, Int.reduceLT, Int.reduceLE, Int.reduceAdd, Int.reduceSub, Int.reduceMul, Int.reduceNeg, Int.zero_add, Int.add_zero, nm_eq, bd_some, bv_some, aI_ok, aL_ok, aS_ok, dv_ok, dw_ok, I_add, I_sub, I_mul, I_neg, I_lt, I_le, I_eq, I_nat, J_add, J_sub, J_mul, J_neg, J_lt, J_le, J_eq, I_l, J_i, I_div, J_div, b2_0, b2_1, b2_nar, nar_0, nar_1, zr_0, zr_1, zr_b2, cmp_eq, cmp_le, cmp_lt, cmp_gt, cmp_ge, mx_I, mn_I, mx_L, mn_L, az_I, if_true, if_false, not_true_eq_false, not_false_eq_true, Bool.false_eq_true, i_0, i_1, i_2, i_3, i_4, i_5, i_6, i_7, i_8, i_9, i_10, i_11, i_12, i_16, i_18, i_20, i_24, i_28, i_29, i_30, i_31, i_32, i_33, i_34, i_35, i_37, i_40, i_41, i_42, i_43, i_45, i_46, i_47, i_48, i_57, i_59, i_63, i_64, i_96, i_97, i_98, i_99, i_100, i_101, i_102, i_103, i_104, i_105, i_106, i_107, i_108, i_109, i_110, i_111, i_112, i_113, i_122, i_200, i_255, i_256, i_257, i_258, i_355, i_400, i_999, i_1000, i_1200, i_5680, i_9999, i_10000, i_99999, j_0, j_1, j_2, j_3, j_4, j_5, j_6, j_9, j_10, j_11, j_98, j_99, j_100, j_999, j_1000, j_9999, j_10000, j_99999, j_1000000]
    rfl) N (by omega)
  have g14 : Fr (fun k _ => b + 26 ≤ k ∧ k ≤ b + 28) μ1 (stI μ4 (b + 28) 4 (I_ 10)) := (((b3.mono (fun k j q => by omega)).tr (c3.mono (fun k j q => by omega))).tr (d3.mono (fun k j q => by omega))).stI ⟨by omega, by omega⟩
  have g0 : Fr (fun k _ => b ≤ k ∧ k ≤ b + 28) μ (stI (stI (stI μ (b + 1) 2 (I_ 0)) (b + 4) 2 (I_ 0)) (b + 12) 10 (I_ 0)) := ((Fr.rf.stI ⟨by omega, by omega⟩).stI ⟨by omega, by omega⟩).stI ⟨by omega, by omega⟩
  refine ⟨stI μ4 (b + 28) 4 (I_ 10), ?_, (g0.tr (a4.mono (fun k j q => by omega))).tr (g14.mono (fun k j q => by omega)), ⟨fun k z hk z0 z1 => ?_, ?_, ⟨?_, fun i i0 i1 => ?_⟩, ⟨?_, fun i i0 i1 => ?_⟩, ?_, fun k k0 k2 => ⟨?_, ?_, trivial, by show (0 : Int) ≤ 0; omega, by show (0 : Int) + ((0 : Nat) : Int) ≤ 0; omega⟩⟩⟩
  · have e93 : fX1_clear_93 N b μ4 = some ((), stI μ4 (b + 28) 4 (I_ 10)) := by
      have e : (4 : Int).toNat = 4 := rfl
      simp (disch := omega) only [fX1_clear_93, Int.reduceEq, Int.reduceNe, Int.reduceLT, Int.reduceLE, Int.reduceAdd, Int.reduceSub, Int.reduceMul, Int.reduceNeg, Int.zero_add, Int.add_zero, nm_eq, bd_some, bv_some, aI_ok, aL_ok, aS_ok, dv_ok, dw_ok, I_add, I_sub, I_mul, I_neg, I_lt, I_le, I_eq, I_nat, J_add, J_sub, J_mul, J_neg, J_lt, J_le, J_eq, I_l, J_i, I_div, J_div, b2_0, b2_1, b2_nar, nar_0, nar_1, zr_0, zr_1, zr_b2, cmp_eq, cmp_le, cmp_lt, cmp_gt, cmp_ge, mx_I, mn_I, mx_L, mn_L, az_I, if_true, if_false, not_true_eq_false, not_false_eq_true, Bool.false_eq_true, i_0, i_1, i_2, i_3, i_4, i_5, i_6, i_7, i_8, i_9, i_10, i_11, i_12, i_16, i_18, i_20, i_24, i_28, i_29, i_30, i_31, i_32, i_33, i_34, i_35, i_37, i_40, i_41, i_42, i_43, i_45, i_46, i_47, i_48, i_57, i_59, i_63, i_64, i_96, i_97, i_98, i_99, i_100, i_101, i_102, i_103, i_104, i_105, i_106, i_107, i_108, i_109, i_110, i_111, i_112, i_113, i_122, i_200, i_255, i_256, i_257, i_258, i_355, i_400, i_999, i_1000, i_1200, i_5680, i_9999, i_10000, i_99999, j_0, j_1, j_2, j_3, j_4, j_5, j_6, j_9, j_10, j_11, j_98, j_99, j_100, j_999, j_1000, j_9999, j_10000, j_99999, j_1000000, e]
    unfold fX1_clear
    rw [if_pos hb, nm_eq, nm_eq, nm_eq, i_0, a1, bv_some]
    exact (b1.trans c1).trans (d1.trans e93)
  · rcases okk_r hk with q | q | q | q | q
    · exfalso
      rw [szv_s q] at z1
      have : sN v00 = 0 := rfl
      omega
    · exfalso
      rw [szv_m q.1 q.2] at z1
      have : mN v00 = 0 := rfl
      omega
    · subst q
      have z2 : z < 24 := z1
      have v0 : v00 14 z = 0 := by unfold v00; exact if_neg (by omega)
      rw [v0]
      show (stI μ4 (b + 28) 4 (I_ 10)).1 (b + 12 + 14) z.toNat = I_ 0
      rw [st_ne (by omega), (d3 _ _ (by omega)).1, (c3 _ _ (by omega)).1]
      have := b2' z.toNat (by omega)
      rw [Nat.zero_add] at this
      exact this
    · subst q
      have z2 : z < 4 := z1
      have v0 : v00 15 z = 0 := by unfold v00; exact if_neg (by omega)
      rw [v0]
      show (stI μ4 (b + 28) 4 (I_ 10)).1 (b + 12 + 15) z.toNat = I_ 0
      rw [st_ne (by omega), (d3 _ _ (by omega)).1]
      have := c2 z.toNat (by omega)
      rw [Nat.zero_add] at this
      exact this
    · subst q
      have z2 : z < 6 := z1
      show (stI μ4 (b + 28) 4 (I_ 10)).1 (b + 12 + 16) z.toNat = I_ (v00 16 z)
      by_cases e : z = 4
      · subst e
        exact at_S
      · have v0 : v00 16 z = 0 := by unfold v00; exact if_neg (by omega)
        rw [v0, st_I, if_neg (by omega)]
        have := d2 z.toNat (by omega)
        rw [Nat.zero_add] at this
        exact this
  · rw [(g14 _ _ (by omega)).1, (a4 _ _ (by omega)).1, at_S]; rfl
  · rw [(g14 _ _ (by omega)).1, (a4 _ _ (by omega)).1, st_ne (by omega), st_ne (by omega), at_S]; rfl
  · exfalso
    have : mN v00 = 0 := rfl
    omega
  · rw [(g14 _ _ (by omega)).1, (a4 _ _ (by omega)).1, st_ne (by omega), at_S]; rfl
  · exfalso
    have : fN v00 = 0 := rfl
    omega
  · rw [(g14 _ _ (by omega)).1]; exact a2
  · rw [(g14 _ _ (by omega)).1]; exact (a3 k.toNat (by omega)).1
  · rw [(g14 _ _ (by omega)).1]; exact (a3 k.toNat (by omega)).2
/-- the reference lays its draft -/
theorem r_init (hN : 20000 ≤ N) (hT : tB T n) (ht : ν.1 0 14 = I_ n) (hP : TP T n 10 ν) : ∃ ν', fX11_read N ν = fX11_read_89 N N ν' ∧ RR T n (sk T n 0) (-1) ν' ∧ PD v00 (fun _ => 0) (fun _ _ => 0) (fun _ => 0) (fun _ _ => 0) (fun _ => []) ν' ∧ ν'.1 0 0 = I_ 0 ∧ ν'.1 0 14 = I_ 0 ∧ Fr (fun k j => (k = 0 ∧ (j = 0 ∨ (14 ≤ j ∧ j ≤ 19))) ∨ k = 2 ∨ k = 16) ν ν' := by
  obtain ⟨n0, n1, hbb⟩ := hT
  obtain ⟨ν1, a1, a2, a3⟩ := fill (loop := fun m i μ => fX11_read_30 N m i μ) (fin := fun μ => fX11_read_50 N μ) (c := 2) (o := 0) (L := 355) (i0 := 0) (g := fun _ => I_ 0) (μ0 := stI (stI (stI (stI (stI ν 0 0 (I_ 0)) 0 15 (I_ n)) 0 14 (I_ 0)) 0 16 (I_ 0)) 0 17 (I_ (-1))) (fun m t μ ht _ => by
    have h : ¬ 355 ≤ (t : Int) := by omega
    have e : ((t : Nat) : Int).toNat = t := Int.toNat_natCast _
    have e2 : ((t + 1 : Nat) : Int) = (t : Int) + 1 := by omega
    simp (disch := omega) only [fX11_read_30, Int.reduceEq, Int.reduceNe, Int.reduceLT, Int.reduceLE, Int.reduceAdd, Int.reduceSub, Int.reduceMul, Int.reduceNeg, Int.zero_add, Int.add_zero, nm_eq, bd_some, bv_some, aI_ok, aL_ok, aS_ok, dv_ok, dw_ok, I_add, I_sub, I_mul, I_neg, I_lt, I_le, I_eq, I_nat, J_add, J_sub, J_mul, J_neg, J_lt, J_le, J_eq, I_l, J_i, I_div, J_div, b2_0, b2_1, b2_nar, nar_0, nar_1, zr_0, zr_1, zr_b2, cmp_eq, cmp_le, cmp_lt, cmp_gt, cmp_ge, mx_I, mn_I, mx_L, mn_L, az_I, if_true, if_false, not_true_eq_false, not_false_eq_true, Bool.false_eq_true, i_0, i_1, i_2, i_3, i_4, i_5, i_6, i_7, i_8, i_9, i_10, i_11, i_12, i_16, i_18, i_20, i_24, i_28, i_29, i_30, i_31, i_32, i_33, i_34, i_35, i_37, i_40, i_41, i_42, i_43, i_45, i_46, i_47, i_48, i_57, i_59, i_63, i_64, i_96, i_97, i_98, i_99, i_100, i_101, i_102, i_103, i_104, i_105, i_106, i_107, i_108, i_109, i_110, i_111, i_112, i_113, i_122, i_200, i_255, i_256, i_257, i_258, i_355, i_400, i_999, i_1000, i_1200, i_5680, i_9999, i_10000, i_99999, j_0, j_1, j_2, j_3, j_4, j_5, j_6, j_9, j_10, j_11, j_98, j_99, j_100, j_999, j_1000, j_9999, j_10000, j_99999, j_1000000, h, e, e2, Nat.zero_add]) (fun m μ _ => by
    simp (disch := omega) only [fX11_read_30, Int.reduceEq, Int.reduceNe, Int.reduceLT, Int.reduceLE, Int.reduceAdd, Int.reduceSub, Int.reduceMul, Int.reduceNeg, Int.zero_add, Int.add_zero, nm_eq, bd_some, bv_some, aI_ok, aL_ok, aS_ok, dv_ok, dw_ok, I_add, I_sub, I_mul, I_neg, I_lt, I_le, I_eq, I_nat, J_add, J_sub, J_mul, J_neg, J_lt, J_le, J_eq, I_l, J_i, I_div, J_div, b2_0, b2_1, b2_nar, nar_0, nar_1, zr_0, zr_1, zr_b2, cmp_eq, cmp_le, cmp_lt, cmp_gt, cmp_ge, mx_I, mn_I, mx_L, mn_L, az_I, if_true, if_false, not_true_eq_false, not_false_eq_true, Bool.false_eq_true, i_0, i_1, i_2, i_3, i_4, i_5, i_6, i_7, i_8, i_9, i_10, i_11, i_12, i_16, i_18, i_20, i_24, i_28, i_29, i_30, i_31, i_32, i_33, i_34, i_35, i_37, i_40, i_41, i_42, i_43, i_45, i_46, i_47, i_48, i_57, i_59, i_63, i_64, i_96, i_97, i_98, i_99, i_100, i_101, i_102, i_103, i_104, i_105, i_106, i_107, i_108, i_109, i_110, i_111, i_112, i_113, i_122, i_200, i_255, i_256, i_257, i_258, i_355, i_400, i_999, i_1000, i_1200, i_5680, i_9999, i_10000, i_99999, j_0, j_1, j_2, j_3, j_4, j_5, j_6, j_9, j_10, j_11, j_98, j_99, j_100, j_999, j_1000, j_9999, j_10000, j_99999, j_1000000]
    rfl) N (by omega)
  obtain ⟨ν2, b1, b2', b3⟩ := fill (loop := fun m i μ => fX11_read_71 N m i μ) (fin := fun μ => fX11_read_89 N N μ) (c := 16) (o := 0) (L := 3) (i0 := 0) (g := fun _ => I_ 0) (μ0 := stI (stI (stI ν1 2 32 (I_ 10)) 0 18 (I_ 0)) 0 19 (I_ 0)) (fun m t μ ht _ => by
    have h : ¬ 3 ≤ (t : Int) := by omega
    have e : ((t : Nat) : Int).toNat = t := Int.toNat_natCast _
    have e2 : ((t + 1 : Nat) : Int) = (t : Int) + 1 := by omega
    simp (disch := omega) only [fX11_read_71, Int.reduceEq, Int.reduceNe, Int.reduceLT, Int.reduceLE, Int.reduceAdd, Int.reduceSub, Int.reduceMul, Int.reduceNeg, Int.zero_add, Int.add_zero, nm_eq, bd_some, bv_some, aI_ok, aL_ok, aS_ok, dv_ok, dw_ok, I_add, I_sub, I_mul, I_neg, I_lt, I_le, I_eq, I_nat, J_add, J_sub, J_mul, J_neg, J_lt, J_le, J_eq, I_l, J_i, I_div, J_div, b2_0, b2_1, b2_nar, nar_0, nar_1, zr_0, zr_1, zr_b2, cmp_eq, cmp_le, cmp_lt, cmp_gt, cmp_ge, mx_I, mn_I, mx_L, mn_L, az_I, if_true, if_false, not_true_eq_false, not_false_eq_true, Bool.false_eq_true, i_0, i_1, i_2, i_3, i_4, i_5, i_6, i_7, i_8, i_9, i_10, i_11, i_12, i_16, i_18, i_20, i_24, i_28, i_29, i_30, i_31, i_32, i_33, i_34, i_35, i_37, i_40, i_41, i_42, i_43, i_45, i_46, i_47, i_48, i_57, i_59, i_63, i_64, i_96, i_97, i_98, i_99, i_100, i_101, i_102, i_103, i_104, i_105, i_106, i_107, i_108, i_109, i_110, i_111, i_112, i_113, i_122, i_200, i_255, i_256, i_257, i_258, i_355, i_400, i_999, i_1000, i_1200, i_5680, i_9999, i_10000, i_99999, j_0, j_1, j_2, j_3, j_4, j_5, j_6, j_9, j_10, j_11, j_98, j_99, j_100, j_999, j_1000, j_9999, j_10000, j_99999, j_1000000, h, e, e2, Nat.zero_add]) (fun m μ _ => by
    simp (disch := omega) only [fX11_read_71, Int.reduceEq, Int.reduceNe, Int.reduceLT, Int.reduceLE, Int.reduceAdd, Int.reduceSub, Int.reduceMul, Int.reduceNeg, Int.zero_add, Int.add_zero, nm_eq, bd_some, bv_some, aI_ok, aL_ok, aS_ok, dv_ok, dw_ok, I_add, I_sub, I_mul, I_neg, I_lt, I_le, I_eq, I_nat, J_add, J_sub, J_mul, J_neg, J_lt, J_le, J_eq, I_l, J_i, I_div, J_div, b2_0, b2_1, b2_nar, nar_0, nar_1, zr_0, zr_1, zr_b2, cmp_eq, cmp_le, cmp_lt, cmp_gt, cmp_ge, mx_I, mn_I, mx_L, mn_L, az_I, if_true, if_false, not_true_eq_false, not_false_eq_true, Bool.false_eq_true, i_0, i_1, i_2, i_3, i_4, i_5, i_6, i_7, i_8, i_9, i_10, i_11, i_12, i_16, i_18, i_20, i_24, i_28, i_29, i_30, i_31, i_32, i_33, i_34, i_35, i_37, i_40, i_41, i_42, i_43, i_45, i_46, i_47, i_48, i_57, i_59, i_63, i_64, i_96, i_97, i_98, i_99, i_100, i_101, i_102, i_103, i_104, i_105, i_106, i_107, i_108, i_109, i_110, i_111, i_112, i_113, i_122, i_200, i_255, i_256, i_257, i_258, i_355, i_400, i_999, i_1000, i_1200, i_5680, i_9999, i_10000, i_99999, j_0, j_1, j_2, j_3, j_4, j_5, j_6, j_9, j_10, j_11, j_98, j_99, j_100, j_999, j_1000, j_9999, j_10000, j_99999, j_1000000]
    rfl) N (by omega)
  have g0 : Fr (fun k j => k = 0 ∧ (j = 0 ∨ (14 ≤ j ∧ j ≤ 19))) ν (stI (stI (stI (stI (stI ν 0 0 (I_ 0)) 0 15 (I_ n)) 0 14 (I_ 0)) 0 16 (I_ 0)) 0 17 (I_ (-1))) := ((((Fr.rf.stI ⟨rfl, by omega⟩).stI ⟨rfl, by omega⟩).stI ⟨rfl, by omega⟩).stI ⟨rfl, by omega⟩).stI ⟨rfl, by omega⟩
  have g1 : Fr (fun k j => (k = 0 ∧ (j = 18 ∨ j = 19)) ∨ k = 2) ν1 (stI (stI (stI ν1 2 32 (I_ 10)) 0 18 (I_ 0)) 0 19 (I_ 0)) := ((Fr.rf.stI (Or.inr rfl)).stI (Or.inl ⟨rfl, Or.inl rfl⟩)).stI (Or.inl ⟨rfl, Or.inr rfl⟩)
  have g2 : Fr (fun k j => (k = 0 ∧ (j = 18 ∨ j = 19)) ∨ k = 2 ∨ k = 16) (stI (stI (stI (stI (stI ν 0 0 (I_ 0)) 0 15 (I_ n)) 0 14 (I_ 0)) 0 16 (I_ 0)) 0 17 (I_ (-1))) ν2 := ((a3.mono (fun k j q => by omega)).tr (g1.mono (fun k j q => by omega))).tr (b3.mono (fun k j q => by omega))
  have f16 : ∀ j, j = 0 ∨ (14 ≤ j ∧ j ≤ 17) → ν2.1 0 j = (stI (stI (stI (stI (stI ν 0 0 (I_ 0)) 0 15 (I_ n)) 0 14 (I_ 0)) 0 16 (I_ 0)) 0 17 (I_ (-1))).1 0 j := fun j hj => (g2 0 j (by omega)).1
  refine ⟨ν2, ?_, ⟨0, ⟨?_, ?_, ?_, fun j j0 j1 => ?_, ⟨by omega, by omega⟩, by omega, by omega⟩, fun _ => rfl⟩, ⟨fun k z hk z0 z1 => ?_, ?_, ⟨?_, fun i i0 i1 => ?_⟩, ⟨?_, fun i i0 i1 => ?_⟩, fun k k0 k2 => ⟨?_, trivial⟩⟩, ?_, ?_, (g0.mono (fun k j q => Or.inl q)).tr (g2.mono (fun k j q => by omega))⟩
  · have e50 : fX11_read_50 N ν1 = fX11_read_71 N N (I_ 0) (stI (stI (stI ν1 2 32 (I_ 10)) 0 18 (I_ 0)) 0 19 (I_ 0)) := by
      have e : (32 : Int).toNat = 32 := rfl
      simp (disch := omega) only [fX11_read_50, Int.reduceEq, Int.reduceNe, Int.reduceLT, Int.reduceLE, Int.reduceAdd, Int.reduceSub, Int.reduceMul, Int.reduceNeg, Int.zero_add, Int.add_zero, nm_eq, bd_some, bv_some, aI_ok, aL_ok, aS_ok, dv_ok, dw_ok, I_add, I_sub, I_mul, I_neg, I_lt, I_le, I_eq, I_nat, J_add, J_sub, J_mul, J_neg, J_lt, J_le, J_eq, I_l, J_i, I_div, J_div, b2_0, b2_1, b2_nar, nar_0, nar_1, zr_0, zr_1, zr_b2, cmp_eq, cmp_le, cmp_lt, cmp_gt, cmp_ge, mx_I, mn_I, mx_L, mn_L, az_I, if_true, if_false, not_true_eq_false, not_false_eq_true, Bool.false_eq_true, i_0, i_1, i_2, i_3, i_4, i_5, i_6, i_7, i_8, i_9, i_10, i_11, i_12, i_16, i_18, i_20, i_24, i_28, i_29, i_30, i_31, i_32, i_33, i_34, i_35, i_37, i_40, i_41, i_42, i_43, i_45, i_46, i_47, i_48, i_57, i_59, i_63, i_64, i_96, i_97, i_98, i_99, i_100, i_101, i_102, i_103, i_104, i_105, i_106, i_107, i_108, i_109, i_110, i_111, i_112, i_113, i_122, i_200, i_255, i_256, i_257, i_258, i_355, i_400, i_999, i_1000, i_1200, i_5680, i_9999, i_10000, i_99999, j_0, j_1, j_2, j_3, j_4, j_5, j_6, j_9, j_10, j_11, j_98, j_99, j_100, j_999, j_1000, j_9999, j_10000, j_99999, j_1000000, e]
    have e0 : fX11_read N ν = fX11_read_30 N N (I_ 0) (stI (stI (stI (stI (stI ν 0 0 (I_ 0)) 0 15 (I_ n)) 0 14 (I_ 0)) 0 16 (I_ 0)) 0 17 (I_ (-1))) := by
      simp (disch := omega) only [fX11_read, Int.reduceEq, Int.reduceNe, Int.reduceLT, Int.reduceLE, Int.reduceAdd, Int.reduceSub, Int.reduceMul, Int.reduceNeg, Int.zero_add, Int.add_zero, nm_eq, bd_some, bv_some, aI_ok, aL_ok, aS_ok, dv_ok, dw_ok, I_add, I_sub, I_mul, I_neg, I_lt, I_le, I_eq, I_nat, J_add, J_sub, J_mul, J_neg, J_lt, J_le, J_eq, I_l, J_i, I_div, J_div, b2_0, b2_1, b2_nar, nar_0, nar_1, zr_0, zr_1, zr_b2, cmp_eq, cmp_le, cmp_lt, cmp_gt, cmp_ge, mx_I, mn_I, mx_L, mn_L, az_I, if_true, if_false, not_true_eq_false, not_false_eq_true, Bool.false_eq_true, i_0, i_1, i_2, i_3, i_4, i_5, i_6, i_7, i_8, i_9, i_10, i_11, i_12, i_16, i_18, i_20, i_24, i_28, i_29, i_30, i_31, i_32, i_33, i_34, i_35, i_37, i_40, i_41, i_42, i_43, i_45, i_46, i_47, i_48, i_57, i_59, i_63, i_64, i_96, i_97, i_98, i_99, i_100, i_101, i_102, i_103, i_104, i_105, i_106, i_107, i_108, i_109, i_110, i_111, i_112, i_113, i_122, i_200, i_255, i_256, i_257, i_258, i_355, i_400, i_999, i_1000, i_1200, i_5680, i_9999, i_10000, i_99999, j_0, j_1, j_2, j_3, j_4, j_5, j_6, j_9, j_10, j_11, j_98, j_99, j_100, j_999, j_1000, j_9999, j_10000, j_99999, j_1000000, st_I, st_I2, st_L1, st_L2, st_R1, st_R2, Nat.reduceEqDiff, Nat.reduceAdd, and_true, true_and, and_false, false_and, and_self, if_false, if_true, ht]
    rw [e0]
    exact (a1.trans e50).trans b1
  · rw [f16 _ (by omega)]; simp (disch := omega) only [st_I, st_I2, st_L1, st_L2, st_R1, st_R2, Nat.reduceEqDiff, Nat.reduceAdd, and_true, true_and, and_false, false_and, and_self, if_false, if_true]
  · rw [f16 _ (by omega)]; simp (disch := omega) only [st_I, st_I2, st_L1, st_L2, st_R1, st_R2, Nat.reduceEqDiff, Nat.reduceAdd, and_true, true_and, and_false, false_and, and_self, if_false, if_true]
  · rw [f16 _ (by omega)]; simp (disch := omega) only [st_I, st_I2, st_L1, st_L2, st_R1, st_R2, Nat.reduceEqDiff, Nat.reduceAdd, and_true, true_and, and_false, false_and, and_self, if_false, if_true]
  · rw [(g2 10 _ (by omega)).1, (g0 10 _ (by omega)).1]; exact hP j j0 j1
  · have z2 : ∀ j, j < 355 → j ≠ 32 → ν2.1 2 j = I_ 0 := fun j hj h32 => by
      rw [(b3 2 j (by omega)).1, st_ne (by omega), st_ne (by omega), st_I, if_neg (by omega)]
      have := a2 j hj
      rw [Nat.zero_add] at this
      exact this
    rcases okk_r hk with q | q | q | q | q
    · exfalso
      rw [szv_s q] at z1
      have : sN v00 = 0 := rfl
      omega
    · exfalso
      rw [szv_m q.1 q.2] at z1
      have : mN v00 = 0 := rfl
      omega
    · subst q
      have z3 : z < 24 := z1
      have v0 : v00 14 z = 0 := by unfold v00; exact if_neg (by omega)
      rw [if_neg (by omega), v0, dI_14]
      exact z2 _ (by omega) (by omega)
    · subst q
      have z3 : z < 4 := z1
      have v0 : v00 15 z = 0 := by unfold v00; exact if_neg (by omega)
      rw [if_neg (by omega), v0, dI_15]
      exact z2 _ (by omega) (by omega)
    · subst q
      have z3 : z < 6 := z1
      rw [if_neg (by omega), dI_16]
      by_cases e : z = 4
      · subst e
        show ν2.1 2 32 = I_ 10
        rw [(b3 2 32 (by omega)).1, st_ne (by omega), st_ne (by omega), at_S]
      · have v0 : v00 16 z = 0 := by unfold v00; exact if_neg (by omega)
        rw [v0]
        exact z2 _ (by omega) (by omega)
  · show ν2.1 2 34 = I_ 0
    rw [(b3 2 34 (by omega)).1, st_ne (by omega), st_ne (by omega), st_I, if_neg (by omega)]
    have := a2 34 (by omega)
    rw [Nat.zero_add] at this
    exact this
  · rw [(b3 0 18 (by omega)).1]; simp (disch := omega) only [st_I, st_I2, st_L1, st_L2, st_R1, st_R2, Nat.reduceEqDiff, Nat.reduceAdd, and_true, true_and, and_false, false_and, and_self, if_false, if_true]; rfl
  · exfalso
    have : mN v00 = 0 := rfl
    omega
  · rw [(b3 0 19 (by omega)).1]; simp (disch := omega) only [st_I, st_I2, st_L1, st_L2, st_R1, st_R2, Nat.reduceEqDiff, Nat.reduceAdd, and_true, true_and, and_false, false_and, and_self, if_false, if_true]; rfl
  · exfalso
    have : fN v00 = 0 := rfl
    omega
  · have := b2' k.toNat (by omega)
    rw [Nat.zero_add] at this
    exact this
  · rw [f16 _ (by omega)]; simp (disch := omega) only [st_I, st_I2, st_L1, st_L2, st_R1, st_R2, Nat.reduceEqDiff, Nat.reduceAdd, and_true, true_and, and_false, false_and, and_self, if_false, if_true]
  · rw [f16 _ (by omega)]; simp (disch := omega) only [st_I, st_I2, st_L1, st_L2, st_R1, st_R2, Nat.reduceEqDiff, Nat.reduceAdd, and_true, true_and, and_false, false_and, and_self, if_false, if_true]
/-- all lines -/
theorem parse_l (hT : tB T n) (hN : 500 ≤ N) (hkb : kB b) {kc : Mem → Option (Unit × Mem)} (hkc : ∀ μ, fX5_parse_69 N μ = kc μ) {kr : Mem → Option (Int32 × Mem)} (hkr : ∀ μ, fX11_read_111 N μ = kr μ) : ∀ (d mc mr : Nat) (i s : Int) (μ ν : Mem), n - s ≤ d → d < mc → d < mr → 0 ≤ i → i ≤ s → CR T n b s (-1) μ → RR T n s (-1) ν → PBx b s μ ν → ∃ (μ' ν' : Mem) (s' f' : Int), fX5_parse_28 N mc (I_ i) μ = kc μ' ∧ fX11_read_89 N mr ν = kr ν' ∧ CR T n b s' f' μ' ∧ RR T n s' f' ν' ∧ Fr (P_sp b) μ μ' ∧ Fr P_rd ν ν' ∧ (f' = -1 → PBx b s' μ' ν') := by
  have n1 := hT.2.1
  intro d
  induction d with
  | zero =>
    intro mc mr i s μ ν h1 h2 h3 h4 h5 hC hR hB
    obtain ⟨mc, rfl⟩ : ∃ mm, mc = mm + 1 := ⟨mc - 1, by omega⟩
    obtain ⟨mr, rfl⟩ : ∃ mm, mr = mm + 1 := ⟨mr - 1, by omega⟩
    have ci := hC.in_
    obtain ⟨r, hX0, hr⟩ := hR
    have i0 := hX0.2.2.2.2.1
    have hsk := hr rfl
    have hh := r_here hT hN hX0
    have hid := sk_id (T := T) i0.2
    rw [hsk] at hh hid
    have hX := hX0.at (i := s) (by omega) (by omega)
    have ks : kd T n s = 258 := by unfold kd; rw [if_neg (by omega)]
    have hbs : hb T n s = -1 := by unfold hb; rw [if_neg (by omega)]
    rw [hbs] at hh
    refine ⟨μ, stI ν 0 16 (I_ s), s, -1, ?_, ?_, hC, ⟨s, hX, fun _ => hid⟩, Fr.rf, (P_a16 Fr.rf).mono (fun k j q => at_rd q), fun _ => hB.fr hkb Fr.rf (P_a16 Fr.rf) (by omega)⟩
    · by_cases h4' : 400 ≤ i
      · simp (disch := omega) only [fX5_parse_28, Int.reduceEq, Int.reduceNe, Int.reduceLT, Int.reduceLE, Int.reduceAdd, Int.reduceSub, Int.reduceMul, Int.reduceNeg, Int.zero_add, Int.add_zero, nm_eq, bd_some, bv_some, aI_ok, aL_ok, aS_ok, dv_ok, dw_ok, I_add, I_sub, I_mul, I_neg, I_lt, I_le, I_eq, I_nat, J_add, J_sub, J_mul, J_neg, J_lt, J_le, J_eq, I_l, J_i, I_div, J_div, b2_0, b2_1, b2_nar, nar_0, nar_1, zr_0, zr_1, zr_b2, cmp_eq, cmp_le, cmp_lt, cmp_gt, cmp_ge, mx_I, mn_I, mx_L, mn_L, az_I, if_true, if_false, not_true_eq_false, not_false_eq_true, Bool.false_eq_true, i_0, i_1, i_2, i_3, i_4, i_5, i_6, i_7, i_8, i_9, i_10, i_11, i_12, i_16, i_18, i_20, i_24, i_28, i_29, i_30, i_31, i_32, i_33, i_34, i_35, i_37, i_40, i_41, i_42, i_43, i_45, i_46, i_47, i_48, i_57, i_59, i_63, i_64, i_96, i_97, i_98, i_99, i_100, i_101, i_102, i_103, i_104, i_105, i_106, i_107, i_108, i_109, i_110, i_111, i_112, i_113, i_122, i_200, i_255, i_256, i_257, i_258, i_355, i_400, i_999, i_1000, i_1200, i_5680, i_9999, i_10000, i_99999, j_0, j_1, j_2, j_3, j_4, j_5, j_6, j_9, j_10, j_11, j_98, j_99, j_100, j_999, j_1000, j_9999, j_10000, j_99999, j_1000000, h4', hkc]
      · simp (disch := omega) only [fX5_parse_28, Int.reduceEq, Int.reduceNe, Int.reduceLT, Int.reduceLE, Int.reduceAdd, Int.reduceSub, Int.reduceMul, Int.reduceNeg, Int.zero_add, Int.add_zero, nm_eq, bd_some, bv_some, aI_ok, aL_ok, aS_ok, dv_ok, dw_ok, I_add, I_sub, I_mul, I_neg, I_lt, I_le, I_eq, I_nat, J_add, J_sub, J_mul, J_neg, J_lt, J_le, J_eq, I_l, J_i, I_div, J_div, b2_0, b2_1, b2_nar, nar_0, nar_1, zr_0, zr_1, zr_b2, cmp_eq, cmp_le, cmp_lt, cmp_gt, cmp_ge, mx_I, mn_I, mx_L, mn_L, az_I, if_true, if_false, not_true_eq_false, not_false_eq_true, Bool.false_eq_true, i_0, i_1, i_2, i_3, i_4, i_5, i_6, i_7, i_8, i_9, i_10, i_11, i_12, i_16, i_18, i_20, i_24, i_28, i_29, i_30, i_31, i_32, i_33, i_34, i_35, i_37, i_40, i_41, i_42, i_43, i_45, i_46, i_47, i_48, i_57, i_59, i_63, i_64, i_96, i_97, i_98, i_99, i_100, i_101, i_102, i_103, i_104, i_105, i_106, i_107, i_108, i_109, i_110, i_111, i_112, i_113, i_122, i_200, i_255, i_256, i_257, i_258, i_355, i_400, i_999, i_1000, i_1200, i_5680, i_9999, i_10000, i_99999, j_0, j_1, j_2, j_3, j_4, j_5, j_6, j_9, j_10, j_11, j_98, j_99, j_100, j_999, j_1000, j_9999, j_10000, j_99999, j_1000000, h4', hC.2.2.2.1, ks, hkc]
    · simp (disch := omega) only [fX11_read_89, Int.reduceEq, Int.reduceNe, Int.reduceLT, Int.reduceLE, Int.reduceAdd, Int.reduceSub, Int.reduceMul, Int.reduceNeg, Int.zero_add, Int.add_zero, nm_eq, bd_some, bv_some, aI_ok, aL_ok, aS_ok, dv_ok, dw_ok, I_add, I_sub, I_mul, I_neg, I_lt, I_le, I_eq, I_nat, J_add, J_sub, J_mul, J_neg, J_lt, J_le, J_eq, I_l, J_i, I_div, J_div, b2_0, b2_1, b2_nar, nar_0, nar_1, zr_0, zr_1, zr_b2, cmp_eq, cmp_le, cmp_lt, cmp_gt, cmp_ge, mx_I, mn_I, mx_L, mn_L, az_I, if_true, if_false, not_true_eq_false, not_false_eq_true, Bool.false_eq_true, i_0, i_1, i_2, i_3, i_4, i_5, i_6, i_7, i_8, i_9, i_10, i_11, i_12, i_16, i_18, i_20, i_24, i_28, i_29, i_30, i_31, i_32, i_33, i_34, i_35, i_37, i_40, i_41, i_42, i_43, i_45, i_46, i_47, i_48, i_57, i_59, i_63, i_64, i_96, i_97, i_98, i_99, i_100, i_101, i_102, i_103, i_104, i_105, i_106, i_107, i_108, i_109, i_110, i_111, i_112, i_113, i_122, i_200, i_255, i_256, i_257, i_258, i_355, i_400, i_999, i_1000, i_1200, i_5680, i_9999, i_10000, i_99999, j_0, j_1, j_2, j_3, j_4, j_5, j_6, j_9, j_10, j_11, j_98, j_99, j_100, j_999, j_1000, j_9999, j_10000, j_99999, j_1000000, r_wq hX0, hh, hkr]
  | succ d ih =>
    intro mc mr i s μ ν h1 h2 h3 h4 h5 hC hR hB
    have hR' := hR
    obtain ⟨mc, rfl⟩ : ∃ mm, mc = mm + 1 := ⟨mc - 1, by omega⟩
    obtain ⟨mr, rfl⟩ : ∃ mm, mr = mm + 1 := ⟨mr - 1, by omega⟩
    have ci := hC.in_
    obtain ⟨r, hX0, hr⟩ := hR
    have i0 := hX0.2.2.2.2.1
    have hsk := hr rfl
    have hh := r_here hT hN hX0
    have hid := sk_id (T := T) i0.2
    rw [hsk] at hh hid
    have hX := hX0.at (i := s) (by omega) (by omega)
    by_cases hs : s < n
    · have ks : ¬ kd T n s = 258 := by
        have := hT.2.2 s
        unfold kd
        rw [if_pos hs]
        (repeat' split) <;> omega
      have kin := kd_in hT s
      have hbs : ¬ hb T n s = -1 := by
        unfold hb
        rw [if_pos hs]
        omega
      have hbi := hb_in hT s
      have h400 : ¬ 400 ≤ i := by omega
      have g16 : Fr P_at ν (stI ν 0 16 (I_ s)) := P_a16 Fr.rf
      obtain ⟨μ1, ν1, s1, f1, a1, a2, a3, a4, a5, a6, a7⟩ := B_line hT hN hkb hC ⟨s, hX, fun _ => hid⟩ (hB.fr hkb Fr.rf g16 (Int.le_refl s))
      have i1 := a3.in_
      have ec : fX5_parse_28 N (mc + 1) (I_ i) μ = fX5_parse_28 N mc (I_ (i + 1)) μ1 := by
        have : fX5_parse_28 N (mc + 1) (I_ i) μ = bv (fX5_line N μ) fun μ => bv (fX5_take N (I_ 59) μ) fun μ => fX5_parse_28 N mc (I_ (i + 1)) μ := by
          simp (disch := omega) only [fX5_parse_28, Int.reduceEq, Int.reduceNe, Int.reduceLT, Int.reduceLE, Int.reduceAdd, Int.reduceSub, Int.reduceMul, Int.reduceNeg, Int.zero_add, Int.add_zero, nm_eq, bd_some, bv_some, aI_ok, aL_ok, aS_ok, dv_ok, dw_ok, I_add, I_sub, I_mul, I_neg, I_lt, I_le, I_eq, I_nat, J_add, J_sub, J_mul, J_neg, J_lt, J_le, J_eq, I_l, J_i, I_div, J_div, b2_0, b2_1, b2_nar, nar_0, nar_1, zr_0, zr_1, zr_b2, cmp_eq, cmp_le, cmp_lt, cmp_gt, cmp_ge, mx_I, mn_I, mx_L, mn_L, az_I, if_true, if_false, not_true_eq_false, not_false_eq_true, Bool.false_eq_true, i_0, i_1, i_2, i_3, i_4, i_5, i_6, i_7, i_8, i_9, i_10, i_11, i_12, i_16, i_18, i_20, i_24, i_28, i_29, i_30, i_31, i_32, i_33, i_34, i_35, i_37, i_40, i_41, i_42, i_43, i_45, i_46, i_47, i_48, i_57, i_59, i_63, i_64, i_96, i_97, i_98, i_99, i_100, i_101, i_102, i_103, i_104, i_105, i_106, i_107, i_108, i_109, i_110, i_111, i_112, i_113, i_122, i_200, i_255, i_256, i_257, i_258, i_355, i_400, i_999, i_1000, i_1200, i_5680, i_9999, i_10000, i_99999, j_0, j_1, j_2, j_3, j_4, j_5, j_6, j_9, j_10, j_11, j_98, j_99, j_100, j_999, j_1000, j_9999, j_10000, j_99999, j_1000000, h400, hC.2.2.2.1, ks, hC.2.1]
        rw [this, ← bv_bv, a1, bv_some]
      have er : fX11_read_89 N (mr + 1) ν = fX11_read_89 N mr ν1 := by
        simp (disch := omega) only [fX11_read_89, Int.reduceEq, Int.reduceNe, Int.reduceLT, Int.reduceLE, Int.reduceAdd, Int.reduceSub, Int.reduceMul, Int.reduceNeg, Int.zero_add, Int.add_zero, nm_eq, bd_some, bv_some, aI_ok, aL_ok, aS_ok, dv_ok, dw_ok, I_add, I_sub, I_mul, I_neg, I_lt, I_le, I_eq, I_nat, J_add, J_sub, J_mul, J_neg, J_lt, J_le, J_eq, I_l, J_i, I_div, J_div, b2_0, b2_1, b2_nar, nar_0, nar_1, zr_0, zr_1, zr_b2, cmp_eq, cmp_le, cmp_lt, cmp_gt, cmp_ge, mx_I, mn_I, mx_L, mn_L, az_I, if_true, if_false, not_true_eq_false, not_false_eq_true, Bool.false_eq_true, i_0, i_1, i_2, i_3, i_4, i_5, i_6, i_7, i_8, i_9, i_10, i_11, i_12, i_16, i_18, i_20, i_24, i_28, i_29, i_30, i_31, i_32, i_33, i_34, i_35, i_37, i_40, i_41, i_42, i_43, i_45, i_46, i_47, i_48, i_57, i_59, i_63, i_64, i_96, i_97, i_98, i_99, i_100, i_101, i_102, i_103, i_104, i_105, i_106, i_107, i_108, i_109, i_110, i_111, i_112, i_113, i_122, i_200, i_255, i_256, i_257, i_258, i_355, i_400, i_999, i_1000, i_1200, i_5680, i_9999, i_10000, i_99999, j_0, j_1, j_2, j_3, j_4, j_5, j_6, j_9, j_10, j_11, j_98, j_99, j_100, j_999, j_1000, j_9999, j_10000, j_99999, j_1000000, r_wq hX0, hh, hbs, a2]
      rw [ec, er]
      by_cases hf : f1 = -1
      · subst hf
        obtain ⟨x1, x2⟩ := a7 rfl
        obtain ⟨μ2, ν2, s2, f2, b1, b2', b3, b4, b5, b6, b7⟩ := ih mc mr (i + 1) s1 μ1 ν1 (by omega) (by omega) (by omega) (by omega) (by omega) a3 a4 x2
        exact ⟨μ2, ν2, s2, f2, b1, b2', b3, b4, a5.tr b5, ((g16.mono (fun k j q => at_rd q)).tr a6).tr b6, b7⟩
      · obtain ⟨mc', rfl⟩ : ∃ m', mc = m' + 1 := ⟨mc - 1, by omega⟩
        obtain ⟨mr', rfl⟩ : ∃ m', mr = m' + 1 := ⟨mr - 1, by omega⟩
        refine ⟨μ1, ν1, s1, f1, ?_, ?_, a3, a4, a5, (g16.mono (fun k j q => at_rd q)).tr a6, fun q => absurd q hf⟩
        · have kin1 := kd_in hT s1
          by_cases h4' : 400 ≤ i + 1
          · simp (disch := omega) only [fX5_parse_28, Int.reduceEq, Int.reduceNe, Int.reduceLT, Int.reduceLE, Int.reduceAdd, Int.reduceSub, Int.reduceMul, Int.reduceNeg, Int.zero_add, Int.add_zero, nm_eq, bd_some, bv_some, aI_ok, aL_ok, aS_ok, dv_ok, dw_ok, I_add, I_sub, I_mul, I_neg, I_lt, I_le, I_eq, I_nat, J_add, J_sub, J_mul, J_neg, J_lt, J_le, J_eq, I_l, J_i, I_div, J_div, b2_0, b2_1, b2_nar, nar_0, nar_1, zr_0, zr_1, zr_b2, cmp_eq, cmp_le, cmp_lt, cmp_gt, cmp_ge, mx_I, mn_I, mx_L, mn_L, az_I, if_true, if_false, not_true_eq_false, not_false_eq_true, Bool.false_eq_true, i_0, i_1, i_2, i_3, i_4, i_5, i_6, i_7, i_8, i_9, i_10, i_11, i_12, i_16, i_18, i_20, i_24, i_28, i_29, i_30, i_31, i_32, i_33, i_34, i_35, i_37, i_40, i_41, i_42, i_43, i_45, i_46, i_47, i_48, i_57, i_59, i_63, i_64, i_96, i_97, i_98, i_99, i_100, i_101, i_102, i_103, i_104, i_105, i_106, i_107, i_108, i_109, i_110, i_111, i_112, i_113, i_122, i_200, i_255, i_256, i_257, i_258, i_355, i_400, i_999, i_1000, i_1200, i_5680, i_9999, i_10000, i_99999, j_0, j_1, j_2, j_3, j_4, j_5, j_6, j_9, j_10, j_11, j_98, j_99, j_100, j_999, j_1000, j_9999, j_10000, j_99999, j_1000000, h4', hkc]
          · by_cases ks1 : kd T n s1 = 258
            · simp (disch := omega) only [fX5_parse_28, Int.reduceEq, Int.reduceNe, Int.reduceLT, Int.reduceLE, Int.reduceAdd, Int.reduceSub, Int.reduceMul, Int.reduceNeg, Int.zero_add, Int.add_zero, nm_eq, bd_some, bv_some, aI_ok, aL_ok, aS_ok, dv_ok, dw_ok, I_add, I_sub, I_mul, I_neg, I_lt, I_le, I_eq, I_nat, J_add, J_sub, J_mul, J_neg, J_lt, J_le, J_eq, I_l, J_i, I_div, J_div, b2_0, b2_1, b2_nar, nar_0, nar_1, zr_0, zr_1, zr_b2, cmp_eq, cmp_le, cmp_lt, cmp_gt, cmp_ge, mx_I, mn_I, mx_L, mn_L, az_I, if_true, if_false, not_true_eq_false, not_false_eq_true, Bool.false_eq_true, i_0, i_1, i_2, i_3, i_4, i_5, i_6, i_7, i_8, i_9, i_10, i_11, i_12, i_16, i_18, i_20, i_24, i_28, i_29, i_30, i_31, i_32, i_33, i_34, i_35, i_37, i_40, i_41, i_42, i_43, i_45, i_46, i_47, i_48, i_57, i_59, i_63, i_64, i_96, i_97, i_98, i_99, i_100, i_101, i_102, i_103, i_104, i_105, i_106, i_107, i_108, i_109, i_110, i_111, i_112, i_113, i_122, i_200, i_255, i_256, i_257, i_258, i_355, i_400, i_999, i_1000, i_1200, i_5680, i_9999, i_10000, i_99999, j_0, j_1, j_2, j_3, j_4, j_5, j_6, j_9, j_10, j_11, j_98, j_99, j_100, j_999, j_1000, j_9999, j_10000, j_99999, j_1000000, h4', a3.2.2.2.1, ks1, hkc]
            · simp (disch := omega) only [fX5_parse_28, Int.reduceEq, Int.reduceNe, Int.reduceLT, Int.reduceLE, Int.reduceAdd, Int.reduceSub, Int.reduceMul, Int.reduceNeg, Int.zero_add, Int.add_zero, nm_eq, bd_some, bv_some, aI_ok, aL_ok, aS_ok, dv_ok, dw_ok, I_add, I_sub, I_mul, I_neg, I_lt, I_le, I_eq, I_nat, J_add, J_sub, J_mul, J_neg, J_lt, J_le, J_eq, I_l, J_i, I_div, J_div, b2_0, b2_1, b2_nar, nar_0, nar_1, zr_0, zr_1, zr_b2, cmp_eq, cmp_le, cmp_lt, cmp_gt, cmp_ge, mx_I, mn_I, mx_L, mn_L, az_I, if_true, if_false, not_true_eq_false, not_false_eq_true, Bool.false_eq_true, i_0, i_1, i_2, i_3, i_4, i_5, i_6, i_7, i_8, i_9, i_10, i_11, i_12, i_16, i_18, i_20, i_24, i_28, i_29, i_30, i_31, i_32, i_33, i_34, i_35, i_37, i_40, i_41, i_42, i_43, i_45, i_46, i_47, i_48, i_57, i_59, i_63, i_64, i_96, i_97, i_98, i_99, i_100, i_101, i_102, i_103, i_104, i_105, i_106, i_107, i_108, i_109, i_110, i_111, i_112, i_113, i_122, i_200, i_255, i_256, i_257, i_258, i_355, i_400, i_999, i_1000, i_1200, i_5680, i_9999, i_10000, i_99999, j_0, j_1, j_2, j_3, j_4, j_5, j_6, j_9, j_10, j_11, j_98, j_99, j_100, j_999, j_1000, j_9999, j_10000, j_99999, j_1000000, h4', a3.2.2.2.1, ks1, a3.2.1, hf, hkc]
        · simp (disch := omega) only [fX11_read_89, Int.reduceEq, Int.reduceNe, Int.reduceLT, Int.reduceLE, Int.reduceAdd, Int.reduceSub, Int.reduceMul, Int.reduceNeg, Int.zero_add, Int.add_zero, nm_eq, bd_some, bv_some, aI_ok, aL_ok, aS_ok, dv_ok, dw_ok, I_add, I_sub, I_mul, I_neg, I_lt, I_le, I_eq, I_nat, J_add, J_sub, J_mul, J_neg, J_lt, J_le, J_eq, I_l, J_i, I_div, J_div, b2_0, b2_1, b2_nar, nar_0, nar_1, zr_0, zr_1, zr_b2, cmp_eq, cmp_le, cmp_lt, cmp_gt, cmp_ge, mx_I, mn_I, mx_L, mn_L, az_I, if_true, if_false, not_true_eq_false, not_false_eq_true, Bool.false_eq_true, i_0, i_1, i_2, i_3, i_4, i_5, i_6, i_7, i_8, i_9, i_10, i_11, i_12, i_16, i_18, i_20, i_24, i_28, i_29, i_30, i_31, i_32, i_33, i_34, i_35, i_37, i_40, i_41, i_42, i_43, i_45, i_46, i_47, i_48, i_57, i_59, i_63, i_64, i_96, i_97, i_98, i_99, i_100, i_101, i_102, i_103, i_104, i_105, i_106, i_107, i_108, i_109, i_110, i_111, i_112, i_113, i_122, i_200, i_255, i_256, i_257, i_258, i_355, i_400, i_999, i_1000, i_1200, i_5680, i_9999, i_10000, i_99999, j_0, j_1, j_2, j_3, j_4, j_5, j_6, j_9, j_10, j_11, j_98, j_99, j_100, j_999, j_1000, j_9999, j_10000, j_99999, j_1000000, a4.wq, hf, hkr]
    · have ks : kd T n s = 258 := by unfold kd; rw [if_neg (by omega)]
      have hbs : hb T n s = -1 := by unfold hb; rw [if_neg (by omega)]
      rw [hbs] at hh
      refine ⟨μ, stI ν 0 16 (I_ s), s, -1, ?_, ?_, hC, ⟨s, hX, fun _ => hid⟩, Fr.rf, (P_a16 Fr.rf).mono (fun k j q => at_rd q), fun _ => hB.fr hkb Fr.rf (P_a16 Fr.rf) (by omega)⟩
      · by_cases h4' : 400 ≤ i
        · simp (disch := omega) only [fX5_parse_28, Int.reduceEq, Int.reduceNe, Int.reduceLT, Int.reduceLE, Int.reduceAdd, Int.reduceSub, Int.reduceMul, Int.reduceNeg, Int.zero_add, Int.add_zero, nm_eq, bd_some, bv_some, aI_ok, aL_ok, aS_ok, dv_ok, dw_ok, I_add, I_sub, I_mul, I_neg, I_lt, I_le, I_eq, I_nat, J_add, J_sub, J_mul, J_neg, J_lt, J_le, J_eq, I_l, J_i, I_div, J_div, b2_0, b2_1, b2_nar, nar_0, nar_1, zr_0, zr_1, zr_b2, cmp_eq, cmp_le, cmp_lt, cmp_gt, cmp_ge, mx_I, mn_I, mx_L, mn_L, az_I, if_true, if_false, not_true_eq_false, not_false_eq_true, Bool.false_eq_true, i_0, i_1, i_2, i_3, i_4, i_5, i_6, i_7, i_8, i_9, i_10, i_11, i_12, i_16, i_18, i_20, i_24, i_28, i_29, i_30, i_31, i_32, i_33, i_34, i_35, i_37, i_40, i_41, i_42, i_43, i_45, i_46, i_47, i_48, i_57, i_59, i_63, i_64, i_96, i_97, i_98, i_99, i_100, i_101, i_102, i_103, i_104, i_105, i_106, i_107, i_108, i_109, i_110, i_111, i_112, i_113, i_122, i_200, i_255, i_256, i_257, i_258, i_355, i_400, i_999, i_1000, i_1200, i_5680, i_9999, i_10000, i_99999, j_0, j_1, j_2, j_3, j_4, j_5, j_6, j_9, j_10, j_11, j_98, j_99, j_100, j_999, j_1000, j_9999, j_10000, j_99999, j_1000000, h4', hkc]
        · simp (disch := omega) only [fX5_parse_28, Int.reduceEq, Int.reduceNe, Int.reduceLT, Int.reduceLE, Int.reduceAdd, Int.reduceSub, Int.reduceMul, Int.reduceNeg, Int.zero_add, Int.add_zero, nm_eq, bd_some, bv_some, aI_ok, aL_ok, aS_ok, dv_ok, dw_ok, I_add, I_sub, I_mul, I_neg, I_lt, I_le, I_eq, I_nat, J_add, J_sub, J_mul, J_neg, J_lt, J_le, J_eq, I_l, J_i, I_div, J_div, b2_0, b2_1, b2_nar, nar_0, nar_1, zr_0, zr_1, zr_b2, cmp_eq, cmp_le, cmp_lt, cmp_gt, cmp_ge, mx_I, mn_I, mx_L, mn_L, az_I, if_true, if_false, not_true_eq_false, not_false_eq_true, Bool.false_eq_true, i_0, i_1, i_2, i_3, i_4, i_5, i_6, i_7, i_8, i_9, i_10, i_11, i_12, i_16, i_18, i_20, i_24, i_28, i_29, i_30, i_31, i_32, i_33, i_34, i_35, i_37, i_40, i_41, i_42, i_43, i_45, i_46, i_47, i_48, i_57, i_59, i_63, i_64, i_96, i_97, i_98, i_99, i_100, i_101, i_102, i_103, i_104, i_105, i_106, i_107, i_108, i_109, i_110, i_111, i_112, i_113, i_122, i_200, i_255, i_256, i_257, i_258, i_355, i_400, i_999, i_1000, i_1200, i_5680, i_9999, i_10000, i_99999, j_0, j_1, j_2, j_3, j_4, j_5, j_6, j_9, j_10, j_11, j_98, j_99, j_100, j_999, j_1000, j_9999, j_10000, j_99999, j_1000000, h4', hC.2.2.2.1, ks, hkc]
      · simp (disch := omega) only [fX11_read_89, Int.reduceEq, Int.reduceNe, Int.reduceLT, Int.reduceLE, Int.reduceAdd, Int.reduceSub, Int.reduceMul, Int.reduceNeg, Int.zero_add, Int.add_zero, nm_eq, bd_some, bv_some, aI_ok, aL_ok, aS_ok, dv_ok, dw_ok, I_add, I_sub, I_mul, I_neg, I_lt, I_le, I_eq, I_nat, J_add, J_sub, J_mul, J_neg, J_lt, J_le, J_eq, I_l, J_i, I_div, J_div, b2_0, b2_1, b2_nar, nar_0, nar_1, zr_0, zr_1, zr_b2, cmp_eq, cmp_le, cmp_lt, cmp_gt, cmp_ge, mx_I, mn_I, mx_L, mn_L, az_I, if_true, if_false, not_true_eq_false, not_false_eq_true, Bool.false_eq_true, i_0, i_1, i_2, i_3, i_4, i_5, i_6, i_7, i_8, i_9, i_10, i_11, i_12, i_16, i_18, i_20, i_24, i_28, i_29, i_30, i_31, i_32, i_33, i_34, i_35, i_37, i_40, i_41, i_42, i_43, i_45, i_46, i_47, i_48, i_57, i_59, i_63, i_64, i_96, i_97, i_98, i_99, i_100, i_101, i_102, i_103, i_104, i_105, i_106, i_107, i_108, i_109, i_110, i_111, i_112, i_113, i_122, i_200, i_255, i_256, i_257, i_258, i_355, i_400, i_999, i_1000, i_1200, i_5680, i_9999, i_10000, i_99999, j_0, j_1, j_2, j_3, j_4, j_5, j_6, j_9, j_10, j_11, j_98, j_99, j_100, j_999, j_1000, j_9999, j_10000, j_99999, j_1000000, r_wq hX0, hh, hkr]
end
