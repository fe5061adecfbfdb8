/-! The reference's tables of names: q the row of numbers, its count in the cell (0, qc). -/
def NR (q qc : Nat) (c : Int) (P : Int → Int) (ν : Mem) : Prop := ν.1 0 qc = I_ c ∧ ∀ i, 0 ≤ i → i < c → ν.1 q i.toNat = I_ (P i)
theorem NR.F {q qc : Nat} {c : Int} {Q : Int → Int} {P : Nat → Nat → Prop} {ν ν' : Mem} (h : NR q qc c Q ν) (g : Fr P ν ν') (hp : ∀ k j, P k j → k ≠ q ∧ ¬ (k = 0 ∧ j = qc)) : NR q qc c Q ν' := by
  refine ⟨?_, fun i h0 h1 => ?_⟩
  · rw [(g 0 qc (fun w => (hp _ _ w).2 ⟨rfl, rfl⟩)).1]; exact h.1
  · rw [(g q _ (fun w => (hp _ _ w).1 rfl)).1]; exact h.2 i h0 h1
section
variable {T : Int → Int} {n s f r c : Int} {L : Int → Int} {A : Int → Int → Int} {N : Nat} {ν : Mem}
theorem r_nh36 (hT : tB T n) (hX : RX T n s f ν) {l : Int} (hl : l ≤ we T n s - s) (l6 : l ≤ 6) : ∀ (d m j : Nat), d < m → (j : Int) + d = l → fX11_nameHere_36 N m (I_ l) (I_ (pk (fun i => T (s + i)) j)) (I_ j) ν = some (I_ (pk (fun i => T (s + i)) l.toNat), ν) := by
  have i0 := hX.2.2.2.2.1
  have n1 := hT.2.1
  have hw := we_in (T := T) (n := n) (i := s) (by omega)
  have hq := w_lets (T := T) (n := n) (s := s) (by omega)
  intro d
  induction d with
  | zero =>
    intro m j h1 h2
    obtain ⟨m, rfl⟩ : ∃ mm, m = mm + 1 := ⟨m - 1, by omega⟩
    have hle : l ≤ j := by omega
    have e : l.toNat = j := by omega
    rw [e]
    simp (disch := omega) only [fX11_nameHere_36, Int.reduceEq, Int.reduceNe, Int.reduceLT, Int.reduceLE, Int.reduceAdd, Int.reduceSub, Int.reduceMul, Int.reduceNeg, Int.zero_add, Int.add_zero, nm_eq, bd_some, bv_some, aI_ok, aL_ok, aS_ok, dv_ok, dw_ok, I_add, I_sub, I_mul, I_neg, I_lt, I_le, I_eq, I_nat, J_add, J_sub, J_mul, J_neg, J_lt, J_le, J_eq, I_l, J_i, I_div, J_div, b2_0, b2_1, b2_nar, nar_0, nar_1, zr_0, zr_1, zr_b2, cmp_eq, cmp_le, cmp_lt, cmp_gt, cmp_ge, mx_I, mn_I, mx_L, mn_L, az_I, if_true, if_false, not_true_eq_false, not_false_eq_true, Bool.false_eq_true, i_0, i_1, i_2, i_3, i_4, i_5, i_6, i_7, i_8, i_9, i_10, i_11, i_12, i_16, i_18, i_20, i_24, i_28, i_29, i_30, i_31, i_32, i_33, i_34, i_35, i_37, i_40, i_41, i_42, i_43, i_45, i_46, i_47, i_48, i_57, i_59, i_63, i_64, i_96, i_97, i_98, i_99, i_100, i_101, i_102, i_103, i_104, i_105, i_106, i_107, i_108, i_109, i_110, i_111, i_112, i_113, i_122, i_200, i_255, i_256, i_257, i_258, i_355, i_400, i_999, i_1000, i_1200, i_5680, i_9999, i_10000, i_99999, j_0, j_1, j_2, j_3, j_4, j_5, j_6, j_9, j_10, j_11, j_98, j_99, j_100, j_999, j_1000, j_9999, j_10000, j_99999, j_1000000, hle]
  | succ d ih =>
    intro m j h1 h2
    obtain ⟨m, rfl⟩ : ∃ mm, m = mm + 1 := ⟨m - 1, by omega⟩
    have hle : ¬ l ≤ j := by omega
    have hv := hX.2.2.2.1 (s + j) (by omega) (by omega)
    have b1 := hq j (by omega)
    have b2' : 97 ≤ T (s + j) ∧ T (s + j) ≤ 122 := b1
    have p0 := pk_0 (a := fun i => T (s + i)) (d := j) (fun i hi => hq i (by omega))
    have hi := ih m (j + 1) (by omega) (by omega)
    rw [show ((j + 1 : Nat) : Int) = (j : Int) + 1 by omega] at hi
    have ep : pk (fun i => T (s + i)) (j + 1) = pk (fun i => T (s + i)) j * 32 + (T (s + j) - 96) := rfl
    rw [ep] at hi
    have es := I_shl5 (v := pk (fun i => T (s + i)) j) (x := T (s + j) - 96) p0 (by omega) (by omega)
    have e31 : (31 : Int32) = I_ 31 := rfl
    rw [e31] at es
    simp (disch := omega) only [fX11_nameHere_36, Int.reduceEq, Int.reduceNe, Int.reduceLT, Int.reduceLE, Int.reduceAdd, Int.reduceSub, Int.reduceMul, Int.reduceNeg, Int.zero_add, Int.add_zero, nm_eq, bd_some, bv_some, aI_ok, aL_ok, aS_ok, dv_ok, dw_ok, I_add, I_sub, I_mul, I_neg, I_lt, I_le, I_eq, I_nat, J_add, J_sub, J_mul, J_neg, J_lt, J_le, J_eq, I_l, J_i, I_div, J_div, b2_0, b2_1, b2_nar, nar_0, nar_1, zr_0, zr_1, zr_b2, cmp_eq, cmp_le, cmp_lt, cmp_gt, cmp_ge, mx_I, mn_I, mx_L, mn_L, az_I, if_true, if_false, not_true_eq_false, not_false_eq_true, Bool.false_eq_true, i_0, i_1, i_2, i_3, i_4, i_5, i_6, i_7, i_8, i_9, i_10, i_11, i_12, i_16, i_18, i_20, i_24, i_28, i_29, i_30, i_31, i_32, i_33, i_34, i_35, i_37, i_40, i_41, i_42, i_43, i_45, i_46, i_47, i_48, i_57, i_59, i_63, i_64, i_96, i_97, i_98, i_99, i_100, i_101, i_102, i_103, i_104, i_105, i_106, i_107, i_108, i_109, i_110, i_111, i_112, i_113, i_122, i_200, i_255, i_256, i_257, i_258, i_355, i_400, i_999, i_1000, i_1200, i_5680, i_9999, i_10000, i_99999, j_0, j_1, j_2, j_3, j_4, j_5, j_6, j_9, j_10, j_11, j_98, j_99, j_100, j_999, j_1000, j_9999, j_10000, j_99999, j_1000000, hle, hX.2.2.1, hv, es, hi]
theorem r_nameHere (hT : tB T n) (hN : 500 ≤ N) (hX : RX T n r f ν) : fX11_nameHere N ν = some (I_ (if f = -1 ∧ nmK T n (sk T n r) = true then wpk T n (sk T n r) else 0), stI ν 0 16 (I_ (sk T n r))) := by
  have i0 := hX.2.2.2.2.1
  have h6 := hX.2.2.2.2.2
  have n1 := hT.2.1
  have hi := sk_in (T := T) i0.2
  have hid := sk_id (T := T) i0.2
  have hY := hX.at (i := sk T n r) (by omega) (by omega)
  have hl := r_wl hT hN hX
  revert hi hid hY hl
  generalize sk T n r = z
  intro hi hid hY hl
  have hw := we_in (T := T) (n := n) (i := z) (by omega)
  by_cases hf : f = -1
  · by_cases h1 : we T n z - z < 1
    · rw [if_neg (fun q => by have := q.2; rw [nmK_y] at this; omega)]
      simp (disch := omega) only [fX11_nameHere, Int.reduceEq, Int.reduceNe, Int.reduceLT, Int.reduceLE, Int.reduceAdd, Int.reduceSub, Int.reduceMul, Int.reduceNeg, Int.zero_add, Int.add_zero, nm_eq, bd_some, bv_some, aI_ok, aL_ok, aS_ok, dv_ok, dw_ok, I_add, I_sub, I_mul, I_neg, I_lt, I_le, I_eq, I_nat, J_add, J_sub, J_mul, J_neg, J_lt, J_le, J_eq, I_l, J_i, I_div, J_div, b2_0, b2_1, b2_nar, nar_0, nar_1, zr_0, zr_1, zr_b2, cmp_eq, cmp_le, cmp_lt, cmp_gt, cmp_ge, mx_I, mn_I, mx_L, mn_L, az_I, if_true, if_false, not_true_eq_false, not_false_eq_true, Bool.false_eq_true, i_0, i_1, i_2, i_3, i_4, i_5, i_6, i_7, i_8, i_9, i_10, i_11, i_12, i_16, i_18, i_20, i_24, i_28, i_29, i_30, i_31, i_32, i_33, i_34, i_35, i_37, i_40, i_41, i_42, i_43, i_45, i_46, i_47, i_48, i_57, i_59, i_63, i_64, i_96, i_97, i_98, i_99, i_100, i_101, i_102, i_103, i_104, i_105, i_106, i_107, i_108, i_109, i_110, i_111, i_112, i_113, i_122, i_200, i_255, i_256, i_257, i_258, i_355, i_400, i_999, i_1000, i_1200, i_5680, i_9999, i_10000, i_99999, j_0, j_1, j_2, j_3, j_4, j_5, j_6, j_9, j_10, j_11, j_98, j_99, j_100, j_999, j_1000, j_9999, j_10000, j_99999, j_1000000, hl, r_wq hY, hf, h1]
    · by_cases h2 : 6 < we T n z - z
      · rw [if_neg (fun q => by have := q.2; rw [nmK_y] at this; omega)]
        simp (disch := omega) only [fX11_nameHere, Int.reduceEq, Int.reduceNe, Int.reduceLT, Int.reduceLE, Int.reduceAdd, Int.reduceSub, Int.reduceMul, Int.reduceNeg, Int.zero_add, Int.add_zero, nm_eq, bd_some, bv_some, aI_ok, aL_ok, aS_ok, dv_ok, dw_ok, I_add, I_sub, I_mul, I_neg, I_lt, I_le, I_eq, I_nat, J_add, J_sub, J_mul, J_neg, J_lt, J_le, J_eq, I_l, J_i, I_div, J_div, b2_0, b2_1, b2_nar, nar_0, nar_1, zr_0, zr_1, zr_b2, cmp_eq, cmp_le, cmp_lt, cmp_gt, cmp_ge, mx_I, mn_I, mx_L, mn_L, az_I, if_true, if_false, not_true_eq_false, not_false_eq_true, Bool.false_eq_true, i_0, i_1, i_2, i_3, i_4, i_5, i_6, i_7, i_8, i_9, i_10, i_11, i_12, i_16, i_18, i_20, i_24, i_28, i_29, i_30, i_31, i_32, i_33, i_34, i_35, i_37, i_40, i_41, i_42, i_43, i_45, i_46, i_47, i_48, i_57, i_59, i_63, i_64, i_96, i_97, i_98, i_99, i_100, i_101, i_102, i_103, i_104, i_105, i_106, i_107, i_108, i_109, i_110, i_111, i_112, i_113, i_122, i_200, i_255, i_256, i_257, i_258, i_355, i_400, i_999, i_1000, i_1200, i_5680, i_9999, i_10000, i_99999, j_0, j_1, j_2, j_3, j_4, j_5, j_6, j_9, j_10, j_11, j_98, j_99, j_100, j_999, j_1000, j_9999, j_10000, j_99999, j_1000000, hl, r_wq hY, hf, h1, h2]
      · have hk := r_keyw hT hN hY hid
        by_cases h3 : kwd T n z = -1
        · rw [if_pos ⟨hf, by rw [nmK_y]; exact ⟨by omega, by omega, h3⟩⟩]
          have := r_nh36 (N := N) hT hY (l := we T n z - z) (by omega) (by omega) (we T n z - z).toNat N 0 (by omega) (by omega)
          unfold wpk
          rw [← this]
          simp (disch := omega) only [fX11_nameHere, Int.reduceEq, Int.reduceNe, Int.reduceLT, Int.reduceLE, Int.reduceAdd, Int.reduceSub, Int.reduceMul, Int.reduceNeg, Int.zero_add, Int.add_zero, nm_eq, bd_some, bv_some, aI_ok, aL_ok, aS_ok, dv_ok, dw_ok, I_add, I_sub, I_mul, I_neg, I_lt, I_le, I_eq, I_nat, J_add, J_sub, J_mul, J_neg, J_lt, J_le, J_eq, I_l, J_i, I_div, J_div, b2_0, b2_1, b2_nar, nar_0, nar_1, zr_0, zr_1, zr_b2, cmp_eq, cmp_le, cmp_lt, cmp_gt, cmp_ge, mx_I, mn_I, mx_L, mn_L, az_I, if_true, if_false, not_true_eq_false, not_false_eq_true, Bool.false_eq_true, i_0, i_1, i_2, i_3, i_4, i_5, i_6, i_7, i_8, i_9, i_10, i_11, i_12, i_16, i_18, i_20, i_24, i_28, i_29, i_30, i_31, i_32, i_33, i_34, i_35, i_37, i_40, i_41, i_42, i_43, i_45, i_46, i_47, i_48, i_57, i_59, i_63, i_64, i_96, i_97, i_98, i_99, i_100, i_101, i_102, i_103, i_104, i_105, i_106, i_107, i_108, i_109, i_110, i_111, i_112, i_113, i_122, i_200, i_255, i_256, i_257, i_258, i_355, i_400, i_999, i_1000, i_1200, i_5680, i_9999, i_10000, i_99999, j_0, j_1, j_2, j_3, j_4, j_5, j_6, j_9, j_10, j_11, j_98, j_99, j_100, j_999, j_1000, j_9999, j_10000, j_99999, j_1000000, hl, r_wq hY, hf, h1, h2, hk, h3]
          rfl
        · rw [if_neg (fun q => by have := q.2; rw [nmK_y] at this; omega)]
          simp (disch := omega) only [fX11_nameHere, Int.reduceEq, Int.reduceNe, Int.reduceLT, Int.reduceLE, Int.reduceAdd, Int.reduceSub, Int.reduceMul, Int.reduceNeg, Int.zero_add, Int.add_zero, nm_eq, bd_some, bv_some, aI_ok, aL_ok, aS_ok, dv_ok, dw_ok, I_add, I_sub, I_mul, I_neg, I_lt, I_le, I_eq, I_nat, J_add, J_sub, J_mul, J_neg, J_lt, J_le, J_eq, I_l, J_i, I_div, J_div, b2_0, b2_1, b2_nar, nar_0, nar_1, zr_0, zr_1, zr_b2, cmp_eq, cmp_le, cmp_lt, cmp_gt, cmp_ge, mx_I, mn_I, mx_L, mn_L, az_I, if_true, if_false, not_true_eq_false, not_false_eq_true, Bool.false_eq_true, i_0, i_1, i_2, i_3, i_4, i_5, i_6, i_7, i_8, i_9, i_10, i_11, i_12, i_16, i_18, i_20, i_24, i_28, i_29, i_30, i_31, i_32, i_33, i_34, i_35, i_37, i_40, i_41, i_42, i_43, i_45, i_46, i_47, i_48, i_57, i_59, i_63, i_64, i_96, i_97, i_98, i_99, i_100, i_101, i_102, i_103, i_104, i_105, i_106, i_107, i_108, i_109, i_110, i_111, i_112, i_113, i_122, i_200, i_255, i_256, i_257, i_258, i_355, i_400, i_999, i_1000, i_1200, i_5680, i_9999, i_10000, i_99999, j_0, j_1, j_2, j_3, j_4, j_5, j_6, j_9, j_10, j_11, j_98, j_99, j_100, j_999, j_1000, j_9999, j_10000, j_99999, j_1000000, hl, r_wq hY, hf, h1, h2, hk, h3]
  · rw [if_neg (fun q => hf q.1)]
    simp (disch := omega) only [fX11_nameHere, Int.reduceEq, Int.reduceNe, Int.reduceLT, Int.reduceLE, Int.reduceAdd, Int.reduceSub, Int.reduceMul, Int.reduceNeg, Int.zero_add, Int.add_zero, nm_eq, bd_some, bv_some, aI_ok, aL_ok, aS_ok, dv_ok, dw_ok, I_add, I_sub, I_mul, I_neg, I_lt, I_le, I_eq, I_nat, J_add, J_sub, J_mul, J_neg, J_lt, J_le, J_eq, I_l, J_i, I_div, J_div, b2_0, b2_1, b2_nar, nar_0, nar_1, zr_0, zr_1, zr_b2, cmp_eq, cmp_le, cmp_lt, cmp_gt, cmp_ge, mx_I, mn_I, mx_L, mn_L, az_I, if_true, if_false, not_true_eq_false, not_false_eq_true, Bool.false_eq_true, i_0, i_1, i_2, i_3, i_4, i_5, i_6, i_7, i_8, i_9, i_10, i_11, i_12, i_16, i_18, i_20, i_24, i_28, i_29, i_30, i_31, i_32, i_33, i_34, i_35, i_37, i_40, i_41, i_42, i_43, i_45, i_46, i_47, i_48, i_57, i_59, i_63, i_64, i_96, i_97, i_98, i_99, i_100, i_101, i_102, i_103, i_104, i_105, i_106, i_107, i_108, i_109, i_110, i_111, i_112, i_113, i_122, i_200, i_255, i_256, i_257, i_258, i_355, i_400, i_999, i_1000, i_1200, i_5680, i_9999, i_10000, i_99999, j_0, j_1, j_2, j_3, j_4, j_5, j_6, j_9, j_10, j_11, j_98, j_99, j_100, j_999, j_1000, j_9999, j_10000, j_99999, j_1000000, hl, r_wq hY, hf]
theorem r_find11 {P : Int → Int} {p : Int} (c0 : 0 ≤ c) (c6 : c ≤ 6) (hP : ∀ i, 0 ≤ i → i < c → 0 ≤ P i ∧ P i ≤ 1000000000) (p0 : 0 ≤ p) (p1 : p ≤ 1000000000) (hR : ∀ i, 0 ≤ i → i < c → ν.1 11 i.toNat = I_ (P i)) : ∀ (d m : Nat) (i : Int), d < m → 0 ≤ i → i + d = c → fX11_find_A11_2 N m (I_ c) (I_ p) (I_ i) ν = some (I_ (fnd P p d i), ν) := by
  intro d
  induction d with
  | zero =>
    intro m i h1 h2 h3
    obtain ⟨m, rfl⟩ : ∃ mm, m = mm + 1 := ⟨m - 1, by omega⟩
    have hle : c ≤ i := by omega
    simp (disch := omega) only [fX11_find_A11_2, Int.reduceEq, Int.reduceNe, Int.reduceLT, Int.reduceLE, Int.reduceAdd, Int.reduceSub, Int.reduceMul, Int.reduceNeg, Int.zero_add, Int.add_zero, nm_eq, bd_some, bv_some, aI_ok, aL_ok, aS_ok, dv_ok, dw_ok, I_add, I_sub, I_mul, I_neg, I_lt, I_le, I_eq, I_nat, J_add, J_sub, J_mul, J_neg, J_lt, J_le, J_eq, I_l, J_i, I_div, J_div, b2_0, b2_1, b2_nar, nar_0, nar_1, zr_0, zr_1, zr_b2, cmp_eq, cmp_le, cmp_lt, cmp_gt, cmp_ge, mx_I, mn_I, mx_L, mn_L, az_I, if_true, if_false, not_true_eq_false, not_false_eq_true, Bool.false_eq_true, i_0, i_1, i_2, i_3, i_4, i_5, i_6, i_7, i_8, i_9, i_10, i_11, i_12, i_16, i_18, i_20, i_24, i_28, i_29, i_30, i_31, i_32, i_33, i_34, i_35, i_37, i_40, i_41, i_42, i_43, i_45, i_46, i_47, i_48, i_57, i_59, i_63, i_64, i_96, i_97, i_98, i_99, i_100, i_101, i_102, i_103, i_104, i_105, i_106, i_107, i_108, i_109, i_110, i_111, i_112, i_113, i_122, i_200, i_255, i_256, i_257, i_258, i_355, i_400, i_999, i_1000, i_1200, i_5680, i_9999, i_10000, i_99999, j_0, j_1, j_2, j_3, j_4, j_5, j_6, j_9, j_10, j_11, j_98, j_99, j_100, j_999, j_1000, j_9999, j_10000, j_99999, j_1000000, hle]
    rfl
  | succ d ih =>
    intro m i h1 h2 h3
    obtain ⟨m, rfl⟩ : ∃ mm, m = mm + 1 := ⟨m - 1, by omega⟩
    have hle : ¬ c ≤ i := by omega
    have b := hP i h2 (by omega)
    by_cases q : P i = p
    · have e : fnd P p (d + 1) i = i := if_pos q
      rw [e]
      simp (disch := omega) only [fX11_find_A11_2, Int.reduceEq, Int.reduceNe, Int.reduceLT, Int.reduceLE, Int.reduceAdd, Int.reduceSub, Int.reduceMul, Int.reduceNeg, Int.zero_add, Int.add_zero, nm_eq, bd_some, bv_some, aI_ok, aL_ok, aS_ok, dv_ok, dw_ok, I_add, I_sub, I_mul, I_neg, I_lt, I_le, I_eq, I_nat, J_add, J_sub, J_mul, J_neg, J_lt, J_le, J_eq, I_l, J_i, I_div, J_div, b2_0, b2_1, b2_nar, nar_0, nar_1, zr_0, zr_1, zr_b2, cmp_eq, cmp_le, cmp_lt, cmp_gt, cmp_ge, mx_I, mn_I, mx_L, mn_L, az_I, if_true, if_false, not_true_eq_false, not_false_eq_true, Bool.false_eq_true, i_0, i_1, i_2, i_3, i_4, i_5, i_6, i_7, i_8, i_9, i_10, i_11, i_12, i_16, i_18, i_20, i_24, i_28, i_29, i_30, i_31, i_32, i_33, i_34, i_35, i_37, i_40, i_41, i_42, i_43, i_45, i_46, i_47, i_48, i_57, i_59, i_63, i_64, i_96, i_97, i_98, i_99, i_100, i_101, i_102, i_103, i_104, i_105, i_106, i_107, i_108, i_109, i_110, i_111, i_112, i_113, i_122, i_200, i_255, i_256, i_257, i_258, i_355, i_400, i_999, i_1000, i_1200, i_5680, i_9999, i_10000, i_99999, j_0, j_1, j_2, j_3, j_4, j_5, j_6, j_9, j_10, j_11, j_98, j_99, j_100, j_999, j_1000, j_9999, j_10000, j_99999, j_1000000, hle, hR i h2 (by omega), q]
    · have e : fnd P p (d + 1) i = fnd P p d (i + 1) := if_neg q
      rw [e, ← ih m (i + 1) (by omega) (by omega) (by omega)]
      simp (disch := omega) only [fX11_find_A11_2, Int.reduceEq, Int.reduceNe, Int.reduceLT, Int.reduceLE, Int.reduceAdd, Int.reduceSub, Int.reduceMul, Int.reduceNeg, Int.zero_add, Int.add_zero, nm_eq, bd_some, bv_some, aI_ok, aL_ok, aS_ok, dv_ok, dw_ok, I_add, I_sub, I_mul, I_neg, I_lt, I_le, I_eq, I_nat, J_add, J_sub, J_mul, J_neg, J_lt, J_le, J_eq, I_l, J_i, I_div, J_div, b2_0, b2_1, b2_nar, nar_0, nar_1, zr_0, zr_1, zr_b2, cmp_eq, cmp_le, cmp_lt, cmp_gt, cmp_ge, mx_I, mn_I, mx_L, mn_L, az_I, if_true, if_false, not_true_eq_false, not_false_eq_true, Bool.false_eq_true, i_0, i_1, i_2, i_3, i_4, i_5, i_6, i_7, i_8, i_9, i_10, i_11, i_12, i_16, i_18, i_20, i_24, i_28, i_29, i_30, i_31, i_32, i_33, i_34, i_35, i_37, i_40, i_41, i_42, i_43, i_45, i_46, i_47, i_48, i_57, i_59, i_63, i_64, i_96, i_97, i_98, i_99, i_100, i_101, i_102, i_103, i_104, i_105, i_106, i_107, i_108, i_109, i_110, i_111, i_112, i_113, i_122, i_200, i_255, i_256, i_257, i_258, i_355, i_400, i_999, i_1000, i_1200, i_5680, i_9999, i_10000, i_99999, j_0, j_1, j_2, j_3, j_4, j_5, j_6, j_9, j_10, j_11, j_98, j_99, j_100, j_999, j_1000, j_9999, j_10000, j_99999, j_1000000, hle, hR i h2 (by omega), q]
theorem r_find12 {P : Int → Int} {p : Int} (c0 : 0 ≤ c) (c6 : c ≤ 4) (hP : ∀ i, 0 ≤ i → i < c → 0 ≤ P i ∧ P i ≤ 1000000000) (p0 : 0 ≤ p) (p1 : p ≤ 1000000000) (hR : ∀ i, 0 ≤ i → i < c → ν.1 12 i.toNat = I_ (P i)) : ∀ (d m : Nat) (i : Int), d < m → 0 ≤ i → i + d = c → fX11_find_A12_2 N m (I_ c) (I_ p) (I_ i) ν = some (I_ (fnd P p d i), ν) := by
  intro d
  induction d with
  | zero =>
    intro m i h1 h2 h3
    obtain ⟨m, rfl⟩ : ∃ mm, m = mm + 1 := ⟨m - 1, by omega⟩
    have hle : c ≤ i := by omega
    simp (disch := omega) only [fX11_find_A12_2, Int.reduceEq, Int.reduceNe, Int.reduceLT, Int.reduceLE, Int.reduceAdd, Int.reduceSub, Int.reduceMul, Int.reduceNeg, Int.zero_add, Int.add_zero, nm_eq, bd_some, bv_some, aI_ok, aL_ok, aS_ok, dv_ok, dw_ok, I_add, I_sub, I_mul, I_neg, I_lt, I_le, I_eq, I_nat, J_add, J_sub, J_mul, J_neg, J_lt, J_le, J_eq, I_l, J_i, I_div, J_div, b2_0, b2_1, b2_nar, nar_0, nar_1, zr_0, zr_1, zr_b2, cmp_eq, cmp_le, cmp_lt, cmp_gt, cmp_ge, mx_I, mn_I, mx_L, mn_L, az_I, if_true, if_false, not_true_eq_false, not_false_eq_true, Bool.false_eq_true, i_0, i_1, i_2, i_3, i_4, i_5, i_6, i_7, i_8, i_9, i_10, i_11, i_12, i_16, i_18, i_20, i_24, i_28, i_29, i_30, i_31, i_32, i_33, i_34, i_35, i_37, i_40, i_41, i_42, i_43, i_45, i_46, i_47, i_48, i_57, i_59, i_63, i_64, i_96, i_97, i_98, i_99, i_100, i_101, i_102, i_103, i_104, i_105, i_106, i_107, i_108, i_109, i_110, i_111, i_112, i_113, i_122, i_200, i_255, i_256, i_257, i_258, i_355, i_400, i_999, i_1000, i_1200, i_5680, i_9999, i_10000, i_99999, j_0, j_1, j_2, j_3, j_4, j_5, j_6, j_9, j_10, j_11, j_98, j_99, j_100, j_999, j_1000, j_9999, j_10000, j_99999, j_1000000, hle]
    rfl
  | succ d ih =>
    intro m i h1 h2 h3
    obtain ⟨m, rfl⟩ : ∃ mm, m = mm + 1 := ⟨m - 1, by omega⟩
    have hle : ¬ c ≤ i := by omega
    have b := hP i h2 (by omega)
    by_cases q : P i = p
    · have e : fnd P p (d + 1) i = i := if_pos q
      rw [e]
      simp (disch := omega) only [fX11_find_A12_2, Int.reduceEq, Int.reduceNe, Int.reduceLT, Int.reduceLE, Int.reduceAdd, Int.reduceSub, Int.reduceMul, Int.reduceNeg, Int.zero_add, Int.add_zero, nm_eq, bd_some, bv_some, aI_ok, aL_ok, aS_ok, dv_ok, dw_ok, I_add, I_sub, I_mul, I_neg, I_lt, I_le, I_eq, I_nat, J_add, J_sub, J_mul, J_neg, J_lt, J_le, J_eq, I_l, J_i, I_div, J_div, b2_0, b2_1, b2_nar, nar_0, nar_1, zr_0, zr_1, zr_b2, cmp_eq, cmp_le, cmp_lt, cmp_gt, cmp_ge, mx_I, mn_I, mx_L, mn_L, az_I, if_true, if_false, not_true_eq_false, not_false_eq_true, Bool.false_eq_true, i_0, i_1, i_2, i_3, i_4, i_5, i_6, i_7, i_8, i_9, i_10, i_11, i_12, i_16, i_18, i_20, i_24, i_28, i_29, i_30, i_31, i_32, i_33, i_34, i_35, i_37, i_40, i_41, i_42, i_43, i_45, i_46, i_47, i_48, i_57, i_59, i_63, i_64, i_96, i_97, i_98, i_99, i_100, i_101, i_102, i_103, i_104, i_105, i_106, i_107, i_108, i_109, i_110, i_111, i_112, i_113, i_122, i_200, i_255, i_256, i_257, i_258, i_355, i_400, i_999, i_1000, i_1200, i_5680, i_9999, i_10000, i_99999, j_0, j_1, j_2, j_3, j_4, j_5, j_6, j_9, j_10, j_11, j_98, j_99, j_100, j_999, j_1000, j_9999, j_10000, j_99999, j_1000000, hle, hR i h2 (by omega), q]
    · have e : fnd P p (d + 1) i = fnd P p d (i + 1) := if_neg q
      rw [e, ← ih m (i + 1) (by omega) (by omega) (by omega)]
      simp (disch := omega) only [fX11_find_A12_2, Int.reduceEq, Int.reduceNe, Int.reduceLT, Int.reduceLE, Int.reduceAdd, Int.reduceSub, Int.reduceMul, Int.reduceNeg, Int.zero_add, Int.add_zero, nm_eq, bd_some, bv_some, aI_ok, aL_ok, aS_ok, dv_ok, dw_ok, I_add, I_sub, I_mul, I_neg, I_lt, I_le, I_eq, I_nat, J_add, J_sub, J_mul, J_neg, J_lt, J_le, J_eq, I_l, J_i, I_div, J_div, b2_0, b2_1, b2_nar, nar_0, nar_1, zr_0, zr_1, zr_b2, cmp_eq, cmp_le, cmp_lt, cmp_gt, cmp_ge, mx_I, mn_I, mx_L, mn_L, az_I, if_true, if_false, not_true_eq_false, not_false_eq_true, Bool.false_eq_true, i_0, i_1, i_2, i_3, i_4, i_5, i_6, i_7, i_8, i_9, i_10, i_11, i_12, i_16, i_18, i_20, i_24, i_28, i_29, i_30, i_31, i_32, i_33, i_34, i_35, i_37, i_40, i_41, i_42, i_43, i_45, i_46, i_47, i_48, i_57, i_59, i_63, i_64, i_96, i_97, i_98, i_99, i_100, i_101, i_102, i_103, i_104, i_105, i_106, i_107, i_108, i_109, i_110, i_111, i_112, i_113, i_122, i_200, i_255, i_256, i_257, i_258, i_355, i_400, i_999, i_1000, i_1200, i_5680, i_9999, i_10000, i_99999, j_0, j_1, j_2, j_3, j_4, j_5, j_6, j_9, j_10, j_11, j_98, j_99, j_100, j_999, j_1000, j_9999, j_10000, j_99999, j_1000000, hle, hR i h2 (by omega), q]
theorem pP_in (hV : NV c L A) {i : Int} (i0 : 0 ≤ i) (i1 : i < c) : 0 ≤ pP L A i ∧ pP L A i ≤ 1000000000 := by
  have h := hV.2.2 i i0 i1
  exact ⟨pk_0 h.2.1, pk_6 (by omega) h.2.1⟩
theorem wpk_in (hs : s ≤ n) (h : nmK T n s = true) : 1 ≤ wpk T n s ∧ wpk T n s ≤ 1000000000 := by
  rw [nmK_y] at h
  have hw := w_lets (T := T) (n := n) (s := s) hs
  unfold wpk
  refine ⟨?_, pk_6 (by omega) hw⟩
  obtain ⟨d, e⟩ : ∃ d, (we T n s - s).toNat = d + 1 := ⟨(we T n s - s).toNat - 1, by omega⟩
  rw [e] at hw ⊢
  exact pk_1 hw
/-- firm: g = 1 (row 12), model: g = 0 (row 11) -/
theorem r_told (hT : tB T n) (hN : 500 ≤ N) {g : Int} {qc : Nat} (hg : (g = 0 ∧ qc = 18 ∧ c ≤ 6) ∨ (g = 1 ∧ qc = 19 ∧ c ≤ 4)) (hV : NV c L A) (h : RR T n s f ν) (hR : NR (if g = 0 then 11 else 12) qc c (pP L A) ν) (s0 : 0 ≤ s) (s1 : s ≤ n) : ∃ ν', fX11_told N (I_ g) ν = some (I_ (if f = -1 ∧ 0 ≤ tdx T n s c (pP L A) then tdx T n s c (pP L A) else 0), ν') ∧ RR T n (oS T n (0 ≤ tdx T n s c (pP L A)) s f) (oF (0 ≤ tdx T n s c (pP L A)) s f) ν' ∧ Fr P_at ν ν' := by
  obtain ⟨r, hX, hr⟩ := h
  have i0 := hX.2.2.2.2.1
  have h6 := hX.2.2.2.2.2
  have n1 := hT.2.1
  have c0 := hV.1
  have hi := sk_in (T := T) i0.2
  have hid := sk_id (T := T) i0.2
  have hY := hX.at (i := sk T n r) (by omega) (by omega)
  have hnm := r_nameHere hT hN hX
  have hw := r_wr (N := N) hY
  have g0 : g = 0 ∨ g = 1 := by omega
  by_cases hf : f = -1
  · subst hf
    rw [hr rfl] at hnm hi hid hY hw
    rw [if_pos rfl] at hw
    by_cases hk : nmK T n s = true
    · rw [if_pos ⟨rfl, hk⟩] at hnm
      have hp := wpk_in s1 hk
      have p0 : ¬ wpk T n s = 0 := by omega
      have k256 := nmK_256 s1 hk
      have et : tdx T n s c (pP L A) = fnd (pP L A) (wpk T n s) c.toNat 0 := if_pos k256
      have fi := fnd_nat (P := pP L A) (p := wpk T n s) c0
      have hR' : NR (if g = 0 then 11 else 12) qc c (pP L A) (stI ν 0 16 (I_ s)) := hR.F (P := fun k j => k = 0 ∧ j = 16) (Fr.rf.stI ⟨rfl, rfl⟩) (fun k j q => by rcases hg with ⟨a, c, d⟩ | ⟨a, c, d⟩ <;> (subst a; subst c; rw [q.1, q.2]; decide))
      have e44 : fX11_told N (I_ g) ν = fX11_told_44 N (I_ (fnd (pP L A) (wpk T n s) c.toNat 0)) (stI ν 0 16 (I_ s)) := by
        rcases hg with ⟨a, d, e⟩ | ⟨a, d, e⟩
        · subst a; subst d
          rw [if_pos rfl] at hR'
          have := r_find11 (N := N) (P := pP L A) (p := wpk T n s) c0 e (fun i a b => pP_in hV a b) (by omega) hp.2 hR'.2 c.toNat N 0 (by omega) (by omega) (by omega)
          simp (disch := omega) only [fX11_told, fX11_find_A11, Int.reduceEq, Int.reduceNe, Int.reduceLT, Int.reduceLE, Int.reduceAdd, Int.reduceSub, Int.reduceMul, Int.reduceNeg, Int.zero_add, Int.add_zero, nm_eq, bd_some, bv_some, aI_ok, aL_ok, aS_ok, dv_ok, dw_ok, I_add, I_sub, I_mul, I_neg, I_lt, I_le, I_eq, I_nat, J_add, J_sub, J_mul, J_neg, J_lt, J_le, J_eq, I_l, J_i, I_div, J_div, b2_0, b2_1, b2_nar, nar_0, nar_1, zr_0, zr_1, zr_b2, cmp_eq, cmp_le, cmp_lt, cmp_gt, cmp_ge, mx_I, mn_I, mx_L, mn_L, az_I, if_true, if_false, not_true_eq_false, not_false_eq_true, Bool.false_eq_true, i_0, i_1, i_2, i_3, i_4, i_5, i_6, i_7, i_8, i_9, i_10, i_11, i_12, i_16, i_18, i_20, i_24, i_28, i_29, i_30, i_31, i_32, i_33, i_34, i_35, i_37, i_40, i_41, i_42, i_43, i_45, i_46, i_47, i_48, i_57, i_59, i_63, i_64, i_96, i_97, i_98, i_99, i_100, i_101, i_102, i_103, i_104, i_105, i_106, i_107, i_108, i_109, i_110, i_111, i_112, i_113, i_122, i_200, i_255, i_256, i_257, i_258, i_355, i_400, i_999, i_1000, i_1200, i_5680, i_9999, i_10000, i_99999, j_0, j_1, j_2, j_3, j_4, j_5, j_6, j_9, j_10, j_11, j_98, j_99, j_100, j_999, j_1000, j_9999, j_10000, j_99999, j_1000000, hnm, p0, hR'.1, this]
        · subst a; subst d
          rw [if_neg (by omega)] at hR'
          have := r_find12 (N := N) (P := pP L A) (p := wpk T n s) c0 e (fun i a b => pP_in hV a b) (by omega) hp.2 hR'.2 c.toNat N 0 (by omega) (by omega) (by omega)
          simp (disch := omega) only [fX11_told, fX11_find_A12, Int.reduceEq, Int.reduceNe, Int.reduceLT, Int.reduceLE, Int.reduceAdd, Int.reduceSub, Int.reduceMul, Int.reduceNeg, Int.zero_add, Int.add_zero, nm_eq, bd_some, bv_some, aI_ok, aL_ok, aS_ok, dv_ok, dw_ok, I_add, I_sub, I_mul, I_neg, I_lt, I_le, I_eq, I_nat, J_add, J_sub, J_mul, J_neg, J_lt, J_le, J_eq, I_l, J_i, I_div, J_div, b2_0, b2_1, b2_nar, nar_0, nar_1, zr_0, zr_1, zr_b2, cmp_eq, cmp_le, cmp_lt, cmp_gt, cmp_ge, mx_I, mn_I, mx_L, mn_L, az_I, if_true, if_false, not_true_eq_false, not_false_eq_true, Bool.false_eq_true, i_0, i_1, i_2, i_3, i_4, i_5, i_6, i_7, i_8, i_9, i_10, i_11, i_12, i_16, i_18, i_20, i_24, i_28, i_29, i_30, i_31, i_32, i_33, i_34, i_35, i_37, i_40, i_41, i_42, i_43, i_45, i_46, i_47, i_48, i_57, i_59, i_63, i_64, i_96, i_97, i_98, i_99, i_100, i_101, i_102, i_103, i_104, i_105, i_106, i_107, i_108, i_109, i_110, i_111, i_112, i_113, i_122, i_200, i_255, i_256, i_257, i_258, i_355, i_400, i_999, i_1000, i_1200, i_5680, i_9999, i_10000, i_99999, j_0, j_1, j_2, j_3, j_4, j_5, j_6, j_9, j_10, j_11, j_98, j_99, j_100, j_999, j_1000, j_9999, j_10000, j_99999, j_1000000, hnm, p0, hR'.1, this]
      rw [e44, et]
      by_cases ho : 0 ≤ fnd (pP L A) (wpk T n s) c.toNat 0
      · rw [oS_y ho, oF_y ho, if_pos ⟨rfl, ho⟩]
        have hl := r_wl hT hN hY
        rw [hid, st_id hY.2.2.1] at hl
        have hwe := we_in (T := T) (n := n) (i := s) (by omega)
        have e : s + (we T n s - s) = we T n s := by omega
        have q : ¬ fnd (pP L A) (wpk T n s) c.toNat 0 = -1 := by omega
        refine ⟨stI (stI ν 0 16 (I_ s)) 0 16 (I_ (we T n s)), ?_, ⟨we T n s, hY.at (by omega) (by omega), fun _ => ?_⟩, P_a16 (P_a16 Fr.rf)⟩
        · simp (disch := omega) only [fX11_told_44, Int.reduceEq, Int.reduceNe, Int.reduceLT, Int.reduceLE, Int.reduceAdd, Int.reduceSub, Int.reduceMul, Int.reduceNeg, Int.zero_add, Int.add_zero, nm_eq, bd_some, bv_some, aI_ok, aL_ok, aS_ok, dv_ok, dw_ok, I_add, I_sub, I_mul, I_neg, I_lt, I_le, I_eq, I_nat, J_add, J_sub, J_mul, J_neg, J_lt, J_le, J_eq, I_l, J_i, I_div, J_div, b2_0, b2_1, b2_nar, nar_0, nar_1, zr_0, zr_1, zr_b2, cmp_eq, cmp_le, cmp_lt, cmp_gt, cmp_ge, mx_I, mn_I, mx_L, mn_L, az_I, if_true, if_false, not_true_eq_false, not_false_eq_true, Bool.false_eq_true, i_0, i_1, i_2, i_3, i_4, i_5, i_6, i_7, i_8, i_9, i_10, i_11, i_12, i_16, i_18, i_20, i_24, i_28, i_29, i_30, i_31, i_32, i_33, i_34, i_35, i_37, i_40, i_41, i_42, i_43, i_45, i_46, i_47, i_48, i_57, i_59, i_63, i_64, i_96, i_97, i_98, i_99, i_100, i_101, i_102, i_103, i_104, i_105, i_106, i_107, i_108, i_109, i_110, i_111, i_112, i_113, i_122, i_200, i_255, i_256, i_257, i_258, i_355, i_400, i_999, i_1000, i_1200, i_5680, i_9999, i_10000, i_99999, j_0, j_1, j_2, j_3, j_4, j_5, j_6, j_9, j_10, j_11, j_98, j_99, j_100, j_999, j_1000, j_9999, j_10000, j_99999, j_1000000, q, hY.2.2.1, hl, e]
        · unfold nx
          rw [(kd_256 k256 hT).2.2]
      · rw [oS_n ho, oF_n ho, if_neg (fun q => ho q.2)]
        have q : fnd (pP L A) (wpk T n s) c.toNat 0 = -1 := by omega
        refine ⟨stI (stI ν 0 16 (I_ s)) 0 17 (I_ s), ?_, ⟨s, hY.wr (by omega) (by omega), fun q => by omega⟩, P_a17 (P_a16 Fr.rf)⟩
        simp (disch := omega) only [fX11_told_44, Int.reduceEq, Int.reduceNe, Int.reduceLT, Int.reduceLE, Int.reduceAdd, Int.reduceSub, Int.reduceMul, Int.reduceNeg, Int.zero_add, Int.add_zero, nm_eq, bd_some, bv_some, aI_ok, aL_ok, aS_ok, dv_ok, dw_ok, I_add, I_sub, I_mul, I_neg, I_lt, I_le, I_eq, I_nat, J_add, J_sub, J_mul, J_neg, J_lt, J_le, J_eq, I_l, J_i, I_div, J_div, b2_0, b2_1, b2_nar, nar_0, nar_1, zr_0, zr_1, zr_b2, cmp_eq, cmp_le, cmp_lt, cmp_gt, cmp_ge, mx_I, mn_I, mx_L, mn_L, az_I, if_true, if_false, not_true_eq_false, not_false_eq_true, Bool.false_eq_true, i_0, i_1, i_2, i_3, i_4, i_5, i_6, i_7, i_8, i_9, i_10, i_11, i_12, i_16, i_18, i_20, i_24, i_28, i_29, i_30, i_31, i_32, i_33, i_34, i_35, i_37, i_40, i_41, i_42, i_43, i_45, i_46, i_47, i_48, i_57, i_59, i_63, i_64, i_96, i_97, i_98, i_99, i_100, i_101, i_102, i_103, i_104, i_105, i_106, i_107, i_108, i_109, i_110, i_111, i_112, i_113, i_122, i_200, i_255, i_256, i_257, i_258, i_355, i_400, i_999, i_1000, i_1200, i_5680, i_9999, i_10000, i_99999, j_0, j_1, j_2, j_3, j_4, j_5, j_6, j_9, j_10, j_11, j_98, j_99, j_100, j_999, j_1000, j_9999, j_10000, j_99999, j_1000000, q, hw]
    · rw [if_neg (fun q => hk q.2)] at hnm
      have ho : ¬ 0 ≤ tdx T n s c (pP L A) := fun q => hk (tdx_ok s1 hT hV q).2.1
      rw [oS_n ho, oF_n ho, if_neg (fun q => ho q.2)]
      refine ⟨stI (stI ν 0 16 (I_ s)) 0 17 (I_ s), ?_, ⟨s, hY.wr (by omega) (by omega), fun q => by omega⟩, P_a17 (P_a16 Fr.rf)⟩
      simp (disch := omega) only [fX11_told, fX11_told_44, Int.reduceEq, Int.reduceNe, Int.reduceLT, Int.reduceLE, Int.reduceAdd, Int.reduceSub, Int.reduceMul, Int.reduceNeg, Int.zero_add, Int.add_zero, nm_eq, bd_some, bv_some, aI_ok, aL_ok, aS_ok, dv_ok, dw_ok, I_add, I_sub, I_mul, I_neg, I_lt, I_le, I_eq, I_nat, J_add, J_sub, J_mul, J_neg, J_lt, J_le, J_eq, I_l, J_i, I_div, J_div, b2_0, b2_1, b2_nar, nar_0, nar_1, zr_0, zr_1, zr_b2, cmp_eq, cmp_le, cmp_lt, cmp_gt, cmp_ge, mx_I, mn_I, mx_L, mn_L, az_I, if_true, if_false, not_true_eq_false, not_false_eq_true, Bool.false_eq_true, i_0, i_1, i_2, i_3, i_4, i_5, i_6, i_7, i_8, i_9, i_10, i_11, i_12, i_16, i_18, i_20, i_24, i_28, i_29, i_30, i_31, i_32, i_33, i_34, i_35, i_37, i_40, i_41, i_42, i_43, i_45, i_46, i_47, i_48, i_57, i_59, i_63, i_64, i_96, i_97, i_98, i_99, i_100, i_101, i_102, i_103, i_104, i_105, i_106, i_107, i_108, i_109, i_110, i_111, i_112, i_113, i_122, i_200, i_255, i_256, i_257, i_258, i_355, i_400, i_999, i_1000, i_1200, i_5680, i_9999, i_10000, i_99999, j_0, j_1, j_2, j_3, j_4, j_5, j_6, j_9, j_10, j_11, j_98, j_99, j_100, j_999, j_1000, j_9999, j_10000, j_99999, j_1000000, hnm, hw]
  · rw [oS_f hf, oF_f hf, if_neg (fun q => hf q.1)]
    rw [if_neg hf] at hw
    rw [if_neg (fun q => hf q.1)] at hnm
    refine ⟨stI (stI ν 0 16 (I_ (sk T n r))) 0 17 (I_ f), ?_, ⟨sk T n r, hY.wr (by omega) (by omega), fun q => absurd q hf⟩, P_a17 (P_a16 Fr.rf)⟩
    simp (disch := omega) only [fX11_told, fX11_told_44, Int.reduceEq, Int.reduceNe, Int.reduceLT, Int.reduceLE, Int.reduceAdd, Int.reduceSub, Int.reduceMul, Int.reduceNeg, Int.zero_add, Int.add_zero, nm_eq, bd_some, bv_some, aI_ok, aL_ok, aS_ok, dv_ok, dw_ok, I_add, I_sub, I_mul, I_neg, I_lt, I_le, I_eq, I_nat, J_add, J_sub, J_mul, J_neg, J_lt, J_le, J_eq, I_l, J_i, I_div, J_div, b2_0, b2_1, b2_nar, nar_0, nar_1, zr_0, zr_1, zr_b2, cmp_eq, cmp_le, cmp_lt, cmp_gt, cmp_ge, mx_I, mn_I, mx_L, mn_L, az_I, if_true, if_false, not_true_eq_false, not_false_eq_true, Bool.false_eq_true, i_0, i_1, i_2, i_3, i_4, i_5, i_6, i_7, i_8, i_9, i_10, i_11, i_12, i_16, i_18, i_20, i_24, i_28, i_29, i_30, i_31, i_32, i_33, i_34, i_35, i_37, i_40, i_41, i_42, i_43, i_45, i_46, i_47, i_48, i_57, i_59, i_63, i_64, i_96, i_97, i_98, i_99, i_100, i_101, i_102, i_103, i_104, i_105, i_106, i_107, i_108, i_109, i_110, i_111, i_112, i_113, i_122, i_200, i_255, i_256, i_257, i_258, i_355, i_400, i_999, i_1000, i_1200, i_5680, i_9999, i_10000, i_99999, j_0, j_1, j_2, j_3, j_4, j_5, j_6, j_9, j_10, j_11, j_98, j_99, j_100, j_999, j_1000, j_9999, j_10000, j_99999, j_1000000, hnm, hw]
theorem r_fresh (hT : tB T n) (hN : 500 ≤ N) {g : Int} {qc : Nat} (hg : (g = 0 ∧ qc = 18 ∧ c ≤ 6) ∨ (g = 1 ∧ qc = 19 ∧ c ≤ 4)) (hV : NV c L A) (h : RR T n s f ν) (hR : NR (if g = 0 then 11 else 12) qc c (pP L A) ν) (s0 : 0 ≤ s) (s1 : s ≤ n) : ∃ ν', fX11_fresh N (I_ g) ν = some (I_ (if f = -1 ∧ nwK T n s c (pP L A) = true then wpk T n s else 0), ν') ∧ RR T n (oS T n (nwK T n s c (pP L A) = true) s f) (oF (nwK T n s c (pP L A) = true) s f) ν' ∧ Fr P_at ν ν' := by
  obtain ⟨r, hX, hr⟩ := h
  have i0 := hX.2.2.2.2.1
  have h6 := hX.2.2.2.2.2
  have n1 := hT.2.1
  have c0 := hV.1
  have hi := sk_in (T := T) i0.2
  have hid := sk_id (T := T) i0.2
  have hY := hX.at (i := sk T n r) (by omega) (by omega)
  have hnm := r_nameHere hT hN hX
  have hw := r_wr (N := N) hY
  by_cases hf : f = -1
  · subst hf
    rw [hr rfl] at hnm hi hid hY hw
    rw [if_pos rfl] at hw
    by_cases hk : nmK T n s = true
    · rw [if_pos ⟨rfl, hk⟩] at hnm
      have hp := wpk_in s1 hk
      have p0 : ¬ wpk T n s = 0 := by omega
      have k256 := nmK_256 s1 hk
      have fi := fnd_nat (P := pP L A) (p := wpk T n s) c0
      have hR' : NR (if g = 0 then 11 else 12) qc c (pP L A) (stI ν 0 16 (I_ s)) := hR.F (P := fun k j => k = 0 ∧ j = 16) (Fr.rf.stI ⟨rfl, rfl⟩) (fun k j q => by rcases hg with ⟨a, c, d⟩ | ⟨a, c, d⟩ <;> (subst a; subst c; rw [q.1, q.2]; decide))
      have e49 : fX11_fresh N (I_ g) ν = fX11_fresh_49 N (I_ (wpk T n s)) (I_ (b2 (¬ fnd (pP L A) (wpk T n s) c.toNat 0 = -1))) (stI ν 0 16 (I_ s)) := by
        rcases hg with ⟨a, d, e⟩ | ⟨a, d, e⟩
        · subst a; subst d
          rw [if_pos rfl] at hR'
          have := r_find11 (N := N) (P := pP L A) (p := wpk T n s) c0 e (fun i a b => pP_in hV a b) (by omega) hp.2 hR'.2 c.toNat N 0 (by omega) (by omega) (by omega)
          by_cases q : fnd (pP L A) (wpk T n s) c.toNat 0 = -1
          · rw [b2_f (fun w => w q)]
            rw [q] at this
            simp (disch := omega) only [fX11_fresh, fX11_find_A11, Int.reduceEq, Int.reduceNe, Int.reduceLT, Int.reduceLE, Int.reduceAdd, Int.reduceSub, Int.reduceMul, Int.reduceNeg, Int.zero_add, Int.add_zero, nm_eq, bd_some, bv_some, aI_ok, aL_ok, aS_ok, dv_ok, dw_ok, I_add, I_sub, I_mul, I_neg, I_lt, I_le, I_eq, I_nat, J_add, J_sub, J_mul, J_neg, J_lt, J_le, J_eq, I_l, J_i, I_div, J_div, b2_0, b2_1, b2_nar, nar_0, nar_1, zr_0, zr_1, zr_b2, cmp_eq, cmp_le, cmp_lt, cmp_gt, cmp_ge, mx_I, mn_I, mx_L, mn_L, az_I, if_true, if_false, not_true_eq_false, not_false_eq_true, Bool.false_eq_true, i_0, i_1, i_2, i_3, i_4, i_5, i_6, i_7, i_8, i_9, i_10, i_11, i_12, i_16, i_18, i_20, i_24, i_28, i_29, i_30, i_31, i_32, i_33, i_34, i_35, i_37, i_40, i_41, i_42, i_43, i_45, i_46, i_47, i_48, i_57, i_59, i_63, i_64, i_96, i_97, i_98, i_99, i_100, i_101, i_102, i_103, i_104, i_105, i_106, i_107, i_108, i_109, i_110, i_111, i_112, i_113, i_122, i_200, i_255, i_256, i_257, i_258, i_355, i_400, i_999, i_1000, i_1200, i_5680, i_9999, i_10000, i_99999, j_0, j_1, j_2, j_3, j_4, j_5, j_6, j_9, j_10, j_11, j_98, j_99, j_100, j_999, j_1000, j_9999, j_10000, j_99999, j_1000000, hnm, p0, hR'.1, this]
          · rw [b2_t q]
            simp (disch := omega) only [fX11_fresh, fX11_find_A11, Int.reduceEq, Int.reduceNe, Int.reduceLT, Int.reduceLE, Int.reduceAdd, Int.reduceSub, Int.reduceMul, Int.reduceNeg, Int.zero_add, Int.add_zero, nm_eq, bd_some, bv_some, aI_ok, aL_ok, aS_ok, dv_ok, dw_ok, I_add, I_sub, I_mul, I_neg, I_lt, I_le, I_eq, I_nat, J_add, J_sub, J_mul, J_neg, J_lt, J_le, J_eq, I_l, J_i, I_div, J_div, b2_0, b2_1, b2_nar, nar_0, nar_1, zr_0, zr_1, zr_b2, cmp_eq, cmp_le, cmp_lt, cmp_gt, cmp_ge, mx_I, mn_I, mx_L, mn_L, az_I, if_true, if_false, not_true_eq_false, not_false_eq_true, Bool.false_eq_true, i_0, i_1, i_2, i_3, i_4, i_5, i_6, i_7, i_8, i_9, i_10, i_11, i_12, i_16, i_18, i_20, i_24, i_28, i_29, i_30, i_31, i_32, i_33, i_34, i_35, i_37, i_40, i_41, i_42, i_43, i_45, i_46, i_47, i_48, i_57, i_59, i_63, i_64, i_96, i_97, i_98, i_99, i_100, i_101, i_102, i_103, i_104, i_105, i_106, i_107, i_108, i_109, i_110, i_111, i_112, i_113, i_122, i_200, i_255, i_256, i_257, i_258, i_355, i_400, i_999, i_1000, i_1200, i_5680, i_9999, i_10000, i_99999, j_0, j_1, j_2, j_3, j_4, j_5, j_6, j_9, j_10, j_11, j_98, j_99, j_100, j_999, j_1000, j_9999, j_10000, j_99999, j_1000000, hnm, p0, hR'.1, this, q]
        · subst a; subst d
          rw [if_neg (by omega)] at hR'
          have := r_find12 (N := N) (P := pP L A) (p := wpk T n s) c0 e (fun i a b => pP_in hV a b) (by omega) hp.2 hR'.2 c.toNat N 0 (by omega) (by omega) (by omega)
          by_cases q : fnd (pP L A) (wpk T n s) c.toNat 0 = -1
          · rw [b2_f (fun w => w q)]
            rw [q] at this
            simp (disch := omega) only [fX11_fresh, fX11_find_A12, Int.reduceEq, Int.reduceNe, Int.reduceLT, Int.reduceLE, Int.reduceAdd, Int.reduceSub, Int.reduceMul, Int.reduceNeg, Int.zero_add, Int.add_zero, nm_eq, bd_some, bv_some, aI_ok, aL_ok, aS_ok, dv_ok, dw_ok, I_add, I_sub, I_mul, I_neg, I_lt, I_le, I_eq, I_nat, J_add, J_sub, J_mul, J_neg, J_lt, J_le, J_eq, I_l, J_i, I_div, J_div, b2_0, b2_1, b2_nar, nar_0, nar_1, zr_0, zr_1, zr_b2, cmp_eq, cmp_le, cmp_lt, cmp_gt, cmp_ge, mx_I, mn_I, mx_L, mn_L, az_I, if_true, if_false, not_true_eq_false, not_false_eq_true, Bool.false_eq_true, i_0, i_1, i_2, i_3, i_4, i_5, i_6, i_7, i_8, i_9, i_10, i_11, i_12, i_16, i_18, i_20, i_24, i_28, i_29, i_30, i_31, i_32, i_33, i_34, i_35, i_37, i_40, i_41, i_42, i_43, i_45, i_46, i_47, i_48, i_57, i_59, i_63, i_64, i_96, i_97, i_98, i_99, i_100, i_101, i_102, i_103, i_104, i_105, i_106, i_107, i_108, i_109, i_110, i_111, i_112, i_113, i_122, i_200, i_255, i_256, i_257, i_258, i_355, i_400, i_999, i_1000, i_1200, i_5680, i_9999, i_10000, i_99999, j_0, j_1, j_2, j_3, j_4, j_5, j_6, j_9, j_10, j_11, j_98, j_99, j_100, j_999, j_1000, j_9999, j_10000, j_99999, j_1000000, hnm, p0, hR'.1, this]
          · rw [b2_t q]
            simp (disch := omega) only [fX11_fresh, fX11_find_A12, Int.reduceEq, Int.reduceNe, Int.reduceLT, Int.reduceLE, Int.reduceAdd, Int.reduceSub, Int.reduceMul, Int.reduceNeg, Int.zero_add, Int.add_zero, nm_eq, bd_some, bv_some, aI_ok, aL_ok, aS_ok, dv_ok, dw_ok, I_add, I_sub, I_mul, I_neg, I_lt, I_le, I_eq, I_nat, J_add, J_sub, J_mul, J_neg, J_lt, J_le, J_eq, I_l, J_i, I_div, J_div, b2_0, b2_1, b2_nar, nar_0, nar_1, zr_0, zr_1, zr_b2, cmp_eq, cmp_le, cmp_lt, cmp_gt, cmp_ge, mx_I, mn_I, mx_L, mn_L, az_I, if_true, if_false, not_true_eq_false, not_false_eq_true, Bool.false_eq_true, i_0, i_1, i_2, i_3, i_4, i_5, i_6, i_7, i_8, i_9, i_10, i_11, i_12, i_16, i_18, i_20, i_24, i_28, i_29, i_30, i_31, i_32, i_33, i_34, i_35, i_37, i_40, i_41, i_42, i_43, i_45, i_46, i_47, i_48, i_57, i_59, i_63, i_64, i_96, i_97, i_98, i_99, i_100, i_101, i_102, i_103, i_104, i_105, i_106, i_107, i_108, i_109, i_110, i_111, i_112, i_113, i_122, i_200, i_255, i_256, i_257, i_258, i_355, i_400, i_999, i_1000, i_1200, i_5680, i_9999, i_10000, i_99999, j_0, j_1, j_2, j_3, j_4, j_5, j_6, j_9, j_10, j_11, j_98, j_99, j_100, j_999, j_1000, j_9999, j_10000, j_99999, j_1000000, hnm, p0, hR'.1, this, q]
      rw [e49]
      by_cases q : fnd (pP L A) (wpk T n s) c.toNat 0 = -1
      · have ho : nwK T n s c (pP L A) = true := by rw [nwK_y]; exact ⟨hk, q⟩
        rw [oS_y ho, oF_y ho, if_pos ⟨rfl, ho⟩]
        have hl := r_wl hT hN hY
        rw [hid, st_id hY.2.2.1] at hl
        have hwe := we_in (T := T) (n := n) (i := s) (by omega)
        have e : s + (we T n s - s) = we T n s := by omega
        refine ⟨stI (stI ν 0 16 (I_ s)) 0 16 (I_ (we T n s)), ?_, ⟨we T n s, hY.at (by omega) (by omega), fun _ => ?_⟩, P_a16 (P_a16 Fr.rf)⟩
        · simp (disch := omega) only [fX11_fresh_49, Int.reduceEq, Int.reduceNe, Int.reduceLT, Int.reduceLE, Int.reduceAdd, Int.reduceSub, Int.reduceMul, Int.reduceNeg, Int.zero_add, Int.add_zero, nm_eq, bd_some, bv_some, aI_ok, aL_ok, aS_ok, dv_ok, dw_ok, I_add, I_sub, I_mul, I_neg, I_lt, I_le, I_eq, I_nat, J_add, J_sub, J_mul, J_neg, J_lt, J_le, J_eq, I_l, J_i, I_div, J_div, b2_0, b2_1, b2_nar, nar_0, nar_1, zr_0, zr_1, zr_b2, cmp_eq, cmp_le, cmp_lt, cmp_gt, cmp_ge, mx_I, mn_I, mx_L, mn_L, az_I, if_true, if_false, not_true_eq_false, not_false_eq_true, Bool.false_eq_true, i_0, i_1, i_2, i_3, i_4, i_5, i_6, i_7, i_8, i_9, i_10, i_11, i_12, i_16, i_18, i_20, i_24, i_28, i_29, i_30, i_31, i_32, i_33, i_34, i_35, i_37, i_40, i_41, i_42, i_43, i_45, i_46, i_47, i_48, i_57, i_59, i_63, i_64, i_96, i_97, i_98, i_99, i_100, i_101, i_102, i_103, i_104, i_105, i_106, i_107, i_108, i_109, i_110, i_111, i_112, i_113, i_122, i_200, i_255, i_256, i_257, i_258, i_355, i_400, i_999, i_1000, i_1200, i_5680, i_9999, i_10000, i_99999, j_0, j_1, j_2, j_3, j_4, j_5, j_6, j_9, j_10, j_11, j_98, j_99, j_100, j_999, j_1000, j_9999, j_10000, j_99999, j_1000000, q, p0, hY.2.2.1, hl, e]
        · unfold nx
          rw [(kd_256 k256 hT).2.2]
      · have ho : ¬ nwK T n s c (pP L A) = true := by rw [nwK_y]; exact fun w => q w.2
        rw [oS_n ho, oF_n ho, if_neg (fun q => ho q.2)]
        refine ⟨stI (stI ν 0 16 (I_ s)) 0 17 (I_ s), ?_, ⟨s, hY.wr (by omega) (by omega), fun q => by omega⟩, P_a17 (P_a16 Fr.rf)⟩
        simp (disch := omega) only [fX11_fresh_49, Int.reduceEq, Int.reduceNe, Int.reduceLT, Int.reduceLE, Int.reduceAdd, Int.reduceSub, Int.reduceMul, Int.reduceNeg, Int.zero_add, Int.add_zero, nm_eq, bd_some, bv_some, aI_ok, aL_ok, aS_ok, dv_ok, dw_ok, I_add, I_sub, I_mul, I_neg, I_lt, I_le, I_eq, I_nat, J_add, J_sub, J_mul, J_neg, J_lt, J_le, J_eq, I_l, J_i, I_div, J_div, b2_0, b2_1, b2_nar, nar_0, nar_1, zr_0, zr_1, zr_b2, cmp_eq, cmp_le, cmp_lt, cmp_gt, cmp_ge, mx_I, mn_I, mx_L, mn_L, az_I, if_true, if_false, not_true_eq_false, not_false_eq_true, Bool.false_eq_true, i_0, i_1, i_2, i_3, i_4, i_5, i_6, i_7, i_8, i_9, i_10, i_11, i_12, i_16, i_18, i_20, i_24, i_28, i_29, i_30, i_31, i_32, i_33, i_34, i_35, i_37, i_40, i_41, i_42, i_43, i_45, i_46, i_47, i_48, i_57, i_59, i_63, i_64, i_96, i_97, i_98, i_99, i_100, i_101, i_102, i_103, i_104, i_105, i_106, i_107, i_108, i_109, i_110, i_111, i_112, i_113, i_122, i_200, i_255, i_256, i_257, i_258, i_355, i_400, i_999, i_1000, i_1200, i_5680, i_9999, i_10000, i_99999, j_0, j_1, j_2, j_3, j_4, j_5, j_6, j_9, j_10, j_11, j_98, j_99, j_100, j_999, j_1000, j_9999, j_10000, j_99999, j_1000000, q, p0, hw]
    · rw [if_neg (fun q => hk q.2)] at hnm
      have ho : ¬ nwK T n s c (pP L A) = true := by rw [nwK_y]; exact fun w => hk w.1
      rw [oS_n ho, oF_n ho, if_neg (fun q => ho q.2)]
      refine ⟨stI (stI ν 0 16 (I_ s)) 0 17 (I_ s), ?_, ⟨s, hY.wr (by omega) (by omega), fun q => by omega⟩, P_a17 (P_a16 Fr.rf)⟩
      simp (disch := omega) only [fX11_fresh, fX11_fresh_49, Int.reduceEq, Int.reduceNe, Int.reduceLT, Int.reduceLE, Int.reduceAdd, Int.reduceSub, Int.reduceMul, Int.reduceNeg, Int.zero_add, Int.add_zero, nm_eq, bd_some, bv_some, aI_ok, aL_ok, aS_ok, dv_ok, dw_ok, I_add, I_sub, I_mul, I_neg, I_lt, I_le, I_eq, I_nat, J_add, J_sub, J_mul, J_neg, J_lt, J_le, J_eq, I_l, J_i, I_div, J_div, b2_0, b2_1, b2_nar, nar_0, nar_1, zr_0, zr_1, zr_b2, cmp_eq, cmp_le, cmp_lt, cmp_gt, cmp_ge, mx_I, mn_I, mx_L, mn_L, az_I, if_true, if_false, not_true_eq_false, not_false_eq_true, Bool.false_eq_true, i_0, i_1, i_2, i_3, i_4, i_5, i_6, i_7, i_8, i_9, i_10, i_11, i_12, i_16, i_18, i_20, i_24, i_28, i_29, i_30, i_31, i_32, i_33, i_34, i_35, i_37, i_40, i_41, i_42, i_43, i_45, i_46, i_47, i_48, i_57, i_59, i_63, i_64, i_96, i_97, i_98, i_99, i_100, i_101, i_102, i_103, i_104, i_105, i_106, i_107, i_108, i_109, i_110, i_111, i_112, i_113, i_122, i_200, i_255, i_256, i_257, i_258, i_355, i_400, i_999, i_1000, i_1200, i_5680, i_9999, i_10000, i_99999, j_0, j_1, j_2, j_3, j_4, j_5, j_6, j_9, j_10, j_11, j_98, j_99, j_100, j_999, j_1000, j_9999, j_10000, j_99999, j_1000000, hnm, hw]
  · rw [oS_f hf, oF_f hf, if_neg (fun q => hf q.1)]
    rw [if_neg hf] at hw
    rw [if_neg (fun q => hf q.1)] at hnm
    refine ⟨stI (stI ν 0 16 (I_ (sk T n r))) 0 17 (I_ f), ?_, ⟨sk T n r, hY.wr (by omega) (by omega), fun q => absurd q hf⟩, P_a17 (P_a16 Fr.rf)⟩
    simp (disch := omega) only [fX11_fresh, fX11_fresh_49, Int.reduceEq, Int.reduceNe, Int.reduceLT, Int.reduceLE, Int.reduceAdd, Int.reduceSub, Int.reduceMul, Int.reduceNeg, Int.zero_add, Int.add_zero, nm_eq, bd_some, bv_some, aI_ok, aL_ok, aS_ok, dv_ok, dw_ok, I_add, I_sub, I_mul, I_neg, I_lt, I_le, I_eq, I_nat, J_add, J_sub, J_mul, J_neg, J_lt, J_le, J_eq, I_l, J_i, I_div, J_div, b2_0, b2_1, b2_nar, nar_0, nar_1, zr_0, zr_1, zr_b2, cmp_eq, cmp_le, cmp_lt, cmp_gt, cmp_ge, mx_I, mn_I, mx_L, mn_L, az_I, if_true, if_false, not_true_eq_false, not_false_eq_true, Bool.false_eq_true, i_0, i_1, i_2, i_3, i_4, i_5, i_6, i_7, i_8, i_9, i_10, i_11, i_12, i_16, i_18, i_20, i_24, i_28, i_29, i_30, i_31, i_32, i_33, i_34, i_35, i_37, i_40, i_41, i_42, i_43, i_45, i_46, i_47, i_48, i_57, i_59, i_63, i_64, i_96, i_97, i_98, i_99, i_100, i_101, i_102, i_103, i_104, i_105, i_106, i_107, i_108, i_109, i_110, i_111, i_112, i_113, i_122, i_200, i_255, i_256, i_257, i_258, i_355, i_400, i_999, i_1000, i_1200, i_5680, i_9999, i_10000, i_99999, j_0, j_1, j_2, j_3, j_4, j_5, j_6, j_9, j_10, j_11, j_98, j_99, j_100, j_999, j_1000, j_9999, j_10000, j_99999, j_1000000, hnm, hw]
end
