/-! What a piece leaves: taken (ok), or the fault at it. -/
def oS (T : Int → Int) (n : Int) (ok : Prop) [Decidable ok] (s f : Int) : Int := if f = -1 ∧ ok then nx T n s else s
def oF (ok : Prop) [Decidable ok] (s f : Int) : Int := if f = -1 then (if ok then -1 else s) else f
section
variable {T : Int → Int} {n : Int} {ok : Prop} {s f : Int}
theorem oS_y [Decidable ok] (h : ok) : oS T n ok s (-1) = nx T n s := if_pos ⟨rfl, h⟩
theorem oS_n [Decidable ok] (h : ¬ ok) : oS T n ok s f = s := if_neg (fun q => h q.2)
theorem oS_f [Decidable ok] (h : ¬ f = -1) : oS T n ok s f = s := if_neg (fun q => h q.1)
theorem oF_y [Decidable ok] (h : ok) : oF ok s (-1) = -1 := by unfold oF; rw [if_pos rfl, if_pos h]
theorem oF_n [Decidable ok] (h : ¬ ok) : oF ok s (-1) = s := by unfold oF; rw [if_pos rfl, if_neg h]
theorem oF_f [Decidable ok] (h : ¬ f = -1) : oF ok s f = f := if_neg h
theorem oF_ok [Decidable ok] (s0 : 0 ≤ s) (h : oF ok s f = -1) : f = -1 ∧ ok := by
  unfold oF at h
  by_cases hf : f = -1
  · rw [if_pos hf] at h
    by_cases ho : ok
    · exact ⟨hf, ho⟩
    · rw [if_neg ho] at h; omega
  · rw [if_neg hf] at h; exact absurd h hf
theorem oS_in [Decidable ok] (h : s ≤ n) : s ≤ oS T n ok s f ∧ oS T n ok s f ≤ n := by
  have := nx_in (T := T) h
  unfold oS
  split <;> omega
end
section
variable {T : Int → Int} {n : Int} {N b : Nat} {μ : Mem} {s f : Int}
theorem c_fail (h : CR T n b s f μ) (n1 : n ≤ 400) : ∃ μ', fX5_fail N μ = some ((), μ') ∧ CR T n b s (if f = -1 then s else f) μ' ∧ Fr P_1 μ μ' := by
  have h' := h
  obtain ⟨h1, h2, h3, h4, h5, h6, h7, h8, h9⟩ := h
  by_cases hf : f = -1
  · subst hf
    rw [if_pos rfl]
    refine ⟨stI μ 1 2 (I_ s), ?_, ⟨?_, at_S, ?_, ?_, ?_, h6, h7.st (by omega), h8, by omega, by omega⟩, P1s Fr.rf⟩
    · simp (disch := omega) only [fX5_fail, Int.reduceEq, Int.reduceNe, Int.reduceLT, Int.reduceLE, Int.reduceAdd, Int.reduceSub, Int.reduceMul, Int.reduceNeg, Int.zero_add, Int.add_zero, nm_eq, bd_some, bv_some, aI_ok, aL_ok, aS_ok, dv_ok, dw_ok, I_add, I_sub, I_mul, I_neg, I_lt, I_le, I_eq, I_nat, J_add, J_sub, J_mul, J_neg, J_lt, J_le, J_eq, I_l, J_i, I_div, J_div, b2_0, b2_1, b2_nar, nar_0, nar_1, zr_0, zr_1, zr_b2, cmp_eq, cmp_le, cmp_lt, cmp_gt, cmp_ge, mx_I, mn_I, mx_L, mn_L, az_I, if_true, if_false, not_true_eq_false, not_false_eq_true, Bool.false_eq_true, i_0, i_1, i_2, i_3, i_4, i_5, i_6, i_7, i_8, i_9, i_10, i_11, i_12, i_16, i_18, i_20, i_24, i_28, i_29, i_30, i_31, i_32, i_33, i_34, i_35, i_37, i_40, i_41, i_42, i_43, i_45, i_46, i_47, i_48, i_57, i_59, i_63, i_64, i_96, i_97, i_98, i_99, i_100, i_101, i_102, i_103, i_104, i_105, i_106, i_107, i_108, i_109, i_110, i_111, i_112, i_113, i_122, i_200, i_255, i_256, i_257, i_258, i_355, i_400, i_999, i_1000, i_1200, i_5680, i_9999, i_10000, i_99999, j_0, j_1, j_2, j_3, j_4, j_5, j_6, j_9, j_10, j_11, j_98, j_99, j_100, j_999, j_1000, j_9999, j_10000, j_99999, j_1000000, h2, h3]
    · simp (disch := omega) only [st_I, st_I2, st_L1, st_L2, st_R1, st_R2, Nat.reduceEqDiff, Nat.reduceAdd, and_true, true_and, and_false, false_and, and_self, if_false, if_true]; exact h1
    · simp (disch := omega) only [st_I, st_I2, st_L1, st_L2, st_R1, st_R2, Nat.reduceEqDiff, Nat.reduceAdd, and_true, true_and, and_false, false_and, and_self, if_false, if_true]; exact h3
    · simp (disch := omega) only [st_I, st_I2, st_L1, st_L2, st_R1, st_R2, Nat.reduceEqDiff, Nat.reduceAdd, and_true, true_and, and_false, false_and, and_self, if_false, if_true]; exact h4
    · simp (disch := omega) only [st_I, st_I2, st_L1, st_L2, st_R1, st_R2, Nat.reduceEqDiff, Nat.reduceAdd, and_true, true_and, and_false, false_and, and_self, if_false, if_true]; exact h5
  · rw [if_neg hf]
    refine ⟨μ, ?_, h', Fr.rf⟩
    simp (disch := omega) only [fX5_fail, Int.reduceEq, Int.reduceNe, Int.reduceLT, Int.reduceLE, Int.reduceAdd, Int.reduceSub, Int.reduceMul, Int.reduceNeg, Int.zero_add, Int.add_zero, nm_eq, bd_some, bv_some, aI_ok, aL_ok, aS_ok, dv_ok, dw_ok, I_add, I_sub, I_mul, I_neg, I_lt, I_le, I_eq, I_nat, J_add, J_sub, J_mul, J_neg, J_lt, J_le, J_eq, I_l, J_i, I_div, J_div, b2_0, b2_1, b2_nar, nar_0, nar_1, zr_0, zr_1, zr_b2, cmp_eq, cmp_le, cmp_lt, cmp_gt, cmp_ge, mx_I, mn_I, mx_L, mn_L, az_I, if_true, if_false, not_true_eq_false, not_false_eq_true, Bool.false_eq_true, i_0, i_1, i_2, i_3, i_4, i_5, i_6, i_7, i_8, i_9, i_10, i_11, i_12, i_16, i_18, i_20, i_24, i_28, i_29, i_30, i_31, i_32, i_33, i_34, i_35, i_37, i_40, i_41, i_42, i_43, i_45, i_46, i_47, i_48, i_57, i_59, i_63, i_64, i_96, i_97, i_98, i_99, i_100, i_101, i_102, i_103, i_104, i_105, i_106, i_107, i_108, i_109, i_110, i_111, i_112, i_113, i_122, i_200, i_255, i_256, i_257, i_258, i_355, i_400, i_999, i_1000, i_1200, i_5680, i_9999, i_10000, i_99999, j_0, j_1, j_2, j_3, j_4, j_5, j_6, j_9, j_10, j_11, j_98, j_99, j_100, j_999, j_1000, j_9999, j_10000, j_99999, j_1000000, h2, hf]
/-- the piece is taken, or it is the fault -/
theorem c_go (hT : tB T n) (hN : 500 ≤ N) (h : CR T n b s (-1) μ) {ok : Prop} [Decidable ok] : ∃ μ', (if ok then fX5_step N μ else fX5_fail N μ) = some ((), μ') ∧ CR T n b (oS T n ok s (-1)) (oF ok s (-1)) μ' ∧ Fr P_1 μ μ' := by
  by_cases ho : ok
  · rw [if_pos ho, oS_y ho, oF_y ho]
    exact c_step hT hN h
  · rw [if_neg ho, oS_n ho, oF_n ho]
    have := c_fail (N := N) h hT.2.1
    rw [if_pos rfl] at this
    exact this
theorem c_take (hT : tB T n) (hN : 500 ≤ N) {c : Int} (c0 : 0 ≤ c) (c1 : c ≤ 127) (h : CR T n b s f μ) : ∃ μ', fX5_take N (I_ c) μ = some ((), μ') ∧ CR T n b (oS T n (kd T n s = c) s f) (oF (kd T n s = c) s f) μ' ∧ Fr P_1 μ μ' := by
  have hk := kd_in hT s
  have h9 := h.2.2.2.2.2.2.2.2
  by_cases hf : f = -1
  · subst hf
    obtain ⟨μ', e1, e2, e3⟩ := c_go hT hN h (ok := kd T n s = c)
    refine ⟨μ', ?_, e2, e3⟩
    by_cases ho : kd T n s = c
    · rw [if_pos ho] at e1
      simp (disch := omega) only [fX5_take, Int.reduceEq, Int.reduceNe, Int.reduceLT, Int.reduceLE, Int.reduceAdd, Int.reduceSub, Int.reduceMul, Int.reduceNeg, Int.zero_add, Int.add_zero, nm_eq, bd_some, bv_some, aI_ok, aL_ok, aS_ok, dv_ok, dw_ok, I_add, I_sub, I_mul, I_neg, I_lt, I_le, I_eq, I_nat, J_add, J_sub, J_mul, J_neg, J_lt, J_le, J_eq, I_l, J_i, I_div, J_div, b2_0, b2_1, b2_nar, nar_0, nar_1, zr_0, zr_1, zr_b2, cmp_eq, cmp_le, cmp_lt, cmp_gt, cmp_ge, mx_I, mn_I, mx_L, mn_L, az_I, if_true, if_false, not_true_eq_false, not_false_eq_true, Bool.false_eq_true, i_0, i_1, i_2, i_3, i_4, i_5, i_6, i_7, i_8, i_9, i_10, i_11, i_12, i_16, i_18, i_20, i_24, i_28, i_29, i_30, i_31, i_32, i_33, i_34, i_35, i_37, i_40, i_41, i_42, i_43, i_45, i_46, i_47, i_48, i_57, i_59, i_63, i_64, i_96, i_97, i_98, i_99, i_100, i_101, i_102, i_103, i_104, i_105, i_106, i_107, i_108, i_109, i_110, i_111, i_112, i_113, i_122, i_200, i_255, i_256, i_257, i_258, i_355, i_400, i_999, i_1000, i_1200, i_5680, i_9999, i_10000, i_99999, j_0, j_1, j_2, j_3, j_4, j_5, j_6, j_9, j_10, j_11, j_98, j_99, j_100, j_999, j_1000, j_9999, j_10000, j_99999, j_1000000, h.2.1, h.2.2.2.1, ho, e1]
    · rw [if_neg ho] at e1
      simp (disch := omega) only [fX5_take, Int.reduceEq, Int.reduceNe, Int.reduceLT, Int.reduceLE, Int.reduceAdd, Int.reduceSub, Int.reduceMul, Int.reduceNeg, Int.zero_add, Int.add_zero, nm_eq, bd_some, bv_some, aI_ok, aL_ok, aS_ok, dv_ok, dw_ok, I_add, I_sub, I_mul, I_neg, I_lt, I_le, I_eq, I_nat, J_add, J_sub, J_mul, J_neg, J_lt, J_le, J_eq, I_l, J_i, I_div, J_div, b2_0, b2_1, b2_nar, nar_0, nar_1, zr_0, zr_1, zr_b2, cmp_eq, cmp_le, cmp_lt, cmp_gt, cmp_ge, mx_I, mn_I, mx_L, mn_L, az_I, if_true, if_false, not_true_eq_false, not_false_eq_true, Bool.false_eq_true, i_0, i_1, i_2, i_3, i_4, i_5, i_6, i_7, i_8, i_9, i_10, i_11, i_12, i_16, i_18, i_20, i_24, i_28, i_29, i_30, i_31, i_32, i_33, i_34, i_35, i_37, i_40, i_41, i_42, i_43, i_45, i_46, i_47, i_48, i_57, i_59, i_63, i_64, i_96, i_97, i_98, i_99, i_100, i_101, i_102, i_103, i_104, i_105, i_106, i_107, i_108, i_109, i_110, i_111, i_112, i_113, i_122, i_200, i_255, i_256, i_257, i_258, i_355, i_400, i_999, i_1000, i_1200, i_5680, i_9999, i_10000, i_99999, j_0, j_1, j_2, j_3, j_4, j_5, j_6, j_9, j_10, j_11, j_98, j_99, j_100, j_999, j_1000, j_9999, j_10000, j_99999, j_1000000, h.2.1, h.2.2.2.1, ho, e1]
  · rw [oS_f hf, oF_f hf]
    have := c_fail (N := N) h hT.2.1
    rw [if_neg hf] at this
    obtain ⟨μ', e1, e2, e3⟩ := this
    refine ⟨μ', ?_, e2, e3⟩
    by_cases ho : kd T n s = c
    · simp (disch := omega) only [fX5_take, Int.reduceEq, Int.reduceNe, Int.reduceLT, Int.reduceLE, Int.reduceAdd, Int.reduceSub, Int.reduceMul, Int.reduceNeg, Int.zero_add, Int.add_zero, nm_eq, bd_some, bv_some, aI_ok, aL_ok, aS_ok, dv_ok, dw_ok, I_add, I_sub, I_mul, I_neg, I_lt, I_le, I_eq, I_nat, J_add, J_sub, J_mul, J_neg, J_lt, J_le, J_eq, I_l, J_i, I_div, J_div, b2_0, b2_1, b2_nar, nar_0, nar_1, zr_0, zr_1, zr_b2, cmp_eq, cmp_le, cmp_lt, cmp_gt, cmp_ge, mx_I, mn_I, mx_L, mn_L, az_I, if_true, if_false, not_true_eq_false, not_false_eq_true, Bool.false_eq_true, i_0, i_1, i_2, i_3, i_4, i_5, i_6, i_7, i_8, i_9, i_10, i_11, i_12, i_16, i_18, i_20, i_24, i_28, i_29, i_30, i_31, i_32, i_33, i_34, i_35, i_37, i_40, i_41, i_42, i_43, i_45, i_46, i_47, i_48, i_57, i_59, i_63, i_64, i_96, i_97, i_98, i_99, i_100, i_101, i_102, i_103, i_104, i_105, i_106, i_107, i_108, i_109, i_110, i_111, i_112, i_113, i_122, i_200, i_255, i_256, i_257, i_258, i_355, i_400, i_999, i_1000, i_1200, i_5680, i_9999, i_10000, i_99999, j_0, j_1, j_2, j_3, j_4, j_5, j_6, j_9, j_10, j_11, j_98, j_99, j_100, j_999, j_1000, j_9999, j_10000, j_99999, j_1000000, h.2.1, h.2.2.2.1, ho, e1, hf]
    · simp (disch := omega) only [fX5_take, Int.reduceEq, Int.reduceNe, Int.reduceLT, Int.reduceLE, Int.reduceAdd, Int.reduceSub, Int.reduceMul, Int.reduceNeg, Int.zero_add, Int.add_zero, nm_eq, bd_some, bv_some, aI_ok, aL_ok, aS_ok, dv_ok, dw_ok, I_add, I_sub, I_mul, I_neg, I_lt, I_le, I_eq, I_nat, J_add, J_sub, J_mul, J_neg, J_lt, J_le, J_eq, I_l, J_i, I_div, J_div, b2_0, b2_1, b2_nar, nar_0, nar_1, zr_0, zr_1, zr_b2, cmp_eq, cmp_le, cmp_lt, cmp_gt, cmp_ge, mx_I, mn_I, mx_L, mn_L, az_I, if_true, if_false, not_true_eq_false, not_false_eq_true, Bool.false_eq_true, i_0, i_1, i_2, i_3, i_4, i_5, i_6, i_7, i_8, i_9, i_10, i_11, i_12, i_16, i_18, i_20, i_24, i_28, i_29, i_30, i_31, i_32, i_33, i_34, i_35, i_37, i_40, i_41, i_42, i_43, i_45, i_46, i_47, i_48, i_57, i_59, i_63, i_64, i_96, i_97, i_98, i_99, i_100, i_101, i_102, i_103, i_104, i_105, i_106, i_107, i_108, i_109, i_110, i_111, i_112, i_113, i_122, i_200, i_255, i_256, i_257, i_258, i_355, i_400, i_999, i_1000, i_1200, i_5680, i_9999, i_10000, i_99999, j_0, j_1, j_2, j_3, j_4, j_5, j_6, j_9, j_10, j_11, j_98, j_99, j_100, j_999, j_1000, j_9999, j_10000, j_99999, j_1000000, h.2.1, h.2.2.2.1, ho, e1]
/-! numbers -/
def dg (T : Int → Int) : Nat → Int → Int → Int
  | 0, _, a => a
  | d + 1, i, a => dg T d (i + 1) (a * 10 + (T i - 48))
def nv (T : Int → Int) (n s : Int) : Int := dg T (te T n s - s).toNat s 0
def nOK (T : Int → Int) (n s dl lo hi : Int) : Bool := decide (kd T n s = 257 ∧ te T n s - s ≤ dl ∧ lo ≤ nv T n s ∧ nv T n s ≤ hi)
theorem nOK_y {dl lo hi : Int} : (nOK T n s dl lo hi = true) = (kd T n s = 257 ∧ te T n s - s ≤ dl ∧ lo ≤ nv T n s ∧ nv T n s ≤ hi) := by unfold nOK; exact propext decide_eq_true_iff
theorem kd_257 (h : kd T n s = 257) (hT : tB T n) : s < n ∧ cDi (T s) = true ∧ ¬ cLe (T s) = true ∧ te T n s = de T n s := by
  unfold kd at h
  have := hT.2.2 s
  by_cases hs : s < n
  · rw [if_pos hs] at h
    by_cases hl : cLe (T s) = true
    · rw [if_pos hl] at h; omega
    · rw [if_neg hl] at h
      by_cases hd : cDi (T s) = true
      · refine ⟨hs, hd, hl, ?_⟩
        unfold te
        rw [if_pos hs, if_neg hl, if_pos hd]
      · rw [if_neg hd] at h; omega
  · rw [if_neg hs] at h; omega
theorem kd_256 (h : kd T n s = 256) (hT : tB T n) : s < n ∧ cLe (T s) = true ∧ te T n s = we T n s := by
  unfold kd at h
  have := hT.2.2 s
  by_cases hs : s < n
  · rw [if_pos hs] at h
    by_cases hl : cLe (T s) = true
    · refine ⟨hs, hl, ?_⟩
      unfold te
      rw [if_pos hs, if_pos hl]
    · rw [if_neg hl] at h
      by_cases hd : cDi (T s) = true
      · rw [if_pos hd] at h; omega
      · rw [if_neg hd] at h; omega
  · rw [if_neg hs] at h; omega
theorem kd_y (hs : s < n) (hl : cLe (T s) = true) : kd T n s = 256 := by unfold kd; rw [if_pos hs, if_pos hl]
theorem dg_in : ∀ (d : Nat) (i : Int), d ≤ 5 → (∀ j, i ≤ j → j < i + d → cDi (T j) = true) → 0 ≤ dg T d i 0 ∧ dg T d i 0 ≤ 99999 := by
  intro d i hd h
  have q : ∀ j, i ≤ j → j < i + d → 48 ≤ T j ∧ T j ≤ 57 := fun j a c => by have := h j a c; rw [cDi_y] at this; exact this
  match d, hd, q with
  | 0, _, q => show 0 ≤ (0 : Int) ∧ (0 : Int) ≤ 99999; omega
  | 1, _, q =>
    have q0 := q i (by omega) (by omega)
    unfold dg dg; omega
  | 2, _, q =>
    have q0 := q i (by omega) (by omega)
    have q1 := q (i + 1) (by omega) (by omega)
    unfold dg dg dg; omega
  | 3, _, q =>
    have q0 := q i (by omega) (by omega)
    have q1 := q (i + 1) (by omega) (by omega)
    have q2 := q (i + 1 + 1) (by omega) (by omega)
    unfold dg dg dg dg; omega
  | 4, _, q =>
    have q0 := q i (by omega) (by omega)
    have q1 := q (i + 1) (by omega) (by omega)
    have q2 := q (i + 1 + 1) (by omega) (by omega)
    have q3 := q (i + 1 + 1 + 1) (by omega) (by omega)
    unfold dg dg dg dg dg; omega
  | 5, _, q =>
    have q0 := q i (by omega) (by omega)
    have q1 := q (i + 1) (by omega) (by omega)
    have q2 := q (i + 1 + 1) (by omega) (by omega)
    have q3 := q (i + 1 + 1 + 1) (by omega) (by omega)
    have q4 := q (i + 1 + 1 + 1 + 1) (by omega) (by omega)
    unfold dg dg dg dg dg dg; omega
theorem nv_in (hT : tB T n) (h : kd T n s = 257) (hd : te T n s - s ≤ 5) : 0 ≤ nv T n s ∧ nv T n s ≤ 99999 := by
  obtain ⟨h1, h2, h3, h4⟩ := kd_257 h hT
  have hi := te_in (T := T) (n := n) (s := s) (by omega)
  refine dg_in (te T n s - s).toNat s (by omega) (fun j a c => ?_)
  refine sca_all (n - s).toNat s j a ?_
  show j < de T n s
  omega
theorem c_dig (hC : CR T n b s f μ) (n1 : n ≤ 400) : ∀ (d m : Nat) (i a : Int), d < m → s ≤ i → i + d = te T n s → fX5_digits_7 N m (I_ a) (I_ i) μ = some (I_ (dg T d i a), μ) := by
  have h8 := hC.2.2.2.2.2.2.2.1
  have hi := te_in (T := T) (n := n) (s := s) (by omega)
  intro d
  induction d with
  | zero =>
    intro m i a h1 h2 h3
    obtain ⟨m, rfl⟩ : ∃ mm, m = mm + 1 := ⟨m - 1, by omega⟩
    have hle : te T n s ≤ i := by omega
    simp (disch := omega) only [fX5_digits_7, Int.reduceEq, Int.reduceNe, Int.reduceLT, Int.reduceLE, Int.reduceAdd, Int.reduceSub, Int.reduceMul, Int.reduceNeg, Int.zero_add, Int.add_zero, nm_eq, bd_some, bv_some, aI_ok, aL_ok, aS_ok, dv_ok, dw_ok, I_add, I_sub, I_mul, I_neg, I_lt, I_le, I_eq, I_nat, J_add, J_sub, J_mul, J_neg, J_lt, J_le, J_eq, I_l, J_i, I_div, J_div, b2_0, b2_1, b2_nar, nar_0, nar_1, zr_0, zr_1, zr_b2, cmp_eq, cmp_le, cmp_lt, cmp_gt, cmp_ge, mx_I, mn_I, mx_L, mn_L, az_I, if_true, if_false, not_true_eq_false, not_false_eq_true, Bool.false_eq_true, i_0, i_1, i_2, i_3, i_4, i_5, i_6, i_7, i_8, i_9, i_10, i_11, i_12, i_16, i_18, i_20, i_24, i_28, i_29, i_30, i_31, i_32, i_33, i_34, i_35, i_37, i_40, i_41, i_42, i_43, i_45, i_46, i_47, i_48, i_57, i_59, i_63, i_64, i_96, i_97, i_98, i_99, i_100, i_101, i_102, i_103, i_104, i_105, i_106, i_107, i_108, i_109, i_110, i_111, i_112, i_113, i_122, i_200, i_255, i_256, i_257, i_258, i_355, i_400, i_999, i_1000, i_1200, i_5680, i_9999, i_10000, i_99999, j_0, j_1, j_2, j_3, j_4, j_5, j_6, j_9, j_10, j_11, j_98, j_99, j_100, j_999, j_1000, j_9999, j_10000, j_99999, j_1000000, hC.2.2.2.2.1, hle]
    rfl
  | succ d ih =>
    intro m i a h1 h2 h3
    obtain ⟨m, rfl⟩ : ∃ mm, m = mm + 1 := ⟨m - 1, by omega⟩
    have hle : ¬ te T n s ≤ i := by omega
    have hv := hC.2.2.2.2.2.2.1 i (by omega) (by omega)
    simp (disch := omega) only [fX5_digits_7, Int.reduceEq, Int.reduceNe, Int.reduceLT, Int.reduceLE, Int.reduceAdd, Int.reduceSub, Int.reduceMul, Int.reduceNeg, Int.zero_add, Int.add_zero, nm_eq, bd_some, bv_some, aI_ok, aL_ok, aS_ok, dv_ok, dw_ok, I_add, I_sub, I_mul, I_neg, I_lt, I_le, I_eq, I_nat, J_add, J_sub, J_mul, J_neg, J_lt, J_le, J_eq, I_l, J_i, I_div, J_div, b2_0, b2_1, b2_nar, nar_0, nar_1, zr_0, zr_1, zr_b2, cmp_eq, cmp_le, cmp_lt, cmp_gt, cmp_ge, mx_I, mn_I, mx_L, mn_L, az_I, if_true, if_false, not_true_eq_false, not_false_eq_true, Bool.false_eq_true, i_0, i_1, i_2, i_3, i_4, i_5, i_6, i_7, i_8, i_9, i_10, i_11, i_12, i_16, i_18, i_20, i_24, i_28, i_29, i_30, i_31, i_32, i_33, i_34, i_35, i_37, i_40, i_41, i_42, i_43, i_45, i_46, i_47, i_48, i_57, i_59, i_63, i_64, i_96, i_97, i_98, i_99, i_100, i_101, i_102, i_103, i_104, i_105, i_106, i_107, i_108, i_109, i_110, i_111, i_112, i_113, i_122, i_200, i_255, i_256, i_257, i_258, i_355, i_400, i_999, i_1000, i_1200, i_5680, i_9999, i_10000, i_99999, j_0, j_1, j_2, j_3, j_4, j_5, j_6, j_9, j_10, j_11, j_98, j_99, j_100, j_999, j_1000, j_9999, j_10000, j_99999, j_1000000, hC.2.2.2.2.1, hle, hv, ih]
    rfl
theorem c_number (hT : tB T n) (hN : 500 ≤ N) {lo hi : Int} (l0 : 0 ≤ lo) (l1 : lo ≤ hi) (l2 : hi ≤ 99999) (h : CR T n b s f μ) : ∃ μ', fX5_number N (I_ lo) (I_ hi) μ = some (I_ (if f = -1 ∧ nOK T n s 5 lo hi = true then nv T n s else -1), μ') ∧ CR T n b (oS T n (nOK T n s 5 lo hi = true) s f) (oF (nOK T n s 5 lo hi = true) s f) μ' ∧ Fr P_1 μ μ' := by
  have hk := kd_in hT s
  have n1 := hT.2.1
  have h8 := h.2.2.2.2.2.2.2.1
  have h9 := h.2.2.2.2.2.2.2.2
  have ht := te_in (T := T) (n := n) (s := s) (by omega)
  by_cases hf : f = -1
  · subst hf
    obtain ⟨μ', e1, e2, e3⟩ := c_go hT hN h (ok := nOK T n s 5 lo hi = true)
    refine ⟨μ', ?_, e2, e3⟩
    have hd := c_dig (N := N) h n1 (te T n s - s).toNat N s 0 (by omega) (by omega) (by omega)
    have hd' : fX5_digits N μ = some (I_ (nv T n s), μ) := by
      unfold fX5_digits
      rw [nm_eq, h.2.2.1]
      exact hd
    by_cases hk7 : kd T n s = 257
    · by_cases hdl : te T n s - s ≤ 5
      · have hv := nv_in hT hk7 hdl
        have h5 : ¬ 5 < te T n s - s := by omega
        by_cases hlo : lo ≤ nv T n s
        · by_cases hhi : nv T n s ≤ hi
          · have ho : nOK T n s 5 lo hi = true := by rw [nOK_y]; exact ⟨hk7, hdl, hlo, hhi⟩
            rw [if_pos ho] at e1
            rw [if_pos ⟨rfl, ho⟩]
            have hlo' : ¬ nv T n s < lo := by omega
            simp (disch := omega) only [fX5_number, fX5_number_41, Int.reduceEq, Int.reduceNe, Int.reduceLT, Int.reduceLE, Int.reduceAdd, Int.reduceSub, Int.reduceMul, Int.reduceNeg, Int.zero_add, Int.add_zero, nm_eq, bd_some, bv_some, aI_ok, aL_ok, aS_ok, dv_ok, dw_ok, I_add, I_sub, I_mul, I_neg, I_lt, I_le, I_eq, I_nat, J_add, J_sub, J_mul, J_neg, J_lt, J_le, J_eq, I_l, J_i, I_div, J_div, b2_0, b2_1, b2_nar, nar_0, nar_1, zr_0, zr_1, zr_b2, cmp_eq, cmp_le, cmp_lt, cmp_gt, cmp_ge, mx_I, mn_I, mx_L, mn_L, az_I, if_true, if_false, not_true_eq_false, not_false_eq_true, Bool.false_eq_true, i_0, i_1, i_2, i_3, i_4, i_5, i_6, i_7, i_8, i_9, i_10, i_11, i_12, i_16, i_18, i_20, i_24, i_28, i_29, i_30, i_31, i_32, i_33, i_34, i_35, i_37, i_40, i_41, i_42, i_43, i_45, i_46, i_47, i_48, i_57, i_59, i_63, i_64, i_96, i_97, i_98, i_99, i_100, i_101, i_102, i_103, i_104, i_105, i_106, i_107, i_108, i_109, i_110, i_111, i_112, i_113, i_122, i_200, i_255, i_256, i_257, i_258, i_355, i_400, i_999, i_1000, i_1200, i_5680, i_9999, i_10000, i_99999, j_0, j_1, j_2, j_3, j_4, j_5, j_6, j_9, j_10, j_11, j_98, j_99, j_100, j_999, j_1000, j_9999, j_10000, j_99999, j_1000000, h.2.1, h.2.2.2.1, h.2.2.1, h.2.2.2.2.1, hk7, h5, hd', hlo', hhi, e1]
          · have ho : ¬ nOK T n s 5 lo hi = true := by rw [nOK_y]; exact fun q => hhi q.2.2.2
            rw [if_neg ho] at e1
            rw [if_neg (fun q => ho q.2)]
            have hlo' : ¬ nv T n s < lo := by omega
            simp (disch := omega) only [fX5_number, fX5_number_41, Int.reduceEq, Int.reduceNe, Int.reduceLT, Int.reduceLE, Int.reduceAdd, Int.reduceSub, Int.reduceMul, Int.reduceNeg, Int.zero_add, Int.add_zero, nm_eq, bd_some, bv_some, aI_ok, aL_ok, aS_ok, dv_ok, dw_ok, I_add, I_sub, I_mul, I_neg, I_lt, I_le, I_eq, I_nat, J_add, J_sub, J_mul, J_neg, J_lt, J_le, J_eq, I_l, J_i, I_div, J_div, b2_0, b2_1, b2_nar, nar_0, nar_1, zr_0, zr_1, zr_b2, cmp_eq, cmp_le, cmp_lt, cmp_gt, cmp_ge, mx_I, mn_I, mx_L, mn_L, az_I, if_true, if_false, not_true_eq_false, not_false_eq_true, Bool.false_eq_true, i_0, i_1, i_2, i_3, i_4, i_5, i_6, i_7, i_8, i_9, i_10, i_11, i_12, i_16, i_18, i_20, i_24, i_28, i_29, i_30, i_31, i_32, i_33, i_34, i_35, i_37, i_40, i_41, i_42, i_43, i_45, i_46, i_47, i_48, i_57, i_59, i_63, i_64, i_96, i_97, i_98, i_99, i_100, i_101, i_102, i_103, i_104, i_105, i_106, i_107, i_108, i_109, i_110, i_111, i_112, i_113, i_122, i_200, i_255, i_256, i_257, i_258, i_355, i_400, i_999, i_1000, i_1200, i_5680, i_9999, i_10000, i_99999, j_0, j_1, j_2, j_3, j_4, j_5, j_6, j_9, j_10, j_11, j_98, j_99, j_100, j_999, j_1000, j_9999, j_10000, j_99999, j_1000000, h.2.1, h.2.2.2.1, h.2.2.1, h.2.2.2.2.1, hk7, h5, hd', hlo', hhi, e1]
        · have ho : ¬ nOK T n s 5 lo hi = true := by rw [nOK_y]; exact fun q => hlo q.2.2.1
          rw [if_neg ho] at e1
          rw [if_neg (fun q => ho q.2)]
          have hlo' : nv T n s < lo := by omega
          simp (disch := omega) only [fX5_number, fX5_number_41, Int.reduceEq, Int.reduceNe, Int.reduceLT, Int.reduceLE, Int.reduceAdd, Int.reduceSub, Int.reduceMul, Int.reduceNeg, Int.zero_add, Int.add_zero, nm_eq, bd_some, bv_some, aI_ok, aL_ok, aS_ok, dv_ok, dw_ok, I_add, I_sub, I_mul, I_neg, I_lt, I_le, I_eq, I_nat, J_add, J_sub, J_mul, J_neg, J_lt, J_le, J_eq, I_l, J_i, I_div, J_div, b2_0, b2_1, b2_nar, nar_0, nar_1, zr_0, zr_1, zr_b2, cmp_eq, cmp_le, cmp_lt, cmp_gt, cmp_ge, mx_I, mn_I, mx_L, mn_L, az_I, if_true, if_false, not_true_eq_false, not_false_eq_true, Bool.false_eq_true, i_0, i_1, i_2, i_3, i_4, i_5, i_6, i_7, i_8, i_9, i_10, i_11, i_12, i_16, i_18, i_20, i_24, i_28, i_29, i_30, i_31, i_32, i_33, i_34, i_35, i_37, i_40, i_41, i_42, i_43, i_45, i_46, i_47, i_48, i_57, i_59, i_63, i_64, i_96, i_97, i_98, i_99, i_100, i_101, i_102, i_103, i_104, i_105, i_106, i_107, i_108, i_109, i_110, i_111, i_112, i_113, i_122, i_200, i_255, i_256, i_257, i_258, i_355, i_400, i_999, i_1000, i_1200, i_5680, i_9999, i_10000, i_99999, j_0, j_1, j_2, j_3, j_4, j_5, j_6, j_9, j_10, j_11, j_98, j_99, j_100, j_999, j_1000, j_9999, j_10000, j_99999, j_1000000, h.2.1, h.2.2.2.1, h.2.2.1, h.2.2.2.2.1, hk7, h5, hd', hlo', e1]
      · have ho : ¬ nOK T n s 5 lo hi = true := by rw [nOK_y]; exact fun q => hdl q.2.1
        rw [if_neg ho] at e1
        rw [if_neg (fun q => ho q.2)]
        have h5 : 5 < te T n s - s := by omega
        have hlo' : -1 < lo := by omega
        simp (disch := omega) only [fX5_number, fX5_number_41, Int.reduceEq, Int.reduceNe, Int.reduceLT, Int.reduceLE, Int.reduceAdd, Int.reduceSub, Int.reduceMul, Int.reduceNeg, Int.zero_add, Int.add_zero, nm_eq, bd_some, bv_some, aI_ok, aL_ok, aS_ok, dv_ok, dw_ok, I_add, I_sub, I_mul, I_neg, I_lt, I_le, I_eq, I_nat, J_add, J_sub, J_mul, J_neg, J_lt, J_le, J_eq, I_l, J_i, I_div, J_div, b2_0, b2_1, b2_nar, nar_0, nar_1, zr_0, zr_1, zr_b2, cmp_eq, cmp_le, cmp_lt, cmp_gt, cmp_ge, mx_I, mn_I, mx_L, mn_L, az_I, if_true, if_false, not_true_eq_false, not_false_eq_true, Bool.false_eq_true, i_0, i_1, i_2, i_3, i_4, i_5, i_6, i_7, i_8, i_9, i_10, i_11, i_12, i_16, i_18, i_20, i_24, i_28, i_29, i_30, i_31, i_32, i_33, i_34, i_35, i_37, i_40, i_41, i_42, i_43, i_45, i_46, i_47, i_48, i_57, i_59, i_63, i_64, i_96, i_97, i_98, i_99, i_100, i_101, i_102, i_103, i_104, i_105, i_106, i_107, i_108, i_109, i_110, i_111, i_112, i_113, i_122, i_200, i_255, i_256, i_257, i_258, i_355, i_400, i_999, i_1000, i_1200, i_5680, i_9999, i_10000, i_99999, j_0, j_1, j_2, j_3, j_4, j_5, j_6, j_9, j_10, j_11, j_98, j_99, j_100, j_999, j_1000, j_9999, j_10000, j_99999, j_1000000, h.2.1, h.2.2.2.1, h.2.2.1, h.2.2.2.2.1, hk7, h5, hlo', e1]
    · have ho : ¬ nOK T n s 5 lo hi = true := by rw [nOK_y]; exact fun q => hk7 q.1
      rw [if_neg ho] at e1
      rw [if_neg (fun q => ho q.2)]
      have hlo' : -1 < lo := by omega
      simp (disch := omega) only [fX5_number, fX5_number_41, Int.reduceEq, Int.reduceNe, Int.reduceLT, Int.reduceLE, Int.reduceAdd, Int.reduceSub, Int.reduceMul, Int.reduceNeg, Int.zero_add, Int.add_zero, nm_eq, bd_some, bv_some, aI_ok, aL_ok, aS_ok, dv_ok, dw_ok, I_add, I_sub, I_mul, I_neg, I_lt, I_le, I_eq, I_nat, J_add, J_sub, J_mul, J_neg, J_lt, J_le, J_eq, I_l, J_i, I_div, J_div, b2_0, b2_1, b2_nar, nar_0, nar_1, zr_0, zr_1, zr_b2, cmp_eq, cmp_le, cmp_lt, cmp_gt, cmp_ge, mx_I, mn_I, mx_L, mn_L, az_I, if_true, if_false, not_true_eq_false, not_false_eq_true, Bool.false_eq_true, i_0, i_1, i_2, i_3, i_4, i_5, i_6, i_7, i_8, i_9, i_10, i_11, i_12, i_16, i_18, i_20, i_24, i_28, i_29, i_30, i_31, i_32, i_33, i_34, i_35, i_37, i_40, i_41, i_42, i_43, i_45, i_46, i_47, i_48, i_57, i_59, i_63, i_64, i_96, i_97, i_98, i_99, i_100, i_101, i_102, i_103, i_104, i_105, i_106, i_107, i_108, i_109, i_110, i_111, i_112, i_113, i_122, i_200, i_255, i_256, i_257, i_258, i_355, i_400, i_999, i_1000, i_1200, i_5680, i_9999, i_10000, i_99999, j_0, j_1, j_2, j_3, j_4, j_5, j_6, j_9, j_10, j_11, j_98, j_99, j_100, j_999, j_1000, j_9999, j_10000, j_99999, j_1000000, h.2.1, h.2.2.2.1, hk7, hlo', e1]
  · rw [oS_f hf, oF_f hf, if_neg (fun q => hf q.1)]
    refine ⟨μ, ?_, h, Fr.rf⟩
    simp (disch := omega) only [fX5_number, Int.reduceEq, Int.reduceNe, Int.reduceLT, Int.reduceLE, Int.reduceAdd, Int.reduceSub, Int.reduceMul, Int.reduceNeg, Int.zero_add, Int.add_zero, nm_eq, bd_some, bv_some, aI_ok, aL_ok, aS_ok, dv_ok, dw_ok, I_add, I_sub, I_mul, I_neg, I_lt, I_le, I_eq, I_nat, J_add, J_sub, J_mul, J_neg, J_lt, J_le, J_eq, I_l, J_i, I_div, J_div, b2_0, b2_1, b2_nar, nar_0, nar_1, zr_0, zr_1, zr_b2, cmp_eq, cmp_le, cmp_lt, cmp_gt, cmp_ge, mx_I, mn_I, mx_L, mn_L, az_I, if_true, if_false, not_true_eq_false, not_false_eq_true, Bool.false_eq_true, i_0, i_1, i_2, i_3, i_4, i_5, i_6, i_7, i_8, i_9, i_10, i_11, i_12, i_16, i_18, i_20, i_24, i_28, i_29, i_30, i_31, i_32, i_33, i_34, i_35, i_37, i_40, i_41, i_42, i_43, i_45, i_46, i_47, i_48, i_57, i_59, i_63, i_64, i_96, i_97, i_98, i_99, i_100, i_101, i_102, i_103, i_104, i_105, i_106, i_107, i_108, i_109, i_110, i_111, i_112, i_113, i_122, i_200, i_255, i_256, i_257, i_258, i_355, i_400, i_999, i_1000, i_1200, i_5680, i_9999, i_10000, i_99999, j_0, j_1, j_2, j_3, j_4, j_5, j_6, j_9, j_10, j_11, j_98, j_99, j_100, j_999, j_1000, j_9999, j_10000, j_99999, j_1000000, h.2.1, hf]
/-! words of the class -/
theorem c_sp20 (hC : CR T n b s f μ) (n1 : n ≤ 400) {k : Nat} (hk : k < 35) (hl : s + lw_ k ≤ n) : ∀ (d m j : Nat), d < m → j + d = lw_ k → fX5_spells_20 N m k (I_ j) μ = some (I_ (b2 (mw k (fun i => T (s + i)) d j = true)), μ) := by
  have r0 := hC.2.2.2.2.2.2.2.1
  have hkT : kT k := hk
  have ll := lw_in hk
  have el : fJ0_length k μ = some (I_ (lw_ k : Int), μ) := by
    unfold fJ0_length
    rw [if_pos hkT, nI_I]
    rfl
  intro d
  induction d with
  | zero =>
    intro m j h1 h2
    obtain ⟨m, rfl⟩ : ∃ mm, m = mm + 1 := ⟨m - 1, by omega⟩
    have hle : (lw_ k : Int) ≤ j := by omega
    have e : b2 (mw k (fun i => T (s + i)) 0 j = true) = 1 := b2_t rfl
    rw [e]
    simp (disch := omega) only [fX5_spells_20, el, Int.reduceEq, Int.reduceNe, Int.reduceLT, Int.reduceLE, Int.reduceAdd, Int.reduceSub, Int.reduceMul, Int.reduceNeg, Int.zero_add, Int.add_zero, nm_eq, bd_some, bv_some, aI_ok, aL_ok, aS_ok, dv_ok, dw_ok, I_add, I_sub, I_mul, I_neg, I_lt, I_le, I_eq, I_nat, J_add, J_sub, J_mul, J_neg, J_lt, J_le, J_eq, I_l, J_i, I_div, J_div, b2_0, b2_1, b2_nar, nar_0, nar_1, zr_0, zr_1, zr_b2, cmp_eq, cmp_le, cmp_lt, cmp_gt, cmp_ge, mx_I, mn_I, mx_L, mn_L, az_I, if_true, if_false, not_true_eq_false, not_false_eq_true, Bool.false_eq_true, i_0, i_1, i_2, i_3, i_4, i_5, i_6, i_7, i_8, i_9, i_10, i_11, i_12, i_16, i_18, i_20, i_24, i_28, i_29, i_30, i_31, i_32, i_33, i_34, i_35, i_37, i_40, i_41, i_42, i_43, i_45, i_46, i_47, i_48, i_57, i_59, i_63, i_64, i_96, i_97, i_98, i_99, i_100, i_101, i_102, i_103, i_104, i_105, i_106, i_107, i_108, i_109, i_110, i_111, i_112, i_113, i_122, i_200, i_255, i_256, i_257, i_258, i_355, i_400, i_999, i_1000, i_1200, i_5680, i_9999, i_10000, i_99999, j_0, j_1, j_2, j_3, j_4, j_5, j_6, j_9, j_10, j_11, j_98, j_99, j_100, j_999, j_1000, j_9999, j_10000, j_99999, j_1000000, hle]
  | succ d ih =>
    intro m j h1 h2
    obtain ⟨m, rfl⟩ : ∃ mm, m = mm + 1 := ⟨m - 1, by omega⟩
    have hle : ¬ (lw_ k : Int) ≤ j := by omega
    have hch : fJ0_charAt k (I_ j) μ = some (chS k j, μ) := by
      unfold fJ0_charAt
      rw [if_pos hkT, if_neg, I_nat (by omega) (by omega), Int.toNat_natCast]
      rw [I_nat (by omega) (by omega), Int.toNat_natCast]
      intro q
      rcases q with q | q
      · rw [i_0, I_lt (by omega) (by omega) (by omega) (by omega)] at q
        omega
      · have : lenS.getD k 0 = lw_ k := rfl
        omega
    have hv : μ.1 7 (s + j).toNat = I_ (T (s + j)) := hC.2.2.2.2.2.2.1 (s + j) (by omega) (by omega)
    have hi := ih m (j + 1) (by omega) (by omega)
    rw [show ((j + 1 : Nat) : Int) = (j : Int) + 1 by omega] at hi
    by_cases q : I_ (T (s + j)) = chS k j
    · have e : (mw k (fun i => T (s + i)) (d + 1) j = true) = (mw k (fun i => T (s + i)) d (j + 1) = true) := by
        show ((decide (I_ (T (s + j)) = chS k j) && mw k (fun i => T (s + i)) d (j + 1)) = true) = _
        rw [decide_eq_true q, Bool.true_and]
      simp (disch := omega) only [fX5_spells_20, el, Int.reduceEq, Int.reduceNe, Int.reduceLT, Int.reduceLE, Int.reduceAdd, Int.reduceSub, Int.reduceMul, Int.reduceNeg, Int.zero_add, Int.add_zero, nm_eq, bd_some, bv_some, aI_ok, aL_ok, aS_ok, dv_ok, dw_ok, I_add, I_sub, I_mul, I_neg, I_lt, I_le, I_eq, I_nat, J_add, J_sub, J_mul, J_neg, J_lt, J_le, J_eq, I_l, J_i, I_div, J_div, b2_0, b2_1, b2_nar, nar_0, nar_1, zr_0, zr_1, zr_b2, cmp_eq, cmp_le, cmp_lt, cmp_gt, cmp_ge, mx_I, mn_I, mx_L, mn_L, az_I, if_true, if_false, not_true_eq_false, not_false_eq_true, Bool.false_eq_true, i_0, i_1, i_2, i_3, i_4, i_5, i_6, i_7, i_8, i_9, i_10, i_11, i_12, i_16, i_18, i_20, i_24, i_28, i_29, i_30, i_31, i_32, i_33, i_34, i_35, i_37, i_40, i_41, i_42, i_43, i_45, i_46, i_47, i_48, i_57, i_59, i_63, i_64, i_96, i_97, i_98, i_99, i_100, i_101, i_102, i_103, i_104, i_105, i_106, i_107, i_108, i_109, i_110, i_111, i_112, i_113, i_122, i_200, i_255, i_256, i_257, i_258, i_355, i_400, i_999, i_1000, i_1200, i_5680, i_9999, i_10000, i_99999, j_0, j_1, j_2, j_3, j_4, j_5, j_6, j_9, j_10, j_11, j_98, j_99, j_100, j_999, j_1000, j_9999, j_10000, j_99999, j_1000000, hle, hC.2.2.1, hv, hch, q, hi, e]
    · have e : ¬ (mw k (fun i => T (s + i)) (d + 1) j = true) := by
        show ¬ ((decide (I_ (T (s + j)) = chS k j) && mw k (fun i => T (s + i)) d (j + 1)) = true)
        rw [decide_eq_false q, Bool.false_and]
        exact Bool.false_ne_true
      rw [b2_f e]
      simp (disch := omega) only [fX5_spells_20, el, Int.reduceEq, Int.reduceNe, Int.reduceLT, Int.reduceLE, Int.reduceAdd, Int.reduceSub, Int.reduceMul, Int.reduceNeg, Int.zero_add, Int.add_zero, nm_eq, bd_some, bv_some, aI_ok, aL_ok, aS_ok, dv_ok, dw_ok, I_add, I_sub, I_mul, I_neg, I_lt, I_le, I_eq, I_nat, J_add, J_sub, J_mul, J_neg, J_lt, J_le, J_eq, I_l, J_i, I_div, J_div, b2_0, b2_1, b2_nar, nar_0, nar_1, zr_0, zr_1, zr_b2, cmp_eq, cmp_le, cmp_lt, cmp_gt, cmp_ge, mx_I, mn_I, mx_L, mn_L, az_I, if_true, if_false, not_true_eq_false, not_false_eq_true, Bool.false_eq_true, i_0, i_1, i_2, i_3, i_4, i_5, i_6, i_7, i_8, i_9, i_10, i_11, i_12, i_16, i_18, i_20, i_24, i_28, i_29, i_30, i_31, i_32, i_33, i_34, i_35, i_37, i_40, i_41, i_42, i_43, i_45, i_46, i_47, i_48, i_57, i_59, i_63, i_64, i_96, i_97, i_98, i_99, i_100, i_101, i_102, i_103, i_104, i_105, i_106, i_107, i_108, i_109, i_110, i_111, i_112, i_113, i_122, i_200, i_255, i_256, i_257, i_258, i_355, i_400, i_999, i_1000, i_1200, i_5680, i_9999, i_10000, i_99999, j_0, j_1, j_2, j_3, j_4, j_5, j_6, j_9, j_10, j_11, j_98, j_99, j_100, j_999, j_1000, j_9999, j_10000, j_99999, j_1000000, hle, hC.2.2.1, hv, hch, q]
theorem c_spells (hT : tB T n) (hN : 500 ≤ N) (hC : CR T n b s f μ) (hw : kd T n s = 256) {k : Nat} (hk : k < 35) : fX5_spells N k μ = some (I_ (b2 (isW T n s k = true)), μ) := by
  have r0 := hC.2.2.2.2.2.2.2.1
  have n1 := hT.2.1
  have hkT : kT k := hk
  have ll := lw_in hk
  obtain ⟨w1, w2, w3⟩ := kd_256 hw hT
  have hi := te_in (T := T) (n := n) (s := s) (by omega)
  have el : fJ0_length k μ = some (I_ (lw_ k : Int), μ) := by
    unfold fJ0_length
    rw [if_pos hkT, nI_I]
    rfl
  unfold fX5_spells
  rw [if_pos hkT, nm_eq, nm_eq, hC.2.2.2.2.1, hC.2.2.1, el, bd_some, I_sub, w3]
  by_cases q : we T n s - s = (lw_ k : Int)
  · have e : (isW T n s k = true) = (mw k (fun i => T (s + i)) (lw_ k) 0 = true) := by
      unfold isW
      rw [decide_eq_true q, Bool.true_and]
    have := c_sp20 (N := N) hC n1 hk (by omega) (lw_ k) N 0 (by omega) (by omega)
    rw [q, if_pos rfl]
    simp (disch := omega) only [e]
    exact this
  · have e : ¬ isW T n s k = true := by
      unfold isW
      rw [decide_eq_false q, Bool.false_and]
      exact Bool.false_ne_true
    rw [b2_f e, if_neg (by rw [I_eq (by omega) (by omega) (by omega) (by omega)]; exact q)]
    rfl
theorem c_keyword (hT : tB T n) (hN : 500 ≤ N) (hC : CR T n b s f μ) : fX5_keyword N μ = some (I_ (kwd T n s), μ) := by
  have hk := kd_in hT s
  by_cases hw : kd T n s = 256
  · have sp : ∀ {k : Nat}, k < 35 → fX5_spells N k μ = some (I_ (b2 (isW T n s k = true)), μ) := fun h => c_spells hT hN hC hw h
    unfold kwd fX5_keyword
    rw [nm_eq, hC.2.2.2.1, hw, i_256, if_pos rfl]
    simp only [bd_some, sp (k := 0) (by omega), sp (k := 1) (by omega), sp (k := 2) (by omega), sp (k := 3) (by omega), sp (k := 4) (by omega), sp (k := 5) (by omega), sp (k := 6) (by omega), sp (k := 7) (by omega), sp (k := 8) (by omega), sp (k := 9) (by omega), sp (k := 10) (by omega), i_0, b2_0, ite_not]
    by_cases h0 : isW T n s 0 = true
    · rw [if_pos h0, if_pos h0]
    rw [if_neg h0, if_neg h0]
    by_cases h1 : isW T n s 1 = true
    · rw [if_pos h1, if_pos h1]; rfl
    rw [if_neg h1, if_neg h1]
    by_cases h2 : isW T n s 2 = true
    · rw [if_pos h2, if_pos h2]; rfl
    rw [if_neg h2, if_neg h2]
    by_cases h3 : isW T n s 3 = true
    · rw [if_pos h3, if_pos h3]; rfl
    rw [if_neg h3, if_neg h3]
    by_cases h4 : isW T n s 4 = true
    · rw [if_pos h4, if_pos h4]; rfl
    rw [if_neg h4, if_neg h4]
    by_cases h5 : isW T n s 5 = true
    · rw [if_pos h5, if_pos h5]; rfl
    rw [if_neg h5, if_neg h5]
    by_cases h6 : isW T n s 6 = true
    · rw [if_pos h6, if_pos h6]; rfl
    rw [if_neg h6, if_neg h6]
    by_cases h7 : isW T n s 7 = true
    · rw [if_pos h7, if_pos h7]; rfl
    rw [if_neg h7, if_neg h7]
    by_cases h8 : isW T n s 8 = true
    · rw [if_pos h8, if_pos h8]; rfl
    rw [if_neg h8, if_neg h8]
    by_cases h9 : isW T n s 9 = true
    · rw [if_pos h9, if_pos h9]; rfl
    rw [if_neg h9, if_neg h9]
    by_cases h10 : isW T n s 10 = true
    · rw [if_pos h10, if_pos h10]; rfl
    rw [if_neg h10, if_neg h10]
    rfl
  · have no : ∀ {k : Nat}, k < 35 → ¬ isW T n s k = true := fun h => isW_nl h (fun q => hw (kd_y q.1 q.2))
    have e : kwd T n s = -1 := by
      unfold kwd
      rw [if_neg (no (by omega)), if_neg (no (by omega)), if_neg (no (by omega)), if_neg (no (by omega)), if_neg (no (by omega)), if_neg (no (by omega)), if_neg (no (by omega)), if_neg (no (by omega)), if_neg (no (by omega)), if_neg (no (by omega)), if_neg (no (by omega))]
    unfold fX5_keyword
    rw [e, nm_eq, hC.2.2.2.1, i_256, if_neg (by rw [I_eq (by omega) (by omega) (by omega) (by omega)]; exact hw)]
    rfl
theorem c_market (hT : tB T n) (hN : 500 ≤ N) (h : CR T n b s f μ) : ∃ μ', fX5_marketWord N μ = some (I_ (if f = -1 then mkt T n s else -1), μ') ∧ CR T n b (oS T n (0 ≤ mkt T n s) s f) (oF (0 ≤ mkt T n s) s f) μ' ∧ Fr P_1 μ μ' := by
  have hk := kwd_in T n s
  have hm := kwd_mkt T n s
  have h9 := h.2.2.2.2.2.2.2.2
  by_cases hf : f = -1
  · subst hf
    obtain ⟨μ', e1, e2, e3⟩ := c_go hT hN h (ok := 0 ≤ mkt T n s)
    refine ⟨μ', ?_, e2, e3⟩
    rw [if_pos rfl]
    rcases hm with ⟨m1, m2⟩ | ⟨m1, m2⟩
    · rw [if_neg (by omega)] at e1
      simp (disch := omega) only [fX5_marketWord, Int.reduceEq, Int.reduceNe, Int.reduceLT, Int.reduceLE, Int.reduceAdd, Int.reduceSub, Int.reduceMul, Int.reduceNeg, Int.zero_add, Int.add_zero, nm_eq, bd_some, bv_some, aI_ok, aL_ok, aS_ok, dv_ok, dw_ok, I_add, I_sub, I_mul, I_neg, I_lt, I_le, I_eq, I_nat, J_add, J_sub, J_mul, J_neg, J_lt, J_le, J_eq, I_l, J_i, I_div, J_div, b2_0, b2_1, b2_nar, nar_0, nar_1, zr_0, zr_1, zr_b2, cmp_eq, cmp_le, cmp_lt, cmp_gt, cmp_ge, mx_I, mn_I, mx_L, mn_L, az_I, if_true, if_false, not_true_eq_false, not_false_eq_true, Bool.false_eq_true, i_0, i_1, i_2, i_3, i_4, i_5, i_6, i_7, i_8, i_9, i_10, i_11, i_12, i_16, i_18, i_20, i_24, i_28, i_29, i_30, i_31, i_32, i_33, i_34, i_35, i_37, i_40, i_41, i_42, i_43, i_45, i_46, i_47, i_48, i_57, i_59, i_63, i_64, i_96, i_97, i_98, i_99, i_100, i_101, i_102, i_103, i_104, i_105, i_106, i_107, i_108, i_109, i_110, i_111, i_112, i_113, i_122, i_200, i_255, i_256, i_257, i_258, i_355, i_400, i_999, i_1000, i_1200, i_5680, i_9999, i_10000, i_99999, j_0, j_1, j_2, j_3, j_4, j_5, j_6, j_9, j_10, j_11, j_98, j_99, j_100, j_999, j_1000, j_9999, j_10000, j_99999, j_1000000, c_keyword hT hN h, h.2.1, m1, m2, e1]
    · rw [if_pos m1] at e1
      have k1 : ¬ kwd T n s < 8 := by omega
      have k2 : kwd T n s ≤ 10 := by omega
      have k3 : kwd T n s - 8 = mkt T n s := by omega
      simp (disch := omega) only [fX5_marketWord, Int.reduceEq, Int.reduceNe, Int.reduceLT, Int.reduceLE, Int.reduceAdd, Int.reduceSub, Int.reduceMul, Int.reduceNeg, Int.zero_add, Int.add_zero, nm_eq, bd_some, bv_some, aI_ok, aL_ok, aS_ok, dv_ok, dw_ok, I_add, I_sub, I_mul, I_neg, I_lt, I_le, I_eq, I_nat, J_add, J_sub, J_mul, J_neg, J_lt, J_le, J_eq, I_l, J_i, I_div, J_div, b2_0, b2_1, b2_nar, nar_0, nar_1, zr_0, zr_1, zr_b2, cmp_eq, cmp_le, cmp_lt, cmp_gt, cmp_ge, mx_I, mn_I, mx_L, mn_L, az_I, if_true, if_false, not_true_eq_false, not_false_eq_true, Bool.false_eq_true, i_0, i_1, i_2, i_3, i_4, i_5, i_6, i_7, i_8, i_9, i_10, i_11, i_12, i_16, i_18, i_20, i_24, i_28, i_29, i_30, i_31, i_32, i_33, i_34, i_35, i_37, i_40, i_41, i_42, i_43, i_45, i_46, i_47, i_48, i_57, i_59, i_63, i_64, i_96, i_97, i_98, i_99, i_100, i_101, i_102, i_103, i_104, i_105, i_106, i_107, i_108, i_109, i_110, i_111, i_112, i_113, i_122, i_200, i_255, i_256, i_257, i_258, i_355, i_400, i_999, i_1000, i_1200, i_5680, i_9999, i_10000, i_99999, j_0, j_1, j_2, j_3, j_4, j_5, j_6, j_9, j_10, j_11, j_98, j_99, j_100, j_999, j_1000, j_9999, j_10000, j_99999, j_1000000, c_keyword hT hN h, h.2.1, k1, k2, k3, e1]
  · rw [oS_f hf, oF_f hf, if_neg hf]
    have := c_fail (N := N) h hT.2.1
    rw [if_neg hf] at this
    obtain ⟨μ', e1, e2, e3⟩ := this
    refine ⟨μ', ?_, e2, e3⟩
    simp (disch := omega) only [fX5_marketWord, Int.reduceEq, Int.reduceNe, Int.reduceLT, Int.reduceLE, Int.reduceAdd, Int.reduceSub, Int.reduceMul, Int.reduceNeg, Int.zero_add, Int.add_zero, nm_eq, bd_some, bv_some, aI_ok, aL_ok, aS_ok, dv_ok, dw_ok, I_add, I_sub, I_mul, I_neg, I_lt, I_le, I_eq, I_nat, J_add, J_sub, J_mul, J_neg, J_lt, J_le, J_eq, I_l, J_i, I_div, J_div, b2_0, b2_1, b2_nar, nar_0, nar_1, zr_0, zr_1, zr_b2, cmp_eq, cmp_le, cmp_lt, cmp_gt, cmp_ge, mx_I, mn_I, mx_L, mn_L, az_I, if_true, if_false, not_true_eq_false, not_false_eq_true, Bool.false_eq_true, i_0, i_1, i_2, i_3, i_4, i_5, i_6, i_7, i_8, i_9, i_10, i_11, i_12, i_16, i_18, i_20, i_24, i_28, i_29, i_30, i_31, i_32, i_33, i_34, i_35, i_37, i_40, i_41, i_42, i_43, i_45, i_46, i_47, i_48, i_57, i_59, i_63, i_64, i_96, i_97, i_98, i_99, i_100, i_101, i_102, i_103, i_104, i_105, i_106, i_107, i_108, i_109, i_110, i_111, i_112, i_113, i_122, i_200, i_255, i_256, i_257, i_258, i_355, i_400, i_999, i_1000, i_1200, i_5680, i_9999, i_10000, i_99999, j_0, j_1, j_2, j_3, j_4, j_5, j_6, j_9, j_10, j_11, j_98, j_99, j_100, j_999, j_1000, j_9999, j_10000, j_99999, j_1000000, c_keyword hT hN h, h.2.1, hf, e1]
end
