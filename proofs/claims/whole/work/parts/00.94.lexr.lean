/-! The reference's lexing, and words. -/
def mw (k : Nat) (a : Int → Int) : Nat → Nat → Bool
  | 0, _ => true
  | d + 1, j => decide (I_ (a j) = chS k j) && mw k a d (j + 1)
def lw_ (k : Nat) : Nat := lenS.getD k 0
def isW (T : Int → Int) (n s : Int) (k : Nat) : Bool := decide (we T n s - s = (lw_ k : Int)) && mw k (fun j => T (s + j)) (lw_ k) 0
def kwd (T : Int → Int) (n s : Int) : Int := if isW T n s 0 = true then 0 else if isW T n s 1 = true then 1 else if isW T n s 2 = true then 2 else if isW T n s 3 = true then 3 else if isW T n s 4 = true then 4 else if isW T n s 5 = true then 5 else if isW T n s 6 = true then 6 else if isW T n s 7 = true then 7 else if isW T n s 8 = true then 8 else if isW T n s 9 = true then 9 else if isW T n s 10 = true then 10 else -1
def mkt (T : Int → Int) (n s : Int) : Int := if isW T n s 8 = true then 0 else if isW T n s 9 = true then 1 else if isW T n s 10 = true then 2 else -1
theorem lw_in {k : Nat} (h : k < 35) : 1 ≤ lw_ k ∧ lw_ k ≤ 47 := by
  have : ∀ i : Fin 35, 1 ≤ lw_ i.1 ∧ lw_ i.1 ≤ 47 := by decide
  exact this ⟨k, h⟩
theorem nI_I {k : Nat} : nI k = I_ (k : Int) := by
  unfold nI I_
  exact (Int32.ofInt_eq_ofNat).symm
theorem isW_1 {T : Int → Int} {n s : Int} {k : Nat} (hk : k < 35) (h : isW T n s k = true) : we T n s - s = (lw_ k : Int) ∧ I_ (T s) = chS k 0 := by
  unfold isW at h
  rw [Bool.and_eq_true, decide_eq_true_iff] at h
  refine ⟨h.1, ?_⟩
  have hl := lw_in hk
  have e : lw_ k = (lw_ k - 1) + 1 := by omega
  have h2 := h.2
  rw [e] at h2
  unfold mw at h2
  rw [Bool.and_eq_true, decide_eq_true_iff] at h2
  have := h2.1
  rw [show s + ((0 : Nat) : Int) = s by omega] at this
  exact this
theorem isW_nl {T : Int → Int} {n s : Int} {k : Nat} (hk : k < 35) (h : ¬ (s < n ∧ cLe (T s) = true)) : ¬ isW T n s k = true := by
  intro q
  have h1 := (isW_1 hk q).1
  have hl := lw_in hk
  have e : we T n s = s := by
    by_cases hs : s < n
    · exact sca_n hs (fun w => h ⟨hs, w⟩)
    · exact sca_0 (by omega)
  omega
/-- two words that differ -/
theorem isW_ne {T : Int → Int} {n s : Int} {k i : Nat} (hk : k < 35) (hi : i < 35) (hd : ¬ (lw_ k = lw_ i ∧ chS k 0 = chS i 0)) (h : isW T n s k = true) : ¬ isW T n s i = true := by
  intro q
  have h1 := isW_1 hk h
  have h2 := isW_1 hi q
  exact hd ⟨by omega, h1.2.symm.trans h2.2⟩
theorem kwd_in (T : Int → Int) (n s : Int) : -1 ≤ kwd T n s ∧ kwd T n s ≤ 10 := by
  unfold kwd
  repeat' split
  all_goals omega
theorem mkt_in (T : Int → Int) (n s : Int) : -1 ≤ mkt T n s ∧ mkt T n s ≤ 2 := by
  unfold mkt
  repeat' split
  all_goals omega
theorem kwd_mkt (T : Int → Int) (n s : Int) : (mkt T n s = -1 ∧ kwd T n s < 8) ∨ (0 ≤ mkt T n s ∧ kwd T n s = mkt T n s + 8) := by
  have ne : ∀ k i : Nat, 8 ≤ k → k ≤ 10 → i < 8 → isW T n s k = true → ¬ isW T n s i = true := fun k i a c d h => by
    have : ∀ (x : Fin 3) (y : Fin 8), ¬ (lw_ (x.1 + 8) = lw_ y.1 ∧ chS (x.1 + 8) 0 = chS y.1 0) := by decide
    have q := this ⟨k - 8, by omega⟩ ⟨i, d⟩
    rw [show k - 8 + 8 = k by omega] at q
    exact isW_ne (by omega) (by omega) q h
  by_cases h8 : isW T n s 8 = true
  · right
    have m : mkt T n s = 0 := by unfold mkt; rw [if_pos h8]
    have w : kwd T n s = 8 := by
      unfold kwd
      rw [if_neg (ne 8 0 (by omega) (by omega) (by omega) h8), if_neg (ne 8 1 (by omega) (by omega) (by omega) h8), if_neg (ne 8 2 (by omega) (by omega) (by omega) h8), if_neg (ne 8 3 (by omega) (by omega) (by omega) h8), if_neg (ne 8 4 (by omega) (by omega) (by omega) h8), if_neg (ne 8 5 (by omega) (by omega) (by omega) h8), if_neg (ne 8 6 (by omega) (by omega) (by omega) h8), if_neg (ne 8 7 (by omega) (by omega) (by omega) h8), if_pos h8]
    omega
  · by_cases h9 : isW T n s 9 = true
    · right
      have m : mkt T n s = 1 := by unfold mkt; rw [if_neg h8, if_pos h9]
      have w : kwd T n s = 9 := by
        unfold kwd
        rw [if_neg (ne 9 0 (by omega) (by omega) (by omega) h9), if_neg (ne 9 1 (by omega) (by omega) (by omega) h9), if_neg (ne 9 2 (by omega) (by omega) (by omega) h9), if_neg (ne 9 3 (by omega) (by omega) (by omega) h9), if_neg (ne 9 4 (by omega) (by omega) (by omega) h9), if_neg (ne 9 5 (by omega) (by omega) (by omega) h9), if_neg (ne 9 6 (by omega) (by omega) (by omega) h9), if_neg (ne 9 7 (by omega) (by omega) (by omega) h9), if_neg h8, if_pos h9]
      omega
    · by_cases h10 : isW T n s 10 = true
      · right
        have m : mkt T n s = 2 := by unfold mkt; rw [if_neg h8, if_neg h9, if_pos h10]
        have w : kwd T n s = 10 := by
          unfold kwd
          rw [if_neg (ne 10 0 (by omega) (by omega) (by omega) h10), if_neg (ne 10 1 (by omega) (by omega) (by omega) h10), if_neg (ne 10 2 (by omega) (by omega) (by omega) h10), if_neg (ne 10 3 (by omega) (by omega) (by omega) h10), if_neg (ne 10 4 (by omega) (by omega) (by omega) h10), if_neg (ne 10 5 (by omega) (by omega) (by omega) h10), if_neg (ne 10 6 (by omega) (by omega) (by omega) h10), if_neg (ne 10 7 (by omega) (by omega) (by omega) h10), if_neg h8, if_neg h9, if_pos h10]
        omega
      · left
        have m : mkt T n s = -1 := by unfold mkt; rw [if_neg h8, if_neg h9, if_neg h10]
        refine ⟨m, ?_⟩
        unfold kwd
        rw [if_neg h8, if_neg h9, if_neg h10]
        repeat' split
        all_goals omega
theorem and_255 {x : Int} (h0 : -128 ≤ x) (h1 : x ≤ 127) : I_ x &&& I_ 255 = I_ (x % 256) := by
  have q : ∀ k : Fin 256, I_ ((k.1 : Int) - 128) &&& I_ 255 = I_ (((k.1 : Int) - 128) % 256) := by decide +kernel
  have := q ⟨(x + 128).toNat, by omega⟩
  rw [show (((x + 128).toNat : Nat) : Int) - 128 = x by omega] at this
  exact this
section
variable {T : Int → Int} {n : Int} {N : Nat} {ν : Mem} {r f : Int}
def hb (T : Int → Int) (n s : Int) : Int := if s < n then T s % 256 else -1
/-- the reference stands at r with the fault f -/
def RX (T : Int → Int) (n r f : Int) (ν : Mem) : Prop := ν.1 0 15 = I_ n ∧ ν.1 0 17 = I_ f ∧ ν.1 0 16 = I_ r ∧ TP T n 10 ν ∧ (0 ≤ r ∧ r ≤ n) ∧ (-1 ≤ f ∧ f ≤ 400)
theorem RX.at (h : RX T n r f ν) {i : Int} (h0 : 0 ≤ i) (h1 : i ≤ n) : RX T n i f (stI ν 0 16 (I_ i)) := by
  obtain ⟨a1, a2, a3, a4, a5, a6⟩ := h
  refine ⟨?_, ?_, at_S, a4.st (by omega), ⟨h0, h1⟩, a6⟩
  · simp (disch := omega) only [st_I, st_I2, st_L1, st_L2, st_R1, st_R2, Nat.reduceEqDiff, Nat.reduceAdd, and_true, true_and, and_false, false_and, and_self, if_false, if_true]; exact a1
  · simp (disch := omega) only [st_I, st_I2, st_L1, st_L2, st_R1, st_R2, Nat.reduceEqDiff, Nat.reduceAdd, and_true, true_and, and_false, false_and, and_self, if_false, if_true]; exact a2
theorem RX.wr (h : RX T n r f ν) {i : Int} (h0 : -1 ≤ i) (h1 : i ≤ 400) : RX T n r i (stI ν 0 17 (I_ i)) := by
  obtain ⟨a1, a2, a3, a4, a5, a6⟩ := h
  refine ⟨?_, at_S, ?_, a4.st (by omega), a5, ⟨h0, h1⟩⟩
  · simp (disch := omega) only [st_I, st_I2, st_L1, st_L2, st_R1, st_R2, Nat.reduceEqDiff, Nat.reduceAdd, and_true, true_and, and_false, false_and, and_self, if_false, if_true]; exact a1
  · simp (disch := omega) only [st_I, st_I2, st_L1, st_L2, st_R1, st_R2, Nat.reduceEqDiff, Nat.reduceAdd, and_true, true_and, and_false, false_and, and_self, if_false, if_true]; exact a3
theorem RX.F {P : Nat → Nat → Prop} {ν' : Mem} (h : RX T n r f ν) (g : Fr P ν ν') (hp : ∀ k j, P k j → k ≠ 10 ∧ ¬ (k = 0 ∧ 15 ≤ j ∧ j ≤ 17)) : RX T n r f ν' := by
  obtain ⟨h1, h2, h3, h4, h5⟩ := h
  refine ⟨?_, ?_, ?_, fun j a c => ?_, h5⟩
  · rw [(g 0 15 (fun q => (hp 0 15 q).2 ⟨rfl, by omega, by omega⟩)).1]; exact h1
  · rw [(g 0 17 (fun q => (hp 0 17 q).2 ⟨rfl, by omega, by omega⟩)).1]; exact h2
  · rw [(g 0 16 (fun q => (hp 0 16 q).2 ⟨rfl, by omega, by omega⟩)).1]; exact h3
  · rw [(g 10 j.toNat (fun q => (hp 10 _ q).1 rfl)).1]; exact h4 j a c
theorem r_here0 (hT : tB T n) : ∀ (d m : Nat) (i : Int) (ν : Mem), d < m → i + d = n → RX T n i f ν → fX11_here_0 N m ν = fX11_here_66 N (stI ν 0 16 (I_ (sk T n i))) := by
  obtain ⟨n0, n1, hb⟩ := hT
  intro d
  induction d with
  | zero =>
    intro m i ν h1 h3 hX
    obtain ⟨m, rfl⟩ : ∃ mm, m = mm + 1 := ⟨m - 1, by omega⟩
    have hle : n ≤ i := by omega
    have e : sk T n i = i := sca_0 hle
    rw [e, st_id hX.2.2.1]
    simp (disch := omega) only [fX11_here_0, Int.reduceEq, Int.reduceNe, Int.reduceLT, Int.reduceLE, Int.reduceAdd, Int.reduceSub, Int.reduceMul, Int.reduceNeg, Int.zero_add, Int.add_zero, nm_eq, bd_some, bv_some, aI_ok, aL_ok, aS_ok, dv_ok, dw_ok, I_add, I_sub, I_mul, I_neg, I_lt, I_le, I_eq, I_nat, J_add, J_sub, J_mul, J_neg, J_lt, J_le, J_eq, I_l, J_i, I_div, J_div, b2_0, b2_1, b2_nar, nar_0, nar_1, zr_0, zr_1, zr_b2, cmp_eq, cmp_le, cmp_lt, cmp_gt, cmp_ge, mx_I, mn_I, mx_L, mn_L, az_I, if_true, if_false, not_true_eq_false, not_false_eq_true, Bool.false_eq_true, i_0, i_1, i_2, i_3, i_4, i_5, i_6, i_7, i_8, i_9, i_10, i_11, i_12, i_16, i_18, i_20, i_24, i_28, i_29, i_30, i_31, i_32, i_33, i_34, i_35, i_37, i_40, i_41, i_42, i_43, i_45, i_46, i_47, i_48, i_57, i_59, i_63, i_64, i_96, i_97, i_98, i_99, i_100, i_101, i_102, i_103, i_104, i_105, i_106, i_107, i_108, i_109, i_110, i_111, i_112, i_113, i_122, i_200, i_255, i_256, i_257, i_258, i_355, i_400, i_999, i_1000, i_1200, i_5680, i_9999, i_10000, i_99999, j_0, j_1, j_2, j_3, j_4, j_5, j_6, j_9, j_10, j_11, j_98, j_99, j_100, j_999, j_1000, j_9999, j_10000, j_99999, j_1000000, hX.1, hX.2.2.1, hle]
  | succ d ih =>
    intro m i ν h1 h3 hX
    obtain ⟨m, rfl⟩ : ∃ mm, m = mm + 1 := ⟨m - 1, by omega⟩
    have hle : ¬ n ≤ i := by omega
    have bi := hb i
    have i0 := hX.2.2.2.2.1
    by_cases hp : cBl (T i) = true
    · have e : sk T n i = sk T n (i + 1) := sca_y (by omega) hp
      have := ih m (i + 1) (stI ν 0 16 (I_ (i + 1))) (by omega) (by omega) (hX.at (by omega) (by omega))
      rw [e, ← st_st (μ := ν) (v := I_ (i + 1)), ← this]
      rw [cBl_y] at hp
      by_cases q9 : T i = 9
      · simp (disch := omega) only [fX11_here_0, Int.reduceEq, Int.reduceNe, Int.reduceLT, Int.reduceLE, Int.reduceAdd, Int.reduceSub, Int.reduceMul, Int.reduceNeg, Int.zero_add, Int.add_zero, nm_eq, bd_some, bv_some, aI_ok, aL_ok, aS_ok, dv_ok, dw_ok, I_add, I_sub, I_mul, I_neg, I_lt, I_le, I_eq, I_nat, J_add, J_sub, J_mul, J_neg, J_lt, J_le, J_eq, I_l, J_i, I_div, J_div, b2_0, b2_1, b2_nar, nar_0, nar_1, zr_0, zr_1, zr_b2, cmp_eq, cmp_le, cmp_lt, cmp_gt, cmp_ge, mx_I, mn_I, mx_L, mn_L, az_I, if_true, if_false, not_true_eq_false, not_false_eq_true, Bool.false_eq_true, i_0, i_1, i_2, i_3, i_4, i_5, i_6, i_7, i_8, i_9, i_10, i_11, i_12, i_16, i_18, i_20, i_24, i_28, i_29, i_30, i_31, i_32, i_33, i_34, i_35, i_37, i_40, i_41, i_42, i_43, i_45, i_46, i_47, i_48, i_57, i_59, i_63, i_64, i_96, i_97, i_98, i_99, i_100, i_101, i_102, i_103, i_104, i_105, i_106, i_107, i_108, i_109, i_110, i_111, i_112, i_113, i_122, i_200, i_255, i_256, i_257, i_258, i_355, i_400, i_999, i_1000, i_1200, i_5680, i_9999, i_10000, i_99999, j_0, j_1, j_2, j_3, j_4, j_5, j_6, j_9, j_10, j_11, j_98, j_99, j_100, j_999, j_1000, j_9999, j_10000, j_99999, j_1000000, hX.1, hX.2.2.1, hle, hX.2.2.2.1 i (by omega) (by omega), q9]
      · by_cases q10 : T i = 10
        · simp (disch := omega) only [fX11_here_0, Int.reduceEq, Int.reduceNe, Int.reduceLT, Int.reduceLE, Int.reduceAdd, Int.reduceSub, Int.reduceMul, Int.reduceNeg, Int.zero_add, Int.add_zero, nm_eq, bd_some, bv_some, aI_ok, aL_ok, aS_ok, dv_ok, dw_ok, I_add, I_sub, I_mul, I_neg, I_lt, I_le, I_eq, I_nat, J_add, J_sub, J_mul, J_neg, J_lt, J_le, J_eq, I_l, J_i, I_div, J_div, b2_0, b2_1, b2_nar, nar_0, nar_1, zr_0, zr_1, zr_b2, cmp_eq, cmp_le, cmp_lt, cmp_gt, cmp_ge, mx_I, mn_I, mx_L, mn_L, az_I, if_true, if_false, not_true_eq_false, not_false_eq_true, Bool.false_eq_true, i_0, i_1, i_2, i_3, i_4, i_5, i_6, i_7, i_8, i_9, i_10, i_11, i_12, i_16, i_18, i_20, i_24, i_28, i_29, i_30, i_31, i_32, i_33, i_34, i_35, i_37, i_40, i_41, i_42, i_43, i_45, i_46, i_47, i_48, i_57, i_59, i_63, i_64, i_96, i_97, i_98, i_99, i_100, i_101, i_102, i_103, i_104, i_105, i_106, i_107, i_108, i_109, i_110, i_111, i_112, i_113, i_122, i_200, i_255, i_256, i_257, i_258, i_355, i_400, i_999, i_1000, i_1200, i_5680, i_9999, i_10000, i_99999, j_0, j_1, j_2, j_3, j_4, j_5, j_6, j_9, j_10, j_11, j_98, j_99, j_100, j_999, j_1000, j_9999, j_10000, j_99999, j_1000000, hX.1, hX.2.2.1, hle, hX.2.2.2.1 i (by omega) (by omega), q10]
        · have q32 : T i = 32 := by omega
          simp (disch := omega) only [fX11_here_0, Int.reduceEq, Int.reduceNe, Int.reduceLT, Int.reduceLE, Int.reduceAdd, Int.reduceSub, Int.reduceMul, Int.reduceNeg, Int.zero_add, Int.add_zero, nm_eq, bd_some, bv_some, aI_ok, aL_ok, aS_ok, dv_ok, dw_ok, I_add, I_sub, I_mul, I_neg, I_lt, I_le, I_eq, I_nat, J_add, J_sub, J_mul, J_neg, J_lt, J_le, J_eq, I_l, J_i, I_div, J_div, b2_0, b2_1, b2_nar, nar_0, nar_1, zr_0, zr_1, zr_b2, cmp_eq, cmp_le, cmp_lt, cmp_gt, cmp_ge, mx_I, mn_I, mx_L, mn_L, az_I, if_true, if_false, not_true_eq_false, not_false_eq_true, Bool.false_eq_true, i_0, i_1, i_2, i_3, i_4, i_5, i_6, i_7, i_8, i_9, i_10, i_11, i_12, i_16, i_18, i_20, i_24, i_28, i_29, i_30, i_31, i_32, i_33, i_34, i_35, i_37, i_40, i_41, i_42, i_43, i_45, i_46, i_47, i_48, i_57, i_59, i_63, i_64, i_96, i_97, i_98, i_99, i_100, i_101, i_102, i_103, i_104, i_105, i_106, i_107, i_108, i_109, i_110, i_111, i_112, i_113, i_122, i_200, i_255, i_256, i_257, i_258, i_355, i_400, i_999, i_1000, i_1200, i_5680, i_9999, i_10000, i_99999, j_0, j_1, j_2, j_3, j_4, j_5, j_6, j_9, j_10, j_11, j_98, j_99, j_100, j_999, j_1000, j_9999, j_10000, j_99999, j_1000000, hX.1, hX.2.2.1, hle, hX.2.2.2.1 i (by omega) (by omega), q32]
    · have e : sk T n i = i := sca_n (by omega) hp
      rw [e, st_id hX.2.2.1]
      rw [cBl_y] at hp
      have q9 : ¬ T i = 9 := fun w => hp (Or.inl w)
      have q10 : ¬ T i = 10 := fun w => hp (Or.inr (Or.inl w))
      have q32 : ¬ T i = 32 := fun w => hp (Or.inr (Or.inr w))
      simp (disch := omega) only [fX11_here_0, Int.reduceEq, Int.reduceNe, Int.reduceLT, Int.reduceLE, Int.reduceAdd, Int.reduceSub, Int.reduceMul, Int.reduceNeg, Int.zero_add, Int.add_zero, nm_eq, bd_some, bv_some, aI_ok, aL_ok, aS_ok, dv_ok, dw_ok, I_add, I_sub, I_mul, I_neg, I_lt, I_le, I_eq, I_nat, J_add, J_sub, J_mul, J_neg, J_lt, J_le, J_eq, I_l, J_i, I_div, J_div, b2_0, b2_1, b2_nar, nar_0, nar_1, zr_0, zr_1, zr_b2, cmp_eq, cmp_le, cmp_lt, cmp_gt, cmp_ge, mx_I, mn_I, mx_L, mn_L, az_I, if_true, if_false, not_true_eq_false, not_false_eq_true, Bool.false_eq_true, i_0, i_1, i_2, i_3, i_4, i_5, i_6, i_7, i_8, i_9, i_10, i_11, i_12, i_16, i_18, i_20, i_24, i_28, i_29, i_30, i_31, i_32, i_33, i_34, i_35, i_37, i_40, i_41, i_42, i_43, i_45, i_46, i_47, i_48, i_57, i_59, i_63, i_64, i_96, i_97, i_98, i_99, i_100, i_101, i_102, i_103, i_104, i_105, i_106, i_107, i_108, i_109, i_110, i_111, i_112, i_113, i_122, i_200, i_255, i_256, i_257, i_258, i_355, i_400, i_999, i_1000, i_1200, i_5680, i_9999, i_10000, i_99999, j_0, j_1, j_2, j_3, j_4, j_5, j_6, j_9, j_10, j_11, j_98, j_99, j_100, j_999, j_1000, j_9999, j_10000, j_99999, j_1000000, hX.1, hX.2.2.1, hle, hX.2.2.2.1 i (by omega) (by omega), q9, q10, q32]
theorem r_here (hT : tB T n) (hN : 500 ≤ N) (hX : RX T n r f ν) : fX11_here N ν = some (I_ (hb T n (sk T n r)), stI ν 0 16 (I_ (sk T n r))) := by
  have i0 := hX.2.2.2.2.1
  have hi := sk_in (T := T) i0.2
  unfold fX11_here
  rw [r_here0 (N := N) hT (n - r).toNat N r ν (by have := hT.2.1; omega) (by omega) hX]
  have hY := hX.at (i := sk T n r) (by omega) (by omega)
  revert hi hY
  generalize sk T n r = s
  intro hi hY
  have n1 := hT.2.1
  unfold hb
  by_cases hs : s < n
  · have hle : ¬ n ≤ s := by omega
    have bs := hT.2.2 s
    simp (disch := omega) only [fX11_here_66, Int.reduceEq, Int.reduceNe, Int.reduceLT, Int.reduceLE, Int.reduceAdd, Int.reduceSub, Int.reduceMul, Int.reduceNeg, Int.zero_add, Int.add_zero, nm_eq, bd_some, bv_some, aI_ok, aL_ok, aS_ok, dv_ok, dw_ok, I_add, I_sub, I_mul, I_neg, I_lt, I_le, I_eq, I_nat, J_add, J_sub, J_mul, J_neg, J_lt, J_le, J_eq, I_l, J_i, I_div, J_div, b2_0, b2_1, b2_nar, nar_0, nar_1, zr_0, zr_1, zr_b2, cmp_eq, cmp_le, cmp_lt, cmp_gt, cmp_ge, mx_I, mn_I, mx_L, mn_L, az_I, if_true, if_false, not_true_eq_false, not_false_eq_true, Bool.false_eq_true, i_0, i_1, i_2, i_3, i_4, i_5, i_6, i_7, i_8, i_9, i_10, i_11, i_12, i_16, i_18, i_20, i_24, i_28, i_29, i_30, i_31, i_32, i_33, i_34, i_35, i_37, i_40, i_41, i_42, i_43, i_45, i_46, i_47, i_48, i_57, i_59, i_63, i_64, i_96, i_97, i_98, i_99, i_100, i_101, i_102, i_103, i_104, i_105, i_106, i_107, i_108, i_109, i_110, i_111, i_112, i_113, i_122, i_200, i_255, i_256, i_257, i_258, i_355, i_400, i_999, i_1000, i_1200, i_5680, i_9999, i_10000, i_99999, j_0, j_1, j_2, j_3, j_4, j_5, j_6, j_9, j_10, j_11, j_98, j_99, j_100, j_999, j_1000, j_9999, j_10000, j_99999, j_1000000, hY.1, hY.2.2.1, hle, hs, hY.2.2.2.1 s (by omega) hs, and_255]
  · have hle : n ≤ s := by omega
    simp (disch := omega) only [fX11_here_66, Int.reduceEq, Int.reduceNe, Int.reduceLT, Int.reduceLE, Int.reduceAdd, Int.reduceSub, Int.reduceMul, Int.reduceNeg, Int.zero_add, Int.add_zero, nm_eq, bd_some, bv_some, aI_ok, aL_ok, aS_ok, dv_ok, dw_ok, I_add, I_sub, I_mul, I_neg, I_lt, I_le, I_eq, I_nat, J_add, J_sub, J_mul, J_neg, J_lt, J_le, J_eq, I_l, J_i, I_div, J_div, b2_0, b2_1, b2_nar, nar_0, nar_1, zr_0, zr_1, zr_b2, cmp_eq, cmp_le, cmp_lt, cmp_gt, cmp_ge, mx_I, mn_I, mx_L, mn_L, az_I, if_true, if_false, not_true_eq_false, not_false_eq_true, Bool.false_eq_true, i_0, i_1, i_2, i_3, i_4, i_5, i_6, i_7, i_8, i_9, i_10, i_11, i_12, i_16, i_18, i_20, i_24, i_28, i_29, i_30, i_31, i_32, i_33, i_34, i_35, i_37, i_40, i_41, i_42, i_43, i_45, i_46, i_47, i_48, i_57, i_59, i_63, i_64, i_96, i_97, i_98, i_99, i_100, i_101, i_102, i_103, i_104, i_105, i_106, i_107, i_108, i_109, i_110, i_111, i_112, i_113, i_122, i_200, i_255, i_256, i_257, i_258, i_355, i_400, i_999, i_1000, i_1200, i_5680, i_9999, i_10000, i_99999, j_0, j_1, j_2, j_3, j_4, j_5, j_6, j_9, j_10, j_11, j_98, j_99, j_100, j_999, j_1000, j_9999, j_10000, j_99999, j_1000000, hY.1, hY.2.2.1, hle, hs]
theorem r_le {c : Int} (h0 : -128 ≤ c) (h1 : c ≤ 127) : fX11_isLetter N (I_ c) ν = some (I_ (b2 (cLe c = true)), ν) := by
  by_cases h : cLe c = true
  · rw [b2_t h]
    rw [cLe_y] at h
    have q1 : ¬ c < 97 := by omega
    have q2 : ¬ 122 < c := by omega
    simp (disch := omega) only [fX11_isLetter, Int.reduceEq, Int.reduceNe, Int.reduceLT, Int.reduceLE, Int.reduceAdd, Int.reduceSub, Int.reduceMul, Int.reduceNeg, Int.zero_add, Int.add_zero, nm_eq, bd_some, bv_some, aI_ok, aL_ok, aS_ok, dv_ok, dw_ok, I_add, I_sub, I_mul, I_neg, I_lt, I_le, I_eq, I_nat, J_add, J_sub, J_mul, J_neg, J_lt, J_le, J_eq, I_l, J_i, I_div, J_div, b2_0, b2_1, b2_nar, nar_0, nar_1, zr_0, zr_1, zr_b2, cmp_eq, cmp_le, cmp_lt, cmp_gt, cmp_ge, mx_I, mn_I, mx_L, mn_L, az_I, if_true, if_false, not_true_eq_false, not_false_eq_true, Bool.false_eq_true, i_0, i_1, i_2, i_3, i_4, i_5, i_6, i_7, i_8, i_9, i_10, i_11, i_12, i_16, i_18, i_20, i_24, i_28, i_29, i_30, i_31, i_32, i_33, i_34, i_35, i_37, i_40, i_41, i_42, i_43, i_45, i_46, i_47, i_48, i_57, i_59, i_63, i_64, i_96, i_97, i_98, i_99, i_100, i_101, i_102, i_103, i_104, i_105, i_106, i_107, i_108, i_109, i_110, i_111, i_112, i_113, i_122, i_200, i_255, i_256, i_257, i_258, i_355, i_400, i_999, i_1000, i_1200, i_5680, i_9999, i_10000, i_99999, j_0, j_1, j_2, j_3, j_4, j_5, j_6, j_9, j_10, j_11, j_98, j_99, j_100, j_999, j_1000, j_9999, j_10000, j_99999, j_1000000, q1, q2]
  · rw [b2_f h]
    rw [cLe_y] at h
    by_cases q1 : c < 97
    · simp (disch := omega) only [fX11_isLetter, Int.reduceEq, Int.reduceNe, Int.reduceLT, Int.reduceLE, Int.reduceAdd, Int.reduceSub, Int.reduceMul, Int.reduceNeg, Int.zero_add, Int.add_zero, nm_eq, bd_some, bv_some, aI_ok, aL_ok, aS_ok, dv_ok, dw_ok, I_add, I_sub, I_mul, I_neg, I_lt, I_le, I_eq, I_nat, J_add, J_sub, J_mul, J_neg, J_lt, J_le, J_eq, I_l, J_i, I_div, J_div, b2_0, b2_1, b2_nar, nar_0, nar_1, zr_0, zr_1, zr_b2, cmp_eq, cmp_le, cmp_lt, cmp_gt, cmp_ge, mx_I, mn_I, mx_L, mn_L, az_I, if_true, if_false, not_true_eq_false, not_false_eq_true, Bool.false_eq_true, i_0, i_1, i_2, i_3, i_4, i_5, i_6, i_7, i_8, i_9, i_10, i_11, i_12, i_16, i_18, i_20, i_24, i_28, i_29, i_30, i_31, i_32, i_33, i_34, i_35, i_37, i_40, i_41, i_42, i_43, i_45, i_46, i_47, i_48, i_57, i_59, i_63, i_64, i_96, i_97, i_98, i_99, i_100, i_101, i_102, i_103, i_104, i_105, i_106, i_107, i_108, i_109, i_110, i_111, i_112, i_113, i_122, i_200, i_255, i_256, i_257, i_258, i_355, i_400, i_999, i_1000, i_1200, i_5680, i_9999, i_10000, i_99999, j_0, j_1, j_2, j_3, j_4, j_5, j_6, j_9, j_10, j_11, j_98, j_99, j_100, j_999, j_1000, j_9999, j_10000, j_99999, j_1000000, q1]
    · have q2 : 122 < c := by omega
      simp (disch := omega) only [fX11_isLetter, Int.reduceEq, Int.reduceNe, Int.reduceLT, Int.reduceLE, Int.reduceAdd, Int.reduceSub, Int.reduceMul, Int.reduceNeg, Int.zero_add, Int.add_zero, nm_eq, bd_some, bv_some, aI_ok, aL_ok, aS_ok, dv_ok, dw_ok, I_add, I_sub, I_mul, I_neg, I_lt, I_le, I_eq, I_nat, J_add, J_sub, J_mul, J_neg, J_lt, J_le, J_eq, I_l, J_i, I_div, J_div, b2_0, b2_1, b2_nar, nar_0, nar_1, zr_0, zr_1, zr_b2, cmp_eq, cmp_le, cmp_lt, cmp_gt, cmp_ge, mx_I, mn_I, mx_L, mn_L, az_I, if_true, if_false, not_true_eq_false, not_false_eq_true, Bool.false_eq_true, i_0, i_1, i_2, i_3, i_4, i_5, i_6, i_7, i_8, i_9, i_10, i_11, i_12, i_16, i_18, i_20, i_24, i_28, i_29, i_30, i_31, i_32, i_33, i_34, i_35, i_37, i_40, i_41, i_42, i_43, i_45, i_46, i_47, i_48, i_57, i_59, i_63, i_64, i_96, i_97, i_98, i_99, i_100, i_101, i_102, i_103, i_104, i_105, i_106, i_107, i_108, i_109, i_110, i_111, i_112, i_113, i_122, i_200, i_255, i_256, i_257, i_258, i_355, i_400, i_999, i_1000, i_1200, i_5680, i_9999, i_10000, i_99999, j_0, j_1, j_2, j_3, j_4, j_5, j_6, j_9, j_10, j_11, j_98, j_99, j_100, j_999, j_1000, j_9999, j_10000, j_99999, j_1000000, q1, q2]
theorem r_wl10 (hT : tB T n) (hX : RX T n r f ν) : ∀ (d m : Nat) (i : Int), d < m → 0 ≤ i → i + d = n → fX11_wordLong_10 N m (I_ i) ν = some (I_ (we T n i - r), ν) := by
  obtain ⟨n0, n1, hb⟩ := hT
  intro d
  induction d with
  | zero =>
    intro m i h1 h2 h3
    obtain ⟨m, rfl⟩ : ∃ mm, m = mm + 1 := ⟨m - 1, by omega⟩
    have hle : n ≤ i := by omega
    have e : we T n i = i := sca_0 hle
    rw [e]
    simp (disch := omega) only [fX11_wordLong_10, fX11_wordLong_36, Int.reduceEq, Int.reduceNe, Int.reduceLT, Int.reduceLE, Int.reduceAdd, Int.reduceSub, Int.reduceMul, Int.reduceNeg, Int.zero_add, Int.add_zero, nm_eq, bd_some, bv_some, aI_ok, aL_ok, aS_ok, dv_ok, dw_ok, I_add, I_sub, I_mul, I_neg, I_lt, I_le, I_eq, I_nat, J_add, J_sub, J_mul, J_neg, J_lt, J_le, J_eq, I_l, J_i, I_div, J_div, b2_0, b2_1, b2_nar, nar_0, nar_1, zr_0, zr_1, zr_b2, cmp_eq, cmp_le, cmp_lt, cmp_gt, cmp_ge, mx_I, mn_I, mx_L, mn_L, az_I, if_true, if_false, not_true_eq_false, not_false_eq_true, Bool.false_eq_true, i_0, i_1, i_2, i_3, i_4, i_5, i_6, i_7, i_8, i_9, i_10, i_11, i_12, i_16, i_18, i_20, i_24, i_28, i_29, i_30, i_31, i_32, i_33, i_34, i_35, i_37, i_40, i_41, i_42, i_43, i_45, i_46, i_47, i_48, i_57, i_59, i_63, i_64, i_96, i_97, i_98, i_99, i_100, i_101, i_102, i_103, i_104, i_105, i_106, i_107, i_108, i_109, i_110, i_111, i_112, i_113, i_122, i_200, i_255, i_256, i_257, i_258, i_355, i_400, i_999, i_1000, i_1200, i_5680, i_9999, i_10000, i_99999, j_0, j_1, j_2, j_3, j_4, j_5, j_6, j_9, j_10, j_11, j_98, j_99, j_100, j_999, j_1000, j_9999, j_10000, j_99999, j_1000000, hX.1, hX.2.2.1, hle]
  | succ d ih =>
    intro m i h1 h2 h3
    obtain ⟨m, rfl⟩ : ∃ mm, m = mm + 1 := ⟨m - 1, by omega⟩
    have hle : ¬ n ≤ i := by omega
    have bi := hb i
    by_cases hp : cLe (T i) = true
    · have e : we T n i = we T n (i + 1) := sca_y (by omega) hp
      rw [e, ← ih m (i + 1) (by omega) (by omega) (by omega)]
      simp (disch := omega) only [fX11_wordLong_10, Int.reduceEq, Int.reduceNe, Int.reduceLT, Int.reduceLE, Int.reduceAdd, Int.reduceSub, Int.reduceMul, Int.reduceNeg, Int.zero_add, Int.add_zero, nm_eq, bd_some, bv_some, aI_ok, aL_ok, aS_ok, dv_ok, dw_ok, I_add, I_sub, I_mul, I_neg, I_lt, I_le, I_eq, I_nat, J_add, J_sub, J_mul, J_neg, J_lt, J_le, J_eq, I_l, J_i, I_div, J_div, b2_0, b2_1, b2_nar, nar_0, nar_1, zr_0, zr_1, zr_b2, cmp_eq, cmp_le, cmp_lt, cmp_gt, cmp_ge, mx_I, mn_I, mx_L, mn_L, az_I, if_true, if_false, not_true_eq_false, not_false_eq_true, Bool.false_eq_true, i_0, i_1, i_2, i_3, i_4, i_5, i_6, i_7, i_8, i_9, i_10, i_11, i_12, i_16, i_18, i_20, i_24, i_28, i_29, i_30, i_31, i_32, i_33, i_34, i_35, i_37, i_40, i_41, i_42, i_43, i_45, i_46, i_47, i_48, i_57, i_59, i_63, i_64, i_96, i_97, i_98, i_99, i_100, i_101, i_102, i_103, i_104, i_105, i_106, i_107, i_108, i_109, i_110, i_111, i_112, i_113, i_122, i_200, i_255, i_256, i_257, i_258, i_355, i_400, i_999, i_1000, i_1200, i_5680, i_9999, i_10000, i_99999, j_0, j_1, j_2, j_3, j_4, j_5, j_6, j_9, j_10, j_11, j_98, j_99, j_100, j_999, j_1000, j_9999, j_10000, j_99999, j_1000000, hX.1, hle, hX.2.2.2.1 i h2 (by omega), r_le, hp]
    · have e : we T n i = i := sca_n (by omega) hp
      rw [e]
      simp (disch := omega) only [fX11_wordLong_10, fX11_wordLong_36, Int.reduceEq, Int.reduceNe, Int.reduceLT, Int.reduceLE, Int.reduceAdd, Int.reduceSub, Int.reduceMul, Int.reduceNeg, Int.zero_add, Int.add_zero, nm_eq, bd_some, bv_some, aI_ok, aL_ok, aS_ok, dv_ok, dw_ok, I_add, I_sub, I_mul, I_neg, I_lt, I_le, I_eq, I_nat, J_add, J_sub, J_mul, J_neg, J_lt, J_le, J_eq, I_l, J_i, I_div, J_div, b2_0, b2_1, b2_nar, nar_0, nar_1, zr_0, zr_1, zr_b2, cmp_eq, cmp_le, cmp_lt, cmp_gt, cmp_ge, mx_I, mn_I, mx_L, mn_L, az_I, if_true, if_false, not_true_eq_false, not_false_eq_true, Bool.false_eq_true, i_0, i_1, i_2, i_3, i_4, i_5, i_6, i_7, i_8, i_9, i_10, i_11, i_12, i_16, i_18, i_20, i_24, i_28, i_29, i_30, i_31, i_32, i_33, i_34, i_35, i_37, i_40, i_41, i_42, i_43, i_45, i_46, i_47, i_48, i_57, i_59, i_63, i_64, i_96, i_97, i_98, i_99, i_100, i_101, i_102, i_103, i_104, i_105, i_106, i_107, i_108, i_109, i_110, i_111, i_112, i_113, i_122, i_200, i_255, i_256, i_257, i_258, i_355, i_400, i_999, i_1000, i_1200, i_5680, i_9999, i_10000, i_99999, j_0, j_1, j_2, j_3, j_4, j_5, j_6, j_9, j_10, j_11, j_98, j_99, j_100, j_999, j_1000, j_9999, j_10000, j_99999, j_1000000, hX.1, hX.2.2.1, hle, hX.2.2.2.1 i h2 (by omega), r_le, hp]
theorem r_wl (hT : tB T n) (hN : 500 ≤ N) (hX : RX T n r f ν) : fX11_wordLong N ν = some (I_ (we T n (sk T n r) - sk T n r), stI ν 0 16 (I_ (sk T n r))) := by
  have i0 := hX.2.2.2.2.1
  have hi := sk_in (T := T) i0.2
  have n1 := hT.2.1
  have hY := hX.at (i := sk T n r) (by omega) (by omega)
  have := r_wl10 (N := N) hT hY (n - sk T n r).toNat N (sk T n r) (by omega) (by omega) (by omega)
  simp (disch := omega) only [fX11_wordLong, Int.reduceEq, Int.reduceNe, Int.reduceLT, Int.reduceLE, Int.reduceAdd, Int.reduceSub, Int.reduceMul, Int.reduceNeg, Int.zero_add, Int.add_zero, nm_eq, bd_some, bv_some, aI_ok, aL_ok, aS_ok, dv_ok, dw_ok, I_add, I_sub, I_mul, I_neg, I_lt, I_le, I_eq, I_nat, J_add, J_sub, J_mul, J_neg, J_lt, J_le, J_eq, I_l, J_i, I_div, J_div, b2_0, b2_1, b2_nar, nar_0, nar_1, zr_0, zr_1, zr_b2, cmp_eq, cmp_le, cmp_lt, cmp_gt, cmp_ge, mx_I, mn_I, mx_L, mn_L, az_I, if_true, if_false, not_true_eq_false, not_false_eq_true, Bool.false_eq_true, i_0, i_1, i_2, i_3, i_4, i_5, i_6, i_7, i_8, i_9, i_10, i_11, i_12, i_16, i_18, i_20, i_24, i_28, i_29, i_30, i_31, i_32, i_33, i_34, i_35, i_37, i_40, i_41, i_42, i_43, i_45, i_46, i_47, i_48, i_57, i_59, i_63, i_64, i_96, i_97, i_98, i_99, i_100, i_101, i_102, i_103, i_104, i_105, i_106, i_107, i_108, i_109, i_110, i_111, i_112, i_113, i_122, i_200, i_255, i_256, i_257, i_258, i_355, i_400, i_999, i_1000, i_1200, i_5680, i_9999, i_10000, i_99999, j_0, j_1, j_2, j_3, j_4, j_5, j_6, j_9, j_10, j_11, j_98, j_99, j_100, j_999, j_1000, j_9999, j_10000, j_99999, j_1000000, r_here hT hN hX, hY.2.2.1, this]
theorem r_w15 (hX : RX T n r f ν) (n1 : n ≤ 400) {k : Nat} (hk : k < 35) (hl : r + lw_ k ≤ n) : ∀ (d m j : Nat), d < m → j + d = lw_ k → fX11_isWord_15 N m k (I_ j) ν = some (I_ (b2 (mw k (fun i => T (r + i)) d j = true)), ν) := by
  have r0 := hX.2.2.2.2.1
  have hkT : kT k := hk
  have ll := lw_in hk
  intro d
  induction d with
  | zero =>
    intro m j h1 h2
    obtain ⟨m, rfl⟩ : ∃ mm, m = mm + 1 := ⟨m - 1, by omega⟩
    have hle : (lw_ k : Int) ≤ j := by omega
    have e : b2 (mw k (fun i => T (r + i)) 0 j = true) = 1 := b2_t rfl
    rw [e]
    simp (disch := omega) only [fX11_isWord_15, fJ0_length, if_pos hkT, Int.reduceEq, Int.reduceNe, Int.reduceLT, Int.reduceLE, Int.reduceAdd, Int.reduceSub, Int.reduceMul, Int.reduceNeg, Int.zero_add, Int.add_zero, nm_eq, bd_some, bv_some, aI_ok, aL_ok, aS_ok, dv_ok, dw_ok, I_add, I_sub, I_mul, I_neg, I_lt, I_le, I_eq, I_nat, J_add, J_sub, J_mul, J_neg, J_lt, J_le, J_eq, I_l, J_i, I_div, J_div, b2_0, b2_1, b2_nar, nar_0, nar_1, zr_0, zr_1, zr_b2, cmp_eq, cmp_le, cmp_lt, cmp_gt, cmp_ge, mx_I, mn_I, mx_L, mn_L, az_I, if_true, if_false, not_true_eq_false, not_false_eq_true, Bool.false_eq_true, i_0, i_1, i_2, i_3, i_4, i_5, i_6, i_7, i_8, i_9, i_10, i_11, i_12, i_16, i_18, i_20, i_24, i_28, i_29, i_30, i_31, i_32, i_33, i_34, i_35, i_37, i_40, i_41, i_42, i_43, i_45, i_46, i_47, i_48, i_57, i_59, i_63, i_64, i_96, i_97, i_98, i_99, i_100, i_101, i_102, i_103, i_104, i_105, i_106, i_107, i_108, i_109, i_110, i_111, i_112, i_113, i_122, i_200, i_255, i_256, i_257, i_258, i_355, i_400, i_999, i_1000, i_1200, i_5680, i_9999, i_10000, i_99999, j_0, j_1, j_2, j_3, j_4, j_5, j_6, j_9, j_10, j_11, j_98, j_99, j_100, j_999, j_1000, j_9999, j_10000, j_99999, j_1000000, nI_I]
    show (if I_ (lw_ k : Int) ≤ I_ j then _ else _) = _
    simp (disch := omega) only [Int.reduceEq, Int.reduceNe, Int.reduceLT, Int.reduceLE, Int.reduceAdd, Int.reduceSub, Int.reduceMul, Int.reduceNeg, Int.zero_add, Int.add_zero, nm_eq, bd_some, bv_some, aI_ok, aL_ok, aS_ok, dv_ok, dw_ok, I_add, I_sub, I_mul, I_neg, I_lt, I_le, I_eq, I_nat, J_add, J_sub, J_mul, J_neg, J_lt, J_le, J_eq, I_l, J_i, I_div, J_div, b2_0, b2_1, b2_nar, nar_0, nar_1, zr_0, zr_1, zr_b2, cmp_eq, cmp_le, cmp_lt, cmp_gt, cmp_ge, mx_I, mn_I, mx_L, mn_L, az_I, if_true, if_false, not_true_eq_false, not_false_eq_true, Bool.false_eq_true, i_0, i_1, i_2, i_3, i_4, i_5, i_6, i_7, i_8, i_9, i_10, i_11, i_12, i_16, i_18, i_20, i_24, i_28, i_29, i_30, i_31, i_32, i_33, i_34, i_35, i_37, i_40, i_41, i_42, i_43, i_45, i_46, i_47, i_48, i_57, i_59, i_63, i_64, i_96, i_97, i_98, i_99, i_100, i_101, i_102, i_103, i_104, i_105, i_106, i_107, i_108, i_109, i_110, i_111, i_112, i_113, i_122, i_200, i_255, i_256, i_257, i_258, i_355, i_400, i_999, i_1000, i_1200, i_5680, i_9999, i_10000, i_99999, j_0, j_1, j_2, j_3, j_4, j_5, j_6, j_9, j_10, j_11, j_98, j_99, j_100, j_999, j_1000, j_9999, j_10000, j_99999, j_1000000, hle]
  | succ d ih =>
    intro m j h1 h2
    obtain ⟨m, rfl⟩ : ∃ mm, m = mm + 1 := ⟨m - 1, by omega⟩
    have hle : ¬ (lw_ k : Int) ≤ j := by omega
    have hch : fJ0_charAt k (I_ j) ν = some (chS k j, ν) := by
      unfold fJ0_charAt
      rw [if_pos hkT, if_neg, I_nat (by omega) (by omega), Int.toNat_natCast]
      rw [I_nat (by omega) (by omega), Int.toNat_natCast]
      intro q
      rcases q with q | q
      · rw [i_0, I_lt (by omega) (by omega) (by omega) (by omega)] at q
        omega
      · have : lenS.getD k 0 = lw_ k := rfl
        omega
    have hv : ν.1 10 (r + j).toNat = I_ (T (r + j)) := hX.2.2.2.1 (r + j) (by omega) (by omega)
    have el : fJ0_length k ν = some (I_ (lw_ k : Int), ν) := by
      unfold fJ0_length
      rw [if_pos hkT, nI_I]
      rfl
    have hi := ih m (j + 1) (by omega) (by omega)
    rw [show ((j + 1 : Nat) : Int) = (j : Int) + 1 by omega] at hi
    by_cases q : I_ (T (r + j)) = chS k j
    · have e : (mw k (fun i => T (r + i)) (d + 1) j = true) = (mw k (fun i => T (r + i)) d (j + 1) = true) := by
        show ((decide (I_ (T (r + j)) = chS k j) && mw k (fun i => T (r + i)) d (j + 1)) = true) = _
        rw [decide_eq_true q, Bool.true_and]
      simp (disch := omega) only [fX11_isWord_15, el, Int.reduceEq, Int.reduceNe, Int.reduceLT, Int.reduceLE, Int.reduceAdd, Int.reduceSub, Int.reduceMul, Int.reduceNeg, Int.zero_add, Int.add_zero, nm_eq, bd_some, bv_some, aI_ok, aL_ok, aS_ok, dv_ok, dw_ok, I_add, I_sub, I_mul, I_neg, I_lt, I_le, I_eq, I_nat, J_add, J_sub, J_mul, J_neg, J_lt, J_le, J_eq, I_l, J_i, I_div, J_div, b2_0, b2_1, b2_nar, nar_0, nar_1, zr_0, zr_1, zr_b2, cmp_eq, cmp_le, cmp_lt, cmp_gt, cmp_ge, mx_I, mn_I, mx_L, mn_L, az_I, if_true, if_false, not_true_eq_false, not_false_eq_true, Bool.false_eq_true, i_0, i_1, i_2, i_3, i_4, i_5, i_6, i_7, i_8, i_9, i_10, i_11, i_12, i_16, i_18, i_20, i_24, i_28, i_29, i_30, i_31, i_32, i_33, i_34, i_35, i_37, i_40, i_41, i_42, i_43, i_45, i_46, i_47, i_48, i_57, i_59, i_63, i_64, i_96, i_97, i_98, i_99, i_100, i_101, i_102, i_103, i_104, i_105, i_106, i_107, i_108, i_109, i_110, i_111, i_112, i_113, i_122, i_200, i_255, i_256, i_257, i_258, i_355, i_400, i_999, i_1000, i_1200, i_5680, i_9999, i_10000, i_99999, j_0, j_1, j_2, j_3, j_4, j_5, j_6, j_9, j_10, j_11, j_98, j_99, j_100, j_999, j_1000, j_9999, j_10000, j_99999, j_1000000, hle, hX.2.2.1, hv, hch, q, hi, e]
    · have e : ¬ (mw k (fun i => T (r + i)) (d + 1) j = true) := by
        show ¬ ((decide (I_ (T (r + j)) = chS k j) && mw k (fun i => T (r + i)) d (j + 1)) = true)
        rw [decide_eq_false q, Bool.false_and]
        exact Bool.false_ne_true
      rw [b2_f e]
      simp (disch := omega) only [fX11_isWord_15, el, Int.reduceEq, Int.reduceNe, Int.reduceLT, Int.reduceLE, Int.reduceAdd, Int.reduceSub, Int.reduceMul, Int.reduceNeg, Int.zero_add, Int.add_zero, nm_eq, bd_some, bv_some, aI_ok, aL_ok, aS_ok, dv_ok, dw_ok, I_add, I_sub, I_mul, I_neg, I_lt, I_le, I_eq, I_nat, J_add, J_sub, J_mul, J_neg, J_lt, J_le, J_eq, I_l, J_i, I_div, J_div, b2_0, b2_1, b2_nar, nar_0, nar_1, zr_0, zr_1, zr_b2, cmp_eq, cmp_le, cmp_lt, cmp_gt, cmp_ge, mx_I, mn_I, mx_L, mn_L, az_I, if_true, if_false, not_true_eq_false, not_false_eq_true, Bool.false_eq_true, i_0, i_1, i_2, i_3, i_4, i_5, i_6, i_7, i_8, i_9, i_10, i_11, i_12, i_16, i_18, i_20, i_24, i_28, i_29, i_30, i_31, i_32, i_33, i_34, i_35, i_37, i_40, i_41, i_42, i_43, i_45, i_46, i_47, i_48, i_57, i_59, i_63, i_64, i_96, i_97, i_98, i_99, i_100, i_101, i_102, i_103, i_104, i_105, i_106, i_107, i_108, i_109, i_110, i_111, i_112, i_113, i_122, i_200, i_255, i_256, i_257, i_258, i_355, i_400, i_999, i_1000, i_1200, i_5680, i_9999, i_10000, i_99999, j_0, j_1, j_2, j_3, j_4, j_5, j_6, j_9, j_10, j_11, j_98, j_99, j_100, j_999, j_1000, j_9999, j_10000, j_99999, j_1000000, hle, hX.2.2.1, hv, hch, q]
theorem r_isW (hT : tB T n) (hN : 500 ≤ N) (hX : RX T n r f ν) {k : Nat} (hk : k < 35) : fX11_isWord N k ν = some (I_ (b2 (isW T n (sk T n r) k = true)), stI ν 0 16 (I_ (sk T n r))) := by
  have i0 := hX.2.2.2.2.1
  have hi := sk_in (T := T) i0.2
  have n1 := hT.2.1
  have hkT : kT k := hk
  have ll := lw_in hk
  have hY := hX.at (i := sk T n r) (by omega) (by omega)
  have hw := we_in (T := T) (n := n) (i := sk T n r) (by omega)
  have el : fJ0_length k (stI ν 0 16 (I_ (sk T n r))) = some (I_ (lw_ k : Int), stI ν 0 16 (I_ (sk T n r))) := by
    unfold fJ0_length
    rw [if_pos hkT, nI_I]
    rfl
  unfold fX11_isWord
  rw [if_pos hkT, r_wl hT hN hX, bd_some, el, bd_some]
  by_cases q : we T n (sk T n r) - sk T n r = (lw_ k : Int)
  · have e : (isW T n (sk T n r) k = true) = (mw k (fun i => T (sk T n r + i)) (lw_ k) 0 = true) := by
      unfold isW
      rw [decide_eq_true q, Bool.true_and]
    have := r_w15 (N := N) hY n1 hk (by omega) (lw_ k) N 0 (by omega) (by omega)
    rw [q, if_pos rfl]
    simp (disch := omega) only [e]
    exact this
  · have e : ¬ isW T n (sk T n r) k = true := by
      unfold isW
      rw [decide_eq_false q, Bool.false_and]
      exact Bool.false_ne_true
    rw [b2_f e, if_neg (by rw [I_eq (by omega) (by omega) (by omega) (by omega)]; exact q)]
    rfl
end
