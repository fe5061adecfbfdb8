/-! Pieces of a text: T its bytes, n its length. -/
def cBl (c : Int) : Bool := decide (c = 9 ∨ c = 10 ∨ c = 32)
def cLe (c : Int) : Bool := decide (97 ≤ c ∧ c ≤ 122)
def cDi (c : Int) : Bool := decide (48 ≤ c ∧ c ≤ 57)
theorem cBl_y {c : Int} : (cBl c = true) = (c = 9 ∨ c = 10 ∨ c = 32) := by unfold cBl; exact propext decide_eq_true_iff
theorem cLe_y {c : Int} : (cLe c = true) = (97 ≤ c ∧ c ≤ 122) := by unfold cLe; exact propext decide_eq_true_iff
theorem cDi_y {c : Int} : (cDi c = true) = (48 ≤ c ∧ c ≤ 57) := by unfold cDi; exact propext decide_eq_true_iff
def sca (p : Int → Bool) (T : Int → Int) : Nat → Int → Int
  | 0, i => i
  | d + 1, i => if p (T i) = true then sca p T d (i + 1) else i
def sk (T : Int → Int) (n i : Int) : Int := sca cBl T (n - i).toNat i
def we (T : Int → Int) (n i : Int) : Int := sca cLe T (n - i).toNat i
def de (T : Int → Int) (n i : Int) : Int := sca cDi T (n - i).toNat i
section
variable {p : Int → Bool} {T : Int → Int} {n i : Int}
theorem sca_0 (h : n ≤ i) : sca p T (n - i).toNat i = i := by
  have e : (n - i).toNat = 0 := by omega
  rw [e]; rfl
theorem sca_y (h : i < n) (hp : p (T i) = true) : sca p T (n - i).toNat i = sca p T (n - (i + 1)).toNat (i + 1) := by
  have e : (n - i).toNat = (n - (i + 1)).toNat + 1 := by omega
  rw [e]
  exact if_pos hp
theorem sca_n (h : i < n) (hp : ¬ p (T i) = true) : sca p T (n - i).toNat i = i := by
  have e : (n - i).toNat = (n - (i + 1)).toNat + 1 := by omega
  rw [e]
  exact if_neg hp
theorem sca_in : ∀ (d : Nat) (i : Int), i ≤ sca p T d i ∧ sca p T d i ≤ i + d := by
  intro d
  induction d with
  | zero => intro i; show i ≤ i ∧ i ≤ i + ((0 : Nat) : Int); omega
  | succ d ih =>
    intro i
    have h := ih (i + 1)
    unfold sca
    split <;> omega
theorem sca_st : ∀ (d : Nat) (i : Int), sca p T d i = i + d ∨ ¬ p (T (sca p T d i)) = true := by
  intro d
  induction d with
  | zero => intro i; left; show i = i + ((0 : Nat) : Int); omega
  | succ d ih =>
    intro i
    have h := ih (i + 1)
    by_cases hp : p (T i) = true
    · have e : sca p T (d + 1) i = sca p T d (i + 1) := if_pos hp
      rw [e]
      rcases h with h | h
      · left; rw [h]; omega
      · right; exact h
    · have e : sca p T (d + 1) i = i := if_neg hp
      rw [e]
      right; exact hp
theorem sca_all : ∀ (d : Nat) (i j : Int), i ≤ j → j < sca p T d i → p (T j) = true := by
  intro d
  induction d with
  | zero => intro i j h1 h2; exfalso; have e : sca p T 0 i = i := rfl; omega
  | succ d ih =>
    intro i j h1 h2
    by_cases hp : p (T i) = true
    · have e : sca p T (d + 1) i = sca p T d (i + 1) := if_pos hp
      rw [e] at h2
      by_cases hj : j = i
      · rw [hj]; exact hp
      · exact ih (i + 1) j (by omega) h2
    · have e : sca p T (d + 1) i = i := if_neg hp
      omega
theorem sk_in (h : i ≤ n) : i ≤ sk T n i ∧ sk T n i ≤ n := by
  have := sca_in (p := cBl) (T := T) (n - i).toNat i
  unfold sk
  omega
theorem we_in (h : i ≤ n) : i ≤ we T n i ∧ we T n i ≤ n := by
  have := sca_in (p := cLe) (T := T) (n - i).toNat i
  unfold we
  omega
theorem de_in (h : i ≤ n) : i ≤ de T n i ∧ de T n i ≤ n := by
  have := sca_in (p := cDi) (T := T) (n - i).toNat i
  unfold de
  omega
theorem sk_st (h : i ≤ n) : sk T n i = n ∨ ¬ cBl (T (sk T n i)) = true := by
  have := sca_st (p := cBl) (T := T) (n - i).toNat i
  unfold sk
  rcases this with q | q
  · left; omega
  · right; exact q
theorem sk_id (h : i ≤ n) : sk T n (sk T n i) = sk T n i := by
  have h1 := sk_in (T := T) h
  rcases sk_st (T := T) h with q | q
  · rw [q]; exact sca_0 (by omega)
  · by_cases hn : sk T n i < n
    · exact sca_n hn q
    · exact sca_0 (by omega)
/-- the kind of the piece at s, and where it ends -/
def kd (T : Int → Int) (n s : Int) : Int := if s < n then (if cLe (T s) = true then 256 else if cDi (T s) = true then 257 else T s) else 258
def te (T : Int → Int) (n s : Int) : Int := if s < n then (if cLe (T s) = true then we T n s else if cDi (T s) = true then de T n s else s + 1) else s
def nx (T : Int → Int) (n s : Int) : Int := sk T n (te T n s)
def tB (T : Int → Int) (n : Int) : Prop := 0 ≤ n ∧ n ≤ 400 ∧ ∀ j, -128 ≤ T j ∧ T j ≤ 127
theorem te_in {s : Int} (h : s ≤ n) : s ≤ te T n s ∧ te T n s ≤ n ∧ (s < n → s < te T n s) := by
  unfold te
  by_cases hs : s < n
  · rw [if_pos hs]
    by_cases hl : cLe (T s) = true
    · rw [if_pos hl]
      have e : we T n s = we T n (s + 1) := sca_y hs hl
      have := we_in (T := T) (n := n) (i := s + 1) (by omega)
      omega
    · rw [if_neg hl]
      by_cases hd : cDi (T s) = true
      · rw [if_pos hd]
        have e : de T n s = de T n (s + 1) := sca_y hs hd
        have := de_in (T := T) (n := n) (i := s + 1) (by omega)
        omega
      · rw [if_neg hd]
        omega
  · rw [if_neg hs]
    omega
theorem nx_in {s : Int} (h : s ≤ n) : s ≤ nx T n s ∧ nx T n s ≤ n ∧ (s < n → s < nx T n s) ∧ sk T n (nx T n s) = nx T n s := by
  have h1 := te_in (T := T) h
  have h2 := sk_in (T := T) (n := n) (i := te T n s) (by omega)
  have h3 := sk_id (T := T) (n := n) (i := te T n s) (by omega)
  unfold nx
  exact ⟨by omega, by omega, by omega, h3⟩
theorem kd_in (hT : tB T n) (s : Int) : -128 ≤ kd T n s ∧ kd T n s ≤ 258 := by
  have := hT.2.2 s
  unfold kd
  split
  · split
    · omega
    · split <;> omega
  · omega
end
/-! The class's reader. -/
theorem st_id {μ : Mem} {k j : Nat} {v : Int32} (h : μ.1 k j = v) : stI μ k j v = μ := Prod.ext (funext fun a => funext fun c => by
  show (if a = k ∧ c = j then v else μ.1 a c) = μ.1 a c
  by_cases q : a = k ∧ c = j
  · rw [if_pos q, q.1, q.2, h]
  · rw [if_neg q]) rfl
theorem st_st {μ : Mem} {k j : Nat} {v w : Int32} : stI (stI μ k j v) k j w = stI μ k j w := Prod.ext (funext fun a => funext fun c => by
  show (if a = k ∧ c = j then w else if a = k ∧ c = j then v else μ.1 a c) = if a = k ∧ c = j then w else μ.1 a c
  by_cases q : a = k ∧ c = j
  · rw [if_pos q, if_pos q]
  · rw [if_neg q, if_neg q, if_neg q]) rfl
def TP (T : Int → Int) (n : Int) (k : Nat) (μ : Mem) : Prop := ∀ j, 0 ≤ j → j < n → μ.1 k j.toNat = I_ (T j)
theorem TP.st {T : Int → Int} {n : Int} {k : Nat} {μ : Mem} (h : TP T n k μ) {c j : Nat} {v : Int32} (hc : k ≠ c) : TP T n k (stI μ c j v) := fun i h0 h1 => by rw [st_ne hc]; exact h i h0 h1
section
variable {T : Int → Int} {n : Int} {N : Nat} {μ : Mem}
theorem c_bl {c : Int} (h0 : -128 ≤ c) (h1 : c ≤ 127) : fX5_isBlank N (I_ c) μ = some (I_ (b2 (cBl c = true)), μ) := by
  by_cases h : cBl c = true
  · rw [b2_t h]
    rw [cBl_y] at h
    rcases h with h | h | h <;> (subst h; rfl)
  · rw [b2_f h]
    rw [cBl_y] at h
    have q1 : ¬ c = 9 := fun e => h (Or.inl e)
    have q2 : ¬ c = 10 := fun e => h (Or.inr (Or.inl e))
    have q3 : ¬ c = 32 := fun e => h (Or.inr (Or.inr e))
    simp (disch := omega) only [fX5_isBlank, Int.reduceEq, Int.reduceNe, Int.reduceLT, Int.reduceLE, Int.reduceAdd, Int.reduceSub, Int.reduceMul, Int.reduceNeg, Int.zero_add, Int.add_zero, nm_eq, bd_some, bv_some, aI_ok, aL_ok, aS_ok, dv_ok, dw_ok, I_add, I_sub, I_mul, I_neg, I_lt, I_le, I_eq, I_nat, J_add, J_sub, J_mul, J_neg, J_lt, J_le, J_eq, I_l, J_i, I_div, J_div, b2_0, b2_1, b2_nar, nar_0, nar_1, zr_0, zr_1, zr_b2, cmp_eq, cmp_le, cmp_lt, cmp_gt, cmp_ge, mx_I, mn_I, mx_L, mn_L, az_I, if_true, if_false, not_true_eq_false, not_false_eq_true, Bool.false_eq_true, i_0, i_1, i_2, i_3, i_4, i_5, i_6, i_7, i_8, i_9, i_10, i_11, i_12, i_16, i_18, i_20, i_24, i_28, i_29, i_30, i_31, i_32, i_33, i_34, i_35, i_37, i_40, i_41, i_42, i_43, i_45, i_46, i_47, i_48, i_57, i_59, i_63, i_64, i_96, i_97, i_98, i_99, i_100, i_101, i_102, i_103, i_104, i_105, i_106, i_107, i_108, i_109, i_110, i_111, i_112, i_113, i_122, i_200, i_255, i_256, i_257, i_258, i_355, i_400, i_999, i_1000, i_1200, i_5680, i_9999, i_10000, i_99999, j_0, j_1, j_2, j_3, j_4, j_5, j_6, j_9, j_10, j_11, j_98, j_99, j_100, j_999, j_1000, j_9999, j_10000, j_99999, j_1000000, q1, q2, q3]
theorem c_le {c : Int} (h0 : -128 ≤ c) (h1 : c ≤ 127) : fX5_isLetter N (I_ c) μ = some (I_ (b2 (cLe c = true)), μ) := by
  by_cases h : cLe c = true
  · rw [b2_t h]
    rw [cLe_y] at h
    have q1 : ¬ c < 97 := by omega
    have q2 : ¬ 122 < c := by omega
    simp (disch := omega) only [fX5_isLetter, Int.reduceEq, Int.reduceNe, Int.reduceLT, Int.reduceLE, Int.reduceAdd, Int.reduceSub, Int.reduceMul, Int.reduceNeg, Int.zero_add, Int.add_zero, nm_eq, bd_some, bv_some, aI_ok, aL_ok, aS_ok, dv_ok, dw_ok, I_add, I_sub, I_mul, I_neg, I_lt, I_le, I_eq, I_nat, J_add, J_sub, J_mul, J_neg, J_lt, J_le, J_eq, I_l, J_i, I_div, J_div, b2_0, b2_1, b2_nar, nar_0, nar_1, zr_0, zr_1, zr_b2, cmp_eq, cmp_le, cmp_lt, cmp_gt, cmp_ge, mx_I, mn_I, mx_L, mn_L, az_I, if_true, if_false, not_true_eq_false, not_false_eq_true, Bool.false_eq_true, i_0, i_1, i_2, i_3, i_4, i_5, i_6, i_7, i_8, i_9, i_10, i_11, i_12, i_16, i_18, i_20, i_24, i_28, i_29, i_30, i_31, i_32, i_33, i_34, i_35, i_37, i_40, i_41, i_42, i_43, i_45, i_46, i_47, i_48, i_57, i_59, i_63, i_64, i_96, i_97, i_98, i_99, i_100, i_101, i_102, i_103, i_104, i_105, i_106, i_107, i_108, i_109, i_110, i_111, i_112, i_113, i_122, i_200, i_255, i_256, i_257, i_258, i_355, i_400, i_999, i_1000, i_1200, i_5680, i_9999, i_10000, i_99999, j_0, j_1, j_2, j_3, j_4, j_5, j_6, j_9, j_10, j_11, j_98, j_99, j_100, j_999, j_1000, j_9999, j_10000, j_99999, j_1000000, q1, q2]
  · rw [b2_f h]
    rw [cLe_y] at h
    by_cases q1 : c < 97
    · simp (disch := omega) only [fX5_isLetter, Int.reduceEq, Int.reduceNe, Int.reduceLT, Int.reduceLE, Int.reduceAdd, Int.reduceSub, Int.reduceMul, Int.reduceNeg, Int.zero_add, Int.add_zero, nm_eq, bd_some, bv_some, aI_ok, aL_ok, aS_ok, dv_ok, dw_ok, I_add, I_sub, I_mul, I_neg, I_lt, I_le, I_eq, I_nat, J_add, J_sub, J_mul, J_neg, J_lt, J_le, J_eq, I_l, J_i, I_div, J_div, b2_0, b2_1, b2_nar, nar_0, nar_1, zr_0, zr_1, zr_b2, cmp_eq, cmp_le, cmp_lt, cmp_gt, cmp_ge, mx_I, mn_I, mx_L, mn_L, az_I, if_true, if_false, not_true_eq_false, not_false_eq_true, Bool.false_eq_true, i_0, i_1, i_2, i_3, i_4, i_5, i_6, i_7, i_8, i_9, i_10, i_11, i_12, i_16, i_18, i_20, i_24, i_28, i_29, i_30, i_31, i_32, i_33, i_34, i_35, i_37, i_40, i_41, i_42, i_43, i_45, i_46, i_47, i_48, i_57, i_59, i_63, i_64, i_96, i_97, i_98, i_99, i_100, i_101, i_102, i_103, i_104, i_105, i_106, i_107, i_108, i_109, i_110, i_111, i_112, i_113, i_122, i_200, i_255, i_256, i_257, i_258, i_355, i_400, i_999, i_1000, i_1200, i_5680, i_9999, i_10000, i_99999, j_0, j_1, j_2, j_3, j_4, j_5, j_6, j_9, j_10, j_11, j_98, j_99, j_100, j_999, j_1000, j_9999, j_10000, j_99999, j_1000000, q1]
    · have q2 : 122 < c := by omega
      simp (disch := omega) only [fX5_isLetter, Int.reduceEq, Int.reduceNe, Int.reduceLT, Int.reduceLE, Int.reduceAdd, Int.reduceSub, Int.reduceMul, Int.reduceNeg, Int.zero_add, Int.add_zero, nm_eq, bd_some, bv_some, aI_ok, aL_ok, aS_ok, dv_ok, dw_ok, I_add, I_sub, I_mul, I_neg, I_lt, I_le, I_eq, I_nat, J_add, J_sub, J_mul, J_neg, J_lt, J_le, J_eq, I_l, J_i, I_div, J_div, b2_0, b2_1, b2_nar, nar_0, nar_1, zr_0, zr_1, zr_b2, cmp_eq, cmp_le, cmp_lt, cmp_gt, cmp_ge, mx_I, mn_I, mx_L, mn_L, az_I, if_true, if_false, not_true_eq_false, not_false_eq_true, Bool.false_eq_true, i_0, i_1, i_2, i_3, i_4, i_5, i_6, i_7, i_8, i_9, i_10, i_11, i_12, i_16, i_18, i_20, i_24, i_28, i_29, i_30, i_31, i_32, i_33, i_34, i_35, i_37, i_40, i_41, i_42, i_43, i_45, i_46, i_47, i_48, i_57, i_59, i_63, i_64, i_96, i_97, i_98, i_99, i_100, i_101, i_102, i_103, i_104, i_105, i_106, i_107, i_108, i_109, i_110, i_111, i_112, i_113, i_122, i_200, i_255, i_256, i_257, i_258, i_355, i_400, i_999, i_1000, i_1200, i_5680, i_9999, i_10000, i_99999, j_0, j_1, j_2, j_3, j_4, j_5, j_6, j_9, j_10, j_11, j_98, j_99, j_100, j_999, j_1000, j_9999, j_10000, j_99999, j_1000000, q1, q2]
theorem c_di {c : Int} (h0 : -128 ≤ c) (h1 : c ≤ 127) : fX5_isDigit N (I_ c) μ = some (I_ (b2 (cDi c = true)), μ) := by
  by_cases h : cDi c = true
  · rw [b2_t h]
    rw [cDi_y] at h
    have q1 : ¬ c < 48 := by omega
    have q2 : ¬ 57 < c := by omega
    simp (disch := omega) only [fX5_isDigit, Int.reduceEq, Int.reduceNe, Int.reduceLT, Int.reduceLE, Int.reduceAdd, Int.reduceSub, Int.reduceMul, Int.reduceNeg, Int.zero_add, Int.add_zero, nm_eq, bd_some, bv_some, aI_ok, aL_ok, aS_ok, dv_ok, dw_ok, I_add, I_sub, I_mul, I_neg, I_lt, I_le, I_eq, I_nat, J_add, J_sub, J_mul, J_neg, J_lt, J_le, J_eq, I_l, J_i, I_div, J_div, b2_0, b2_1, b2_nar, nar_0, nar_1, zr_0, zr_1, zr_b2, cmp_eq, cmp_le, cmp_lt, cmp_gt, cmp_ge, mx_I, mn_I, mx_L, mn_L, az_I, if_true, if_false, not_true_eq_false, not_false_eq_true, Bool.false_eq_true, i_0, i_1, i_2, i_3, i_4, i_5, i_6, i_7, i_8, i_9, i_10, i_11, i_12, i_16, i_18, i_20, i_24, i_28, i_29, i_30, i_31, i_32, i_33, i_34, i_35, i_37, i_40, i_41, i_42, i_43, i_45, i_46, i_47, i_48, i_57, i_59, i_63, i_64, i_96, i_97, i_98, i_99, i_100, i_101, i_102, i_103, i_104, i_105, i_106, i_107, i_108, i_109, i_110, i_111, i_112, i_113, i_122, i_200, i_255, i_256, i_257, i_258, i_355, i_400, i_999, i_1000, i_1200, i_5680, i_9999, i_10000, i_99999, j_0, j_1, j_2, j_3, j_4, j_5, j_6, j_9, j_10, j_11, j_98, j_99, j_100, j_999, j_1000, j_9999, j_10000, j_99999, j_1000000, q1, q2]
  · rw [b2_f h]
    rw [cDi_y] at h
    by_cases q1 : c < 48
    · simp (disch := omega) only [fX5_isDigit, Int.reduceEq, Int.reduceNe, Int.reduceLT, Int.reduceLE, Int.reduceAdd, Int.reduceSub, Int.reduceMul, Int.reduceNeg, Int.zero_add, Int.add_zero, nm_eq, bd_some, bv_some, aI_ok, aL_ok, aS_ok, dv_ok, dw_ok, I_add, I_sub, I_mul, I_neg, I_lt, I_le, I_eq, I_nat, J_add, J_sub, J_mul, J_neg, J_lt, J_le, J_eq, I_l, J_i, I_div, J_div, b2_0, b2_1, b2_nar, nar_0, nar_1, zr_0, zr_1, zr_b2, cmp_eq, cmp_le, cmp_lt, cmp_gt, cmp_ge, mx_I, mn_I, mx_L, mn_L, az_I, if_true, if_false, not_true_eq_false, not_false_eq_true, Bool.false_eq_true, i_0, i_1, i_2, i_3, i_4, i_5, i_6, i_7, i_8, i_9, i_10, i_11, i_12, i_16, i_18, i_20, i_24, i_28, i_29, i_30, i_31, i_32, i_33, i_34, i_35, i_37, i_40, i_41, i_42, i_43, i_45, i_46, i_47, i_48, i_57, i_59, i_63, i_64, i_96, i_97, i_98, i_99, i_100, i_101, i_102, i_103, i_104, i_105, i_106, i_107, i_108, i_109, i_110, i_111, i_112, i_113, i_122, i_200, i_255, i_256, i_257, i_258, i_355, i_400, i_999, i_1000, i_1200, i_5680, i_9999, i_10000, i_99999, j_0, j_1, j_2, j_3, j_4, j_5, j_6, j_9, j_10, j_11, j_98, j_99, j_100, j_999, j_1000, j_9999, j_10000, j_99999, j_1000000, q1]
    · have q2 : 57 < c := by omega
      simp (disch := omega) only [fX5_isDigit, Int.reduceEq, Int.reduceNe, Int.reduceLT, Int.reduceLE, Int.reduceAdd, Int.reduceSub, Int.reduceMul, Int.reduceNeg, Int.zero_add, Int.add_zero, nm_eq, bd_some, bv_some, aI_ok, aL_ok, aS_ok, dv_ok, dw_ok, I_add, I_sub, I_mul, I_neg, I_lt, I_le, I_eq, I_nat, J_add, J_sub, J_mul, J_neg, J_lt, J_le, J_eq, I_l, J_i, I_div, J_div, b2_0, b2_1, b2_nar, nar_0, nar_1, zr_0, zr_1, zr_b2, cmp_eq, cmp_le, cmp_lt, cmp_gt, cmp_ge, mx_I, mn_I, mx_L, mn_L, az_I, if_true, if_false, not_true_eq_false, not_false_eq_true, Bool.false_eq_true, i_0, i_1, i_2, i_3, i_4, i_5, i_6, i_7, i_8, i_9, i_10, i_11, i_12, i_16, i_18, i_20, i_24, i_28, i_29, i_30, i_31, i_32, i_33, i_34, i_35, i_37, i_40, i_41, i_42, i_43, i_45, i_46, i_47, i_48, i_57, i_59, i_63, i_64, i_96, i_97, i_98, i_99, i_100, i_101, i_102, i_103, i_104, i_105, i_106, i_107, i_108, i_109, i_110, i_111, i_112, i_113, i_122, i_200, i_255, i_256, i_257, i_258, i_355, i_400, i_999, i_1000, i_1200, i_5680, i_9999, i_10000, i_99999, j_0, j_1, j_2, j_3, j_4, j_5, j_6, j_9, j_10, j_11, j_98, j_99, j_100, j_999, j_1000, j_9999, j_10000, j_99999, j_1000000, q1, q2]
theorem c_st0 (hT : tB T n) {k : Mem → Option (Unit × Mem)} (hk : ∀ μ, fX5_step_39 N μ = k μ) : ∀ (d m : Nat) (i : Int) (μ : Mem), d < m → 0 ≤ i → i + d = n → μ.1 1 1 = I_ n → μ.1 1 6 = I_ i → TP T n 7 μ → fX5_step_0 N m μ = k (stI μ 1 6 (I_ (sk T n i))) := by
  obtain ⟨n0, n1, hb⟩ := hT
  intro d
  induction d with
  | zero =>
    intro m i μ h1 h2 h3 h4 h5 h6
    obtain ⟨m, rfl⟩ : ∃ mm, m = mm + 1 := ⟨m - 1, by omega⟩
    have hle : n ≤ i := by omega
    have e : sk T n i = i := sca_0 hle
    rw [e, st_id h5]
    simp (disch := omega) only [fX5_step_0, Int.reduceEq, Int.reduceNe, Int.reduceLT, Int.reduceLE, Int.reduceAdd, Int.reduceSub, Int.reduceMul, Int.reduceNeg, Int.zero_add, Int.add_zero, nm_eq, bd_some, bv_some, aI_ok, aL_ok, aS_ok, dv_ok, dw_ok, I_add, I_sub, I_mul, I_neg, I_lt, I_le, I_eq, I_nat, J_add, J_sub, J_mul, J_neg, J_lt, J_le, J_eq, I_l, J_i, I_div, J_div, b2_0, b2_1, b2_nar, nar_0, nar_1, zr_0, zr_1, zr_b2, cmp_eq, cmp_le, cmp_lt, cmp_gt, cmp_ge, mx_I, mn_I, mx_L, mn_L, az_I, if_true, if_false, not_true_eq_false, not_false_eq_true, Bool.false_eq_true, i_0, i_1, i_2, i_3, i_4, i_5, i_6, i_7, i_8, i_9, i_10, i_11, i_12, i_16, i_18, i_20, i_24, i_28, i_29, i_30, i_31, i_32, i_33, i_34, i_35, i_37, i_40, i_41, i_42, i_43, i_45, i_46, i_47, i_48, i_57, i_59, i_63, i_64, i_96, i_97, i_98, i_99, i_100, i_101, i_102, i_103, i_104, i_105, i_106, i_107, i_108, i_109, i_110, i_111, i_112, i_113, i_122, i_200, i_255, i_256, i_257, i_258, i_355, i_400, i_999, i_1000, i_1200, i_5680, i_9999, i_10000, i_99999, j_0, j_1, j_2, j_3, j_4, j_5, j_6, j_9, j_10, j_11, j_98, j_99, j_100, j_999, j_1000, j_9999, j_10000, j_99999, j_1000000, h4, h5, hle, hk]
  | succ d ih =>
    intro m i μ h1 h2 h3 h4 h5 h6
    obtain ⟨m, rfl⟩ : ∃ mm, m = mm + 1 := ⟨m - 1, by omega⟩
    have hle : ¬ n ≤ i := by omega
    have bi := hb i
    by_cases hp : cBl (T i) = true
    · have e : sk T n i = sk T n (i + 1) := sca_y (by omega) hp
      have := ih m (i + 1) (stI μ 1 6 (I_ (i + 1))) (by omega) (by omega) (by omega) (by simp (disch := omega) only [st_I, st_I2, st_L1, st_L2, st_R1, st_R2, Nat.reduceEqDiff, Nat.reduceAdd, and_true, true_and, and_false, false_and, and_self, if_false, if_true]; exact h4) at_S (h6.st (by omega))
      rw [st_st, ← e] at this
      have l : fX5_step_0 N (m + 1) μ = fX5_step_0 N m (stI μ 1 6 (I_ (i + 1))) := by
        simp (disch := omega) only [fX5_step_0, Int.reduceEq, Int.reduceNe, Int.reduceLT, Int.reduceLE, Int.reduceAdd, Int.reduceSub, Int.reduceMul, Int.reduceNeg, Int.zero_add, Int.add_zero, nm_eq, bd_some, bv_some, aI_ok, aL_ok, aS_ok, dv_ok, dw_ok, I_add, I_sub, I_mul, I_neg, I_lt, I_le, I_eq, I_nat, J_add, J_sub, J_mul, J_neg, J_lt, J_le, J_eq, I_l, J_i, I_div, J_div, b2_0, b2_1, b2_nar, nar_0, nar_1, zr_0, zr_1, zr_b2, cmp_eq, cmp_le, cmp_lt, cmp_gt, cmp_ge, mx_I, mn_I, mx_L, mn_L, az_I, if_true, if_false, not_true_eq_false, not_false_eq_true, Bool.false_eq_true, i_0, i_1, i_2, i_3, i_4, i_5, i_6, i_7, i_8, i_9, i_10, i_11, i_12, i_16, i_18, i_20, i_24, i_28, i_29, i_30, i_31, i_32, i_33, i_34, i_35, i_37, i_40, i_41, i_42, i_43, i_45, i_46, i_47, i_48, i_57, i_59, i_63, i_64, i_96, i_97, i_98, i_99, i_100, i_101, i_102, i_103, i_104, i_105, i_106, i_107, i_108, i_109, i_110, i_111, i_112, i_113, i_122, i_200, i_255, i_256, i_257, i_258, i_355, i_400, i_999, i_1000, i_1200, i_5680, i_9999, i_10000, i_99999, j_0, j_1, j_2, j_3, j_4, j_5, j_6, j_9, j_10, j_11, j_98, j_99, j_100, j_999, j_1000, j_9999, j_10000, j_99999, j_1000000, h4, h5, hle, h6 i h2 (by omega), c_bl, hp, hk]
      exact l.trans this
    · have e : sk T n i = i := sca_n (by omega) hp
      rw [e, st_id h5]
      simp (disch := omega) only [fX5_step_0, Int.reduceEq, Int.reduceNe, Int.reduceLT, Int.reduceLE, Int.reduceAdd, Int.reduceSub, Int.reduceMul, Int.reduceNeg, Int.zero_add, Int.add_zero, nm_eq, bd_some, bv_some, aI_ok, aL_ok, aS_ok, dv_ok, dw_ok, I_add, I_sub, I_mul, I_neg, I_lt, I_le, I_eq, I_nat, J_add, J_sub, J_mul, J_neg, J_lt, J_le, J_eq, I_l, J_i, I_div, J_div, b2_0, b2_1, b2_nar, nar_0, nar_1, zr_0, zr_1, zr_b2, cmp_eq, cmp_le, cmp_lt, cmp_gt, cmp_ge, mx_I, mn_I, mx_L, mn_L, az_I, if_true, if_false, not_true_eq_false, not_false_eq_true, Bool.false_eq_true, i_0, i_1, i_2, i_3, i_4, i_5, i_6, i_7, i_8, i_9, i_10, i_11, i_12, i_16, i_18, i_20, i_24, i_28, i_29, i_30, i_31, i_32, i_33, i_34, i_35, i_37, i_40, i_41, i_42, i_43, i_45, i_46, i_47, i_48, i_57, i_59, i_63, i_64, i_96, i_97, i_98, i_99, i_100, i_101, i_102, i_103, i_104, i_105, i_106, i_107, i_108, i_109, i_110, i_111, i_112, i_113, i_122, i_200, i_255, i_256, i_257, i_258, i_355, i_400, i_999, i_1000, i_1200, i_5680, i_9999, i_10000, i_99999, j_0, j_1, j_2, j_3, j_4, j_5, j_6, j_9, j_10, j_11, j_98, j_99, j_100, j_999, j_1000, j_9999, j_10000, j_99999, j_1000000, h4, h5, hle, h6 i h2 (by omega), c_bl, hp, hk]
theorem c_st90 (hT : tB T n) : ∀ (d m : Nat) (i : Int) (μ : Mem), d < m → 0 ≤ i → i + d = n → μ.1 1 1 = I_ n → μ.1 1 6 = I_ i → TP T n 7 μ → fX5_step_90 N m μ = some ((), stI μ 1 6 (I_ (we T n i))) := by
  obtain ⟨n0, n1, hb⟩ := hT
  intro d
  induction d with
  | zero =>
    intro m i μ h1 h2 h3 h4 h5 h6
    obtain ⟨m, rfl⟩ : ∃ mm, m = mm + 1 := ⟨m - 1, by omega⟩
    have hle : n ≤ i := by omega
    have e : we T n i = i := sca_0 hle
    rw [e, st_id h5]
    simp (disch := omega) only [fX5_step_90, Int.reduceEq, Int.reduceNe, Int.reduceLT, Int.reduceLE, Int.reduceAdd, Int.reduceSub, Int.reduceMul, Int.reduceNeg, Int.zero_add, Int.add_zero, nm_eq, bd_some, bv_some, aI_ok, aL_ok, aS_ok, dv_ok, dw_ok, I_add, I_sub, I_mul, I_neg, I_lt, I_le, I_eq, I_nat, J_add, J_sub, J_mul, J_neg, J_lt, J_le, J_eq, I_l, J_i, I_div, J_div, b2_0, b2_1, b2_nar, nar_0, nar_1, zr_0, zr_1, zr_b2, cmp_eq, cmp_le, cmp_lt, cmp_gt, cmp_ge, mx_I, mn_I, mx_L, mn_L, az_I, if_true, if_false, not_true_eq_false, not_false_eq_true, Bool.false_eq_true, i_0, i_1, i_2, i_3, i_4, i_5, i_6, i_7, i_8, i_9, i_10, i_11, i_12, i_16, i_18, i_20, i_24, i_28, i_29, i_30, i_31, i_32, i_33, i_34, i_35, i_37, i_40, i_41, i_42, i_43, i_45, i_46, i_47, i_48, i_57, i_59, i_63, i_64, i_96, i_97, i_98, i_99, i_100, i_101, i_102, i_103, i_104, i_105, i_106, i_107, i_108, i_109, i_110, i_111, i_112, i_113, i_122, i_200, i_255, i_256, i_257, i_258, i_355, i_400, i_999, i_1000, i_1200, i_5680, i_9999, i_10000, i_99999, j_0, j_1, j_2, j_3, j_4, j_5, j_6, j_9, j_10, j_11, j_98, j_99, j_100, j_999, j_1000, j_9999, j_10000, j_99999, j_1000000, h4, h5, hle]
  | succ d ih =>
    intro m i μ h1 h2 h3 h4 h5 h6
    obtain ⟨m, rfl⟩ : ∃ mm, m = mm + 1 := ⟨m - 1, by omega⟩
    have hle : ¬ n ≤ i := by omega
    have bi := hb i
    by_cases hp : cLe (T i) = true
    · have e : we T n i = we T n (i + 1) := sca_y (by omega) hp
      have := ih m (i + 1) (stI μ 1 6 (I_ (i + 1))) (by omega) (by omega) (by omega) (by simp (disch := omega) only [st_I, st_I2, st_L1, st_L2, st_R1, st_R2, Nat.reduceEqDiff, Nat.reduceAdd, and_true, true_and, and_false, false_and, and_self, if_false, if_true]; exact h4) at_S (h6.st (by omega))
      rw [e, ← st_st (μ := μ) (v := I_ (i + 1)), ← this]
      simp (disch := omega) only [fX5_step_90, Int.reduceEq, Int.reduceNe, Int.reduceLT, Int.reduceLE, Int.reduceAdd, Int.reduceSub, Int.reduceMul, Int.reduceNeg, Int.zero_add, Int.add_zero, nm_eq, bd_some, bv_some, aI_ok, aL_ok, aS_ok, dv_ok, dw_ok, I_add, I_sub, I_mul, I_neg, I_lt, I_le, I_eq, I_nat, J_add, J_sub, J_mul, J_neg, J_lt, J_le, J_eq, I_l, J_i, I_div, J_div, b2_0, b2_1, b2_nar, nar_0, nar_1, zr_0, zr_1, zr_b2, cmp_eq, cmp_le, cmp_lt, cmp_gt, cmp_ge, mx_I, mn_I, mx_L, mn_L, az_I, if_true, if_false, not_true_eq_false, not_false_eq_true, Bool.false_eq_true, i_0, i_1, i_2, i_3, i_4, i_5, i_6, i_7, i_8, i_9, i_10, i_11, i_12, i_16, i_18, i_20, i_24, i_28, i_29, i_30, i_31, i_32, i_33, i_34, i_35, i_37, i_40, i_41, i_42, i_43, i_45, i_46, i_47, i_48, i_57, i_59, i_63, i_64, i_96, i_97, i_98, i_99, i_100, i_101, i_102, i_103, i_104, i_105, i_106, i_107, i_108, i_109, i_110, i_111, i_112, i_113, i_122, i_200, i_255, i_256, i_257, i_258, i_355, i_400, i_999, i_1000, i_1200, i_5680, i_9999, i_10000, i_99999, j_0, j_1, j_2, j_3, j_4, j_5, j_6, j_9, j_10, j_11, j_98, j_99, j_100, j_999, j_1000, j_9999, j_10000, j_99999, j_1000000, h4, h5, hle, h6 i h2 (by omega), c_le, hp]
    · have e : we T n i = i := sca_n (by omega) hp
      rw [e, st_id h5]
      simp (disch := omega) only [fX5_step_90, Int.reduceEq, Int.reduceNe, Int.reduceLT, Int.reduceLE, Int.reduceAdd, Int.reduceSub, Int.reduceMul, Int.reduceNeg, Int.zero_add, Int.add_zero, nm_eq, bd_some, bv_some, aI_ok, aL_ok, aS_ok, dv_ok, dw_ok, I_add, I_sub, I_mul, I_neg, I_lt, I_le, I_eq, I_nat, J_add, J_sub, J_mul, J_neg, J_lt, J_le, J_eq, I_l, J_i, I_div, J_div, b2_0, b2_1, b2_nar, nar_0, nar_1, zr_0, zr_1, zr_b2, cmp_eq, cmp_le, cmp_lt, cmp_gt, cmp_ge, mx_I, mn_I, mx_L, mn_L, az_I, if_true, if_false, not_true_eq_false, not_false_eq_true, Bool.false_eq_true, i_0, i_1, i_2, i_3, i_4, i_5, i_6, i_7, i_8, i_9, i_10, i_11, i_12, i_16, i_18, i_20, i_24, i_28, i_29, i_30, i_31, i_32, i_33, i_34, i_35, i_37, i_40, i_41, i_42, i_43, i_45, i_46, i_47, i_48, i_57, i_59, i_63, i_64, i_96, i_97, i_98, i_99, i_100, i_101, i_102, i_103, i_104, i_105, i_106, i_107, i_108, i_109, i_110, i_111, i_112, i_113, i_122, i_200, i_255, i_256, i_257, i_258, i_355, i_400, i_999, i_1000, i_1200, i_5680, i_9999, i_10000, i_99999, j_0, j_1, j_2, j_3, j_4, j_5, j_6, j_9, j_10, j_11, j_98, j_99, j_100, j_999, j_1000, j_9999, j_10000, j_99999, j_1000000, h4, h5, hle, h6 i h2 (by omega), c_le, hp]
theorem c_st151 (hT : tB T n) : ∀ (d m : Nat) (i : Int) (μ : Mem), d < m → 0 ≤ i → i + d = n → μ.1 1 1 = I_ n → μ.1 1 6 = I_ i → TP T n 7 μ → fX5_step_151 N m μ = some ((), stI μ 1 6 (I_ (de T n i))) := by
  obtain ⟨n0, n1, hb⟩ := hT
  intro d
  induction d with
  | zero =>
    intro m i μ h1 h2 h3 h4 h5 h6
    obtain ⟨m, rfl⟩ : ∃ mm, m = mm + 1 := ⟨m - 1, by omega⟩
    have hle : n ≤ i := by omega
    have e : de T n i = i := sca_0 hle
    rw [e, st_id h5]
    simp (disch := omega) only [fX5_step_151, Int.reduceEq, Int.reduceNe, Int.reduceLT, Int.reduceLE, Int.reduceAdd, Int.reduceSub, Int.reduceMul, Int.reduceNeg, Int.zero_add, Int.add_zero, nm_eq, bd_some, bv_some, aI_ok, aL_ok, aS_ok, dv_ok, dw_ok, I_add, I_sub, I_mul, I_neg, I_lt, I_le, I_eq, I_nat, J_add, J_sub, J_mul, J_neg, J_lt, J_le, J_eq, I_l, J_i, I_div, J_div, b2_0, b2_1, b2_nar, nar_0, nar_1, zr_0, zr_1, zr_b2, cmp_eq, cmp_le, cmp_lt, cmp_gt, cmp_ge, mx_I, mn_I, mx_L, mn_L, az_I, if_true, if_false, not_true_eq_false, not_false_eq_true, Bool.false_eq_true, i_0, i_1, i_2, i_3, i_4, i_5, i_6, i_7, i_8, i_9, i_10, i_11, i_12, i_16, i_18, i_20, i_24, i_28, i_29, i_30, i_31, i_32, i_33, i_34, i_35, i_37, i_40, i_41, i_42, i_43, i_45, i_46, i_47, i_48, i_57, i_59, i_63, i_64, i_96, i_97, i_98, i_99, i_100, i_101, i_102, i_103, i_104, i_105, i_106, i_107, i_108, i_109, i_110, i_111, i_112, i_113, i_122, i_200, i_255, i_256, i_257, i_258, i_355, i_400, i_999, i_1000, i_1200, i_5680, i_9999, i_10000, i_99999, j_0, j_1, j_2, j_3, j_4, j_5, j_6, j_9, j_10, j_11, j_98, j_99, j_100, j_999, j_1000, j_9999, j_10000, j_99999, j_1000000, h4, h5, hle]
  | succ d ih =>
    intro m i μ h1 h2 h3 h4 h5 h6
    obtain ⟨m, rfl⟩ : ∃ mm, m = mm + 1 := ⟨m - 1, by omega⟩
    have hle : ¬ n ≤ i := by omega
    have bi := hb i
    by_cases hp : cDi (T i) = true
    · have e : de T n i = de T n (i + 1) := sca_y (by omega) hp
      have := ih m (i + 1) (stI μ 1 6 (I_ (i + 1))) (by omega) (by omega) (by omega) (by simp (disch := omega) only [st_I, st_I2, st_L1, st_L2, st_R1, st_R2, Nat.reduceEqDiff, Nat.reduceAdd, and_true, true_and, and_false, false_and, and_self, if_false, if_true]; exact h4) at_S (h6.st (by omega))
      rw [e, ← st_st (μ := μ) (v := I_ (i + 1)), ← this]
      simp (disch := omega) only [fX5_step_151, Int.reduceEq, Int.reduceNe, Int.reduceLT, Int.reduceLE, Int.reduceAdd, Int.reduceSub, Int.reduceMul, Int.reduceNeg, Int.zero_add, Int.add_zero, nm_eq, bd_some, bv_some, aI_ok, aL_ok, aS_ok, dv_ok, dw_ok, I_add, I_sub, I_mul, I_neg, I_lt, I_le, I_eq, I_nat, J_add, J_sub, J_mul, J_neg, J_lt, J_le, J_eq, I_l, J_i, I_div, J_div, b2_0, b2_1, b2_nar, nar_0, nar_1, zr_0, zr_1, zr_b2, cmp_eq, cmp_le, cmp_lt, cmp_gt, cmp_ge, mx_I, mn_I, mx_L, mn_L, az_I, if_true, if_false, not_true_eq_false, not_false_eq_true, Bool.false_eq_true, i_0, i_1, i_2, i_3, i_4, i_5, i_6, i_7, i_8, i_9, i_10, i_11, i_12, i_16, i_18, i_20, i_24, i_28, i_29, i_30, i_31, i_32, i_33, i_34, i_35, i_37, i_40, i_41, i_42, i_43, i_45, i_46, i_47, i_48, i_57, i_59, i_63, i_64, i_96, i_97, i_98, i_99, i_100, i_101, i_102, i_103, i_104, i_105, i_106, i_107, i_108, i_109, i_110, i_111, i_112, i_113, i_122, i_200, i_255, i_256, i_257, i_258, i_355, i_400, i_999, i_1000, i_1200, i_5680, i_9999, i_10000, i_99999, j_0, j_1, j_2, j_3, j_4, j_5, j_6, j_9, j_10, j_11, j_98, j_99, j_100, j_999, j_1000, j_9999, j_10000, j_99999, j_1000000, h4, h5, hle, h6 i h2 (by omega), c_di, hp]
    · have e : de T n i = i := sca_n (by omega) hp
      rw [e, st_id h5]
      simp (disch := omega) only [fX5_step_151, Int.reduceEq, Int.reduceNe, Int.reduceLT, Int.reduceLE, Int.reduceAdd, Int.reduceSub, Int.reduceMul, Int.reduceNeg, Int.zero_add, Int.add_zero, nm_eq, bd_some, bv_some, aI_ok, aL_ok, aS_ok, dv_ok, dw_ok, I_add, I_sub, I_mul, I_neg, I_lt, I_le, I_eq, I_nat, J_add, J_sub, J_mul, J_neg, J_lt, J_le, J_eq, I_l, J_i, I_div, J_div, b2_0, b2_1, b2_nar, nar_0, nar_1, zr_0, zr_1, zr_b2, cmp_eq, cmp_le, cmp_lt, cmp_gt, cmp_ge, mx_I, mn_I, mx_L, mn_L, az_I, if_true, if_false, not_true_eq_false, not_false_eq_true, Bool.false_eq_true, i_0, i_1, i_2, i_3, i_4, i_5, i_6, i_7, i_8, i_9, i_10, i_11, i_12, i_16, i_18, i_20, i_24, i_28, i_29, i_30, i_31, i_32, i_33, i_34, i_35, i_37, i_40, i_41, i_42, i_43, i_45, i_46, i_47, i_48, i_57, i_59, i_63, i_64, i_96, i_97, i_98, i_99, i_100, i_101, i_102, i_103, i_104, i_105, i_106, i_107, i_108, i_109, i_110, i_111, i_112, i_113, i_122, i_200, i_255, i_256, i_257, i_258, i_355, i_400, i_999, i_1000, i_1200, i_5680, i_9999, i_10000, i_99999, j_0, j_1, j_2, j_3, j_4, j_5, j_6, j_9, j_10, j_11, j_98, j_99, j_100, j_999, j_1000, j_9999, j_10000, j_99999, j_1000000, h4, h5, hle, h6 i h2 (by omega), c_di, hp]
/-- the reader stands at s with the fault f -/
def CR (T : Int → Int) (n : Int) (b : Nat) (s f : Int) (μ : Mem) : Prop := μ.1 1 1 = I_ n ∧ μ.1 1 2 = I_ f ∧ μ.1 1 5 = I_ s ∧ μ.1 1 4 = I_ (kd T n s) ∧ μ.1 1 6 = I_ (te T n s) ∧ μ.2.2 1 3 = b ∧ TP T n 7 μ ∧ (0 ≤ s ∧ s ≤ n ∧ sk T n s = s) ∧ (-1 ≤ f ∧ f ≤ 400)
def P_1 (k _ : Nat) : Prop := k = 1
theorem P1s {μ μ1 : Mem} {j : Nat} {v : Int32} (h : Fr P_1 μ μ1) : Fr P_1 μ (stI μ1 1 j v) := h.stI rfl
theorem CR.F {b : Nat} {s f : Int} {P : Nat → Nat → Prop} {μ' : Mem} (h : CR T n b s f μ) (g : Fr P μ μ') (hp : ∀ k j, P k j → k ≠ 1 ∧ k ≠ 7) : CR T n b s f μ' := by
  have g1 : ∀ j, μ'.1 1 j = μ.1 1 j := fun j => (g 1 j (fun q => (hp 1 j q).1 rfl)).1
  obtain ⟨h1, h2, h3, h4, h5, h6, h7, h8⟩ := h
  refine ⟨?_, ?_, ?_, ?_, ?_, ?_, fun j a c => ?_, h8⟩
  · rw [g1]; exact h1
  · rw [g1]; exact h2
  · rw [g1]; exact h3
  · rw [g1]; exact h4
  · rw [g1]; exact h5
  · rw [(g 1 3 (fun q => (hp 1 3 q).1 rfl)).2.2]; exact h6
  · rw [(g 7 j.toNat (fun q => (hp 7 _ q).2 rfl)).1]; exact h7 j a c
/-- a step from where at stands -/
theorem c_stepAt (hT : tB T n) (hN : 500 ≤ N) {b : Nat} {i f : Int} (i0 : 0 ≤ i) (i1 : i ≤ n) (h1 : μ.1 1 1 = I_ n) (h2 : μ.1 1 2 = I_ f) (h3 : μ.1 1 6 = I_ i) (h4 : μ.2.2 1 3 = b) (h5 : TP T n 7 μ) (f0 : -1 ≤ f) (f1 : f ≤ 400) : ∃ μ', fX5_step N μ = some ((), μ') ∧ CR T n b (sk T n i) f μ' ∧ Fr P_1 μ μ' := by
  have hT' := hT
  obtain ⟨n0, n1, hb⟩ := hT
  have hi := sk_in (T := T) i1
  have hid := sk_id (T := T) i1
  have e0 : fX5_step N μ = fX5_step_39 N (stI μ 1 6 (I_ (sk T n i))) := c_st0 hT' (fun _ => rfl) (n - i).toNat N i μ (by omega) i0 (by omega) h1 h3 h5
  rw [e0]
  revert hi hid
  generalize sk T n i = s
  intro hi hid
  by_cases hs : s < n
  · have bs := hb s
    have t1 : ∀ {c j : Nat} {v : Int32} {c' j' : Nat} {v' : Int32} {c'' j'' : Nat} {v'' : Int32}, 7 ≠ c → 7 ≠ c' → 7 ≠ c'' → TP T n 7 (stI (stI (stI μ c j v) c' j' v') c'' j'' v'') := fun a1 a2 a3 => ((h5.st a1).st a2).st a3
    have v0 : (stI μ 1 6 (I_ s)).1 7 s.toNat = I_ (T s) := h5.st (by omega) s (by omega) hs
    have v1 : (stI (stI μ 1 6 (I_ s)) 1 5 (I_ s)).1 7 s.toNat = I_ (T s) := (h5.st (by omega)).st (by omega) s (by omega) hs
    by_cases hl : cLe (T s) = true
    · have e1 : fX5_step_39 N (stI μ 1 6 (I_ s)) = fX5_step_90 N N (stI (stI (stI μ 1 6 (I_ s)) 1 5 (I_ s)) 1 4 (I_ 256)) := by
        simp (disch := omega) only [fX5_step_39, Int.reduceEq, Int.reduceNe, Int.reduceLT, Int.reduceLE, Int.reduceAdd, Int.reduceSub, Int.reduceMul, Int.reduceNeg, Int.zero_add, Int.add_zero, nm_eq, bd_some, bv_some, aI_ok, aL_ok, aS_ok, dv_ok, dw_ok, I_add, I_sub, I_mul, I_neg, I_lt, I_le, I_eq, I_nat, J_add, J_sub, J_mul, J_neg, J_lt, J_le, J_eq, I_l, J_i, I_div, J_div, b2_0, b2_1, b2_nar, nar_0, nar_1, zr_0, zr_1, zr_b2, cmp_eq, cmp_le, cmp_lt, cmp_gt, cmp_ge, mx_I, mn_I, mx_L, mn_L, az_I, if_true, if_false, not_true_eq_false, not_false_eq_true, Bool.false_eq_true, i_0, i_1, i_2, i_3, i_4, i_5, i_6, i_7, i_8, i_9, i_10, i_11, i_12, i_16, i_18, i_20, i_24, i_28, i_29, i_30, i_31, i_32, i_33, i_34, i_35, i_37, i_40, i_41, i_42, i_43, i_45, i_46, i_47, i_48, i_57, i_59, i_63, i_64, i_96, i_97, i_98, i_99, i_100, i_101, i_102, i_103, i_104, i_105, i_106, i_107, i_108, i_109, i_110, i_111, i_112, i_113, i_122, i_200, i_255, i_256, i_257, i_258, i_355, i_400, i_999, i_1000, i_1200, i_5680, i_9999, i_10000, i_99999, j_0, j_1, j_2, j_3, j_4, j_5, j_6, j_9, j_10, j_11, j_98, j_99, j_100, j_999, j_1000, j_9999, j_10000, j_99999, j_1000000, st_I, st_I2, st_L1, st_L2, st_R1, st_R2, Nat.reduceEqDiff, Nat.reduceAdd, and_true, true_and, and_false, false_and, and_self, if_false, if_true, h1, hs, h5 s (by omega) hs, c_le, hl]
      have e2 := c_st90 (N := N) hT' (n - s).toNat N s (stI (stI (stI μ 1 6 (I_ s)) 1 5 (I_ s)) 1 4 (I_ 256)) (by omega) (by omega) (by omega) (by simp (disch := omega) only [st_I, st_I2, st_L1, st_L2, st_R1, st_R2, Nat.reduceEqDiff, Nat.reduceAdd, and_true, true_and, and_false, false_and, and_self, if_false, if_true]; exact h1) (by simp (disch := omega) only [st_I, st_I2, st_L1, st_L2, st_R1, st_R2, Nat.reduceEqDiff, Nat.reduceAdd, and_true, true_and, and_false, false_and, and_self, if_false, if_true]) (t1 (by omega) (by omega) (by omega))
      have k1 : kd T n s = 256 := by unfold kd; rw [if_pos hs, if_pos hl]
      have k2 : te T n s = we T n s := by unfold te; rw [if_pos hs, if_pos hl]
      refine ⟨_, e1.trans e2, ⟨?_, ?_, ?_, ?_, ?_, h4, (t1 (by omega) (by omega) (by omega)).st (by omega), ⟨by omega, by omega, hid⟩, f0, f1⟩, P1s (P1s (P1s (P1s Fr.rf)))⟩
      · simp (disch := omega) only [st_I, st_I2, st_L1, st_L2, st_R1, st_R2, Nat.reduceEqDiff, Nat.reduceAdd, and_true, true_and, and_false, false_and, and_self, if_false, if_true]; exact h1
      · simp (disch := omega) only [st_I, st_I2, st_L1, st_L2, st_R1, st_R2, Nat.reduceEqDiff, Nat.reduceAdd, and_true, true_and, and_false, false_and, and_self, if_false, if_true]; exact h2
      · simp (disch := omega) only [st_I, st_I2, st_L1, st_L2, st_R1, st_R2, Nat.reduceEqDiff, Nat.reduceAdd, and_true, true_and, and_false, false_and, and_self, if_false, if_true]
      · simp (disch := omega) only [st_I, st_I2, st_L1, st_L2, st_R1, st_R2, Nat.reduceEqDiff, Nat.reduceAdd, and_true, true_and, and_false, false_and, and_self, if_false, if_true, k1]
      · simp (disch := omega) only [st_I, st_I2, st_L1, st_L2, st_R1, st_R2, Nat.reduceEqDiff, Nat.reduceAdd, and_true, true_and, and_false, false_and, and_self, if_false, if_true, k2]
    · by_cases hd : cDi (T s) = true
      · have e1 : fX5_step_39 N (stI μ 1 6 (I_ s)) = fX5_step_151 N N (stI (stI (stI μ 1 6 (I_ s)) 1 5 (I_ s)) 1 4 (I_ 257)) := by
          simp (disch := omega) only [fX5_step_39, Int.reduceEq, Int.reduceNe, Int.reduceLT, Int.reduceLE, Int.reduceAdd, Int.reduceSub, Int.reduceMul, Int.reduceNeg, Int.zero_add, Int.add_zero, nm_eq, bd_some, bv_some, aI_ok, aL_ok, aS_ok, dv_ok, dw_ok, I_add, I_sub, I_mul, I_neg, I_lt, I_le, I_eq, I_nat, J_add, J_sub, J_mul, J_neg, J_lt, J_le, J_eq, I_l, J_i, I_div, J_div, b2_0, b2_1, b2_nar, nar_0, nar_1, zr_0, zr_1, zr_b2, cmp_eq, cmp_le, cmp_lt, cmp_gt, cmp_ge, mx_I, mn_I, mx_L, mn_L, az_I, if_true, if_false, not_true_eq_false, not_false_eq_true, Bool.false_eq_true, i_0, i_1, i_2, i_3, i_4, i_5, i_6, i_7, i_8, i_9, i_10, i_11, i_12, i_16, i_18, i_20, i_24, i_28, i_29, i_30, i_31, i_32, i_33, i_34, i_35, i_37, i_40, i_41, i_42, i_43, i_45, i_46, i_47, i_48, i_57, i_59, i_63, i_64, i_96, i_97, i_98, i_99, i_100, i_101, i_102, i_103, i_104, i_105, i_106, i_107, i_108, i_109, i_110, i_111, i_112, i_113, i_122, i_200, i_255, i_256, i_257, i_258, i_355, i_400, i_999, i_1000, i_1200, i_5680, i_9999, i_10000, i_99999, j_0, j_1, j_2, j_3, j_4, j_5, j_6, j_9, j_10, j_11, j_98, j_99, j_100, j_999, j_1000, j_9999, j_10000, j_99999, j_1000000, st_I, st_I2, st_L1, st_L2, st_R1, st_R2, Nat.reduceEqDiff, Nat.reduceAdd, and_true, true_and, and_false, false_and, and_self, if_false, if_true, h1, hs, h5 s (by omega) hs, c_le, hl, c_di, hd]
        have e2 := c_st151 (N := N) hT' (n - s).toNat N s (stI (stI (stI μ 1 6 (I_ s)) 1 5 (I_ s)) 1 4 (I_ 257)) (by omega) (by omega) (by omega) (by simp (disch := omega) only [st_I, st_I2, st_L1, st_L2, st_R1, st_R2, Nat.reduceEqDiff, Nat.reduceAdd, and_true, true_and, and_false, false_and, and_self, if_false, if_true]; exact h1) (by simp (disch := omega) only [st_I, st_I2, st_L1, st_L2, st_R1, st_R2, Nat.reduceEqDiff, Nat.reduceAdd, and_true, true_and, and_false, false_and, and_self, if_false, if_true]) (t1 (by omega) (by omega) (by omega))
        have k1 : kd T n s = 257 := by unfold kd; rw [if_pos hs, if_neg hl, if_pos hd]
        have k2 : te T n s = de T n s := by unfold te; rw [if_pos hs, if_neg hl, if_pos hd]
        refine ⟨_, e1.trans e2, ⟨?_, ?_, ?_, ?_, ?_, h4, (t1 (by omega) (by omega) (by omega)).st (by omega), ⟨by omega, by omega, hid⟩, f0, f1⟩, P1s (P1s (P1s (P1s Fr.rf)))⟩
        · simp (disch := omega) only [st_I, st_I2, st_L1, st_L2, st_R1, st_R2, Nat.reduceEqDiff, Nat.reduceAdd, and_true, true_and, and_false, false_and, and_self, if_false, if_true]; exact h1
        · simp (disch := omega) only [st_I, st_I2, st_L1, st_L2, st_R1, st_R2, Nat.reduceEqDiff, Nat.reduceAdd, and_true, true_and, and_false, false_and, and_self, if_false, if_true]; exact h2
        · simp (disch := omega) only [st_I, st_I2, st_L1, st_L2, st_R1, st_R2, Nat.reduceEqDiff, Nat.reduceAdd, and_true, true_and, and_false, false_and, and_self, if_false, if_true]
        · simp (disch := omega) only [st_I, st_I2, st_L1, st_L2, st_R1, st_R2, Nat.reduceEqDiff, Nat.reduceAdd, and_true, true_and, and_false, false_and, and_self, if_false, if_true, k1]
        · simp (disch := omega) only [st_I, st_I2, st_L1, st_L2, st_R1, st_R2, Nat.reduceEqDiff, Nat.reduceAdd, and_true, true_and, and_false, false_and, and_self, if_false, if_true, k2]
      · have e1 : fX5_step_39 N (stI μ 1 6 (I_ s)) = some ((), stI (stI (stI (stI μ 1 6 (I_ s)) 1 5 (I_ s)) 1 4 (I_ (T s))) 1 6 (I_ (s + 1))) := by
          simp (disch := omega) only [fX5_step_39, Int.reduceEq, Int.reduceNe, Int.reduceLT, Int.reduceLE, Int.reduceAdd, Int.reduceSub, Int.reduceMul, Int.reduceNeg, Int.zero_add, Int.add_zero, nm_eq, bd_some, bv_some, aI_ok, aL_ok, aS_ok, dv_ok, dw_ok, I_add, I_sub, I_mul, I_neg, I_lt, I_le, I_eq, I_nat, J_add, J_sub, J_mul, J_neg, J_lt, J_le, J_eq, I_l, J_i, I_div, J_div, b2_0, b2_1, b2_nar, nar_0, nar_1, zr_0, zr_1, zr_b2, cmp_eq, cmp_le, cmp_lt, cmp_gt, cmp_ge, mx_I, mn_I, mx_L, mn_L, az_I, if_true, if_false, not_true_eq_false, not_false_eq_true, Bool.false_eq_true, i_0, i_1, i_2, i_3, i_4, i_5, i_6, i_7, i_8, i_9, i_10, i_11, i_12, i_16, i_18, i_20, i_24, i_28, i_29, i_30, i_31, i_32, i_33, i_34, i_35, i_37, i_40, i_41, i_42, i_43, i_45, i_46, i_47, i_48, i_57, i_59, i_63, i_64, i_96, i_97, i_98, i_99, i_100, i_101, i_102, i_103, i_104, i_105, i_106, i_107, i_108, i_109, i_110, i_111, i_112, i_113, i_122, i_200, i_255, i_256, i_257, i_258, i_355, i_400, i_999, i_1000, i_1200, i_5680, i_9999, i_10000, i_99999, j_0, j_1, j_2, j_3, j_4, j_5, j_6, j_9, j_10, j_11, j_98, j_99, j_100, j_999, j_1000, j_9999, j_10000, j_99999, j_1000000, st_I, st_I2, st_L1, st_L2, st_R1, st_R2, Nat.reduceEqDiff, Nat.reduceAdd, and_true, true_and, and_false, false_and, and_self, if_false, if_true, h1, hs, h5 s (by omega) hs, c_le, hl, c_di, hd]
        have k1 : kd T n s = T s := by unfold kd; rw [if_pos hs, if_neg hl, if_neg hd]
        have k2 : te T n s = s + 1 := by unfold te; rw [if_pos hs, if_neg hl, if_neg hd]
        refine ⟨_, e1, ⟨?_, ?_, ?_, ?_, ?_, h4, (t1 (by omega) (by omega) (by omega)).st (by omega), ⟨by omega, by omega, hid⟩, f0, f1⟩, P1s (P1s (P1s (P1s Fr.rf)))⟩
        · simp (disch := omega) only [st_I, st_I2, st_L1, st_L2, st_R1, st_R2, Nat.reduceEqDiff, Nat.reduceAdd, and_true, true_and, and_false, false_and, and_self, if_false, if_true]; exact h1
        · simp (disch := omega) only [st_I, st_I2, st_L1, st_L2, st_R1, st_R2, Nat.reduceEqDiff, Nat.reduceAdd, and_true, true_and, and_false, false_and, and_self, if_false, if_true]; exact h2
        · simp (disch := omega) only [st_I, st_I2, st_L1, st_L2, st_R1, st_R2, Nat.reduceEqDiff, Nat.reduceAdd, and_true, true_and, and_false, false_and, and_self, if_false, if_true]
        · simp (disch := omega) only [st_I, st_I2, st_L1, st_L2, st_R1, st_R2, Nat.reduceEqDiff, Nat.reduceAdd, and_true, true_and, and_false, false_and, and_self, if_false, if_true, k1]
        · simp (disch := omega) only [st_I, st_I2, st_L1, st_L2, st_R1, st_R2, Nat.reduceEqDiff, Nat.reduceAdd, and_true, true_and, and_false, false_and, and_self, if_false, if_true, k2]
  · have e1 : fX5_step_39 N (stI μ 1 6 (I_ s)) = some ((), stI (stI (stI μ 1 6 (I_ s)) 1 5 (I_ s)) 1 4 (I_ 258)) := by
      simp (disch := omega) only [fX5_step_39, Int.reduceEq, Int.reduceNe, Int.reduceLT, Int.reduceLE, Int.reduceAdd, Int.reduceSub, Int.reduceMul, Int.reduceNeg, Int.zero_add, Int.add_zero, nm_eq, bd_some, bv_some, aI_ok, aL_ok, aS_ok, dv_ok, dw_ok, I_add, I_sub, I_mul, I_neg, I_lt, I_le, I_eq, I_nat, J_add, J_sub, J_mul, J_neg, J_lt, J_le, J_eq, I_l, J_i, I_div, J_div, b2_0, b2_1, b2_nar, nar_0, nar_1, zr_0, zr_1, zr_b2, cmp_eq, cmp_le, cmp_lt, cmp_gt, cmp_ge, mx_I, mn_I, mx_L, mn_L, az_I, if_true, if_false, not_true_eq_false, not_false_eq_true, Bool.false_eq_true, i_0, i_1, i_2, i_3, i_4, i_5, i_6, i_7, i_8, i_9, i_10, i_11, i_12, i_16, i_18, i_20, i_24, i_28, i_29, i_30, i_31, i_32, i_33, i_34, i_35, i_37, i_40, i_41, i_42, i_43, i_45, i_46, i_47, i_48, i_57, i_59, i_63, i_64, i_96, i_97, i_98, i_99, i_100, i_101, i_102, i_103, i_104, i_105, i_106, i_107, i_108, i_109, i_110, i_111, i_112, i_113, i_122, i_200, i_255, i_256, i_257, i_258, i_355, i_400, i_999, i_1000, i_1200, i_5680, i_9999, i_10000, i_99999, j_0, j_1, j_2, j_3, j_4, j_5, j_6, j_9, j_10, j_11, j_98, j_99, j_100, j_999, j_1000, j_9999, j_10000, j_99999, j_1000000, st_I, st_I2, st_L1, st_L2, st_R1, st_R2, Nat.reduceEqDiff, Nat.reduceAdd, and_true, true_and, and_false, false_and, and_self, if_false, if_true, h1, hs]
    have k1 : kd T n s = 258 := by unfold kd; rw [if_neg hs]
    have k2 : te T n s = s := by unfold te; rw [if_neg hs]
    refine ⟨_, e1, ⟨?_, ?_, ?_, ?_, ?_, h4, ((h5.st (by omega)).st (by omega)).st (by omega), ⟨by omega, by omega, hid⟩, f0, f1⟩, P1s (P1s (P1s Fr.rf))⟩
    · simp (disch := omega) only [st_I, st_I2, st_L1, st_L2, st_R1, st_R2, Nat.reduceEqDiff, Nat.reduceAdd, and_true, true_and, and_false, false_and, and_self, if_false, if_true]; exact h1
    · simp (disch := omega) only [st_I, st_I2, st_L1, st_L2, st_R1, st_R2, Nat.reduceEqDiff, Nat.reduceAdd, and_true, true_and, and_false, false_and, and_self, if_false, if_true]; exact h2
    · simp (disch := omega) only [st_I, st_I2, st_L1, st_L2, st_R1, st_R2, Nat.reduceEqDiff, Nat.reduceAdd, and_true, true_and, and_false, false_and, and_self, if_false, if_true]
    · simp (disch := omega) only [st_I, st_I2, st_L1, st_L2, st_R1, st_R2, Nat.reduceEqDiff, Nat.reduceAdd, and_true, true_and, and_false, false_and, and_self, if_false, if_true, k1]
    · simp (disch := omega) only [st_I, st_I2, st_L1, st_L2, st_R1, st_R2, Nat.reduceEqDiff, Nat.reduceAdd, and_true, true_and, and_false, false_and, and_self, if_false, if_true, k2]
theorem c_step (hT : tB T n) (hN : 500 ≤ N) {b : Nat} {s f : Int} (h : CR T n b s f μ) : ∃ μ', fX5_step N μ = some ((), μ') ∧ CR T n b (nx T n s) f μ' ∧ Fr P_1 μ μ' := by
  obtain ⟨h1, h2, h3, h4, h5, h6, h7, h8, h9⟩ := h
  have ht := te_in (T := T) (n := n) (s := s) (by omega)
  exact c_stepAt hT hN (by omega) (by omega) h1 h2 h5 h6 h7 h9.1 h9.2
end
