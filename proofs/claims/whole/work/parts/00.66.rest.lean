/-! OTHERS, PICKED, DEPOSITS, places. -/
abbrev p_or (V : Vw) (f : Int) : Prop := s_si V f = 0 ∧ 0 < x_ra V f
def g_or (V : Vw) (f : Int) : Int := if p_or V f then x_ra V f * x_val V f else 0
def g_ov (V : Vw) (f : Int) : Int := if p_or V f then x_val V f else 0
def x_or (V : Vw) : Int := sg (fN V).toNat 0 (g_or V)
def x_ov (V : Vw) : Int := sg (fN V).toNat 0 (g_ov V)
def x_ot (V : Vw) : Int := if x_ov V = 0 then 0 else x_or V / x_ov V
def g_pm (V : Vw) (f m z : Int) : Int := if p_ex V f z ∧ s_mo V z = m then s_mn V z else 0
def g_pv (V : Vw) (f m z : Int) : Int := if p_ex V f z ∧ s_mo V z = m then 1000 * s_nt V z * s_mn V z else 0
def x_pm (V : Vw) (f m : Int) : Int := sg (zN V) 0 (g_pm V f m)
def x_pv (V : Vw) (f m : Int) : Int := sg (zN V) 0 (g_pv V f m)
abbrev p_pk (V : Vw) (f m : Int) : Prop := 0 < x_pm V f m ∧ 0 < x_mn V f 1 - x_pm V f m ∧ 100 * (x_pv V f m / x_pm V f m) < 98 * ((x_val V f - x_pv V f m) / (x_mn V f 1 - x_pm V f m))
def pkf (V : Vw) (f : Int) : Nat → Int → Int32 → Int32
  | 0, _, a => a
  | d + 1, m, a => pkf V f d (m + 1) (if p_pk V f m then a ||| ((1 : Int32) <<< (I_ m &&& 31)) else a)
def x_pk (V : Vw) (f : Int) : Int32 := pkf V f 12 0 (I_ 0)
def x_dp (V : Vw) (z : Int) : Int := x_ra V (s_fm V z) * s_nt V z * s_mn V z / 10
def g_dp (V : Vw) (f z : Int) : Int := if p_ex V f z then x_dp V z else 0
def x_ds (V : Vw) (f : Int) : Int := sg (zN V) 0 (g_dp V f)
def g_pl (V : Vw) (f o : Int) : Int := if x_du V f < x_du V o ∨ (x_du V o = x_du V f ∧ o < f) then 1 else 0
def x_pl (V : Vw) (f : Int) : Int := sg (fN V).toNat 0 (g_pl V f)
section
variable {N : Nat} {b s : Nat} {V : Vw} {f t : Int}
theorem x_val_mx (hV : vB V) (f : Int) : 0 ≤ x_val V f ∧ x_val V f ≤ 4000000000000 := by
  have := x_val_in hV f
  have := x_mn_in hV f 1
  omega
theorem g_or_in (hV : vB V) (f : Int) : 0 ≤ g_or V f ∧ g_or V f ≤ 399996000000000000 := by
  have a := x_val_mx hV f
  have c := x_ra_in (V := V) (f := f)
  have := mul_in (a := x_ra V f) (A := 99999) (b := x_val V f) (B := 4000000000000) c.1 c.2 a.1 a.2
  unfold g_or
  split <;> omega
theorem g_ov_in (hV : vB V) (f : Int) : 0 ≤ g_ov V f ∧ g_ov V f ≤ 4000000000000 := by
  have a := x_val_mx hV f
  unfold g_ov
  split <;> omega
theorem x_or_in (hV : vB V) : 0 ≤ x_or V ∧ x_or V ≤ 2000000000000000000 := by
  have hn := hV.1
  unfold vN at hn
  have := sg_nn (g := g_or V) (d := (fN V).toNat) (i := 0) (fun z _ _ => g_or_in hV z)
  unfold x_or
  omega
theorem x_ov_in (hV : vB V) : 0 ≤ x_ov V ∧ x_ov V ≤ 16000000000000 := by
  have hn := hV.1
  unfold vN at hn
  have := sg_nn (g := g_ov V) (d := (fN V).toNat) (i := 0) (fun z _ _ => g_ov_in hV z)
  unfold x_ov
  omega
theorem c_ot_l (hV : vB V) (hN : 100 ≤ N) {μ : Mem} (hB : CB b V μ) (hD : DU V μ) : ∀ (d n : Nat) (i : Int), d < n → 0 ≤ i → i + d = fN V → fX3_rateOfOthers_8 N n b (J_ (sg i.toNat 0 (g_or V))) (J_ (sg i.toNat 0 (g_ov V))) (I_ i) μ = some (I_ (x_ot V), μ) := by
  have hn := hV.1
  unfold vN at hn
  intro d
  induction d with
  | zero =>
    intro n i h1 h2 h3
    obtain ⟨n, rfl⟩ : ∃ m, n = m + 1 := ⟨n - 1, by omega⟩
    have hle : fN V ≤ i := by omega
    have hi : i = fN V := by omega
    subst hi
    have e1 : sg (fN V).toNat 0 (g_or V) = x_or V := rfl
    have e2 : sg (fN V).toNat 0 (g_ov V) = x_ov V := rfl
    have a := x_or_in hV
    have c := x_ov_in hV
    unfold x_ot
    by_cases hz : x_ov V = 0
    · rw [if_pos hz]
      simp (disch := omega) only [fX3_rateOfOthers_8, fX3_rateOfOthers_78, Int.reduceEq, Int.reduceNe, Int.reduceLT, Int.reduceLE, Int.reduceAdd, Int.reduceSub, Int.reduceMul, Int.reduceNeg, Int.zero_add, Int.add_zero, nm_eq, bd_some, bv_some, aI_ok, aL_ok, aS_ok, dv_ok, dw_ok, I_add, I_sub, I_mul, I_neg, I_lt, I_le, I_eq, I_nat, J_add, J_sub, J_mul, J_neg, J_lt, J_le, J_eq, I_l, J_i, I_div, J_div, b2_0, b2_1, b2_nar, nar_0, nar_1, zr_0, zr_1, zr_b2, cmp_eq, cmp_le, cmp_lt, cmp_gt, cmp_ge, mx_I, mn_I, mx_L, mn_L, az_I, if_true, if_false, not_true_eq_false, not_false_eq_true, i_0, i_1, i_2, i_3, i_4, i_5, i_6, i_7, i_8, i_9, i_10, i_11, i_12, i_16, i_18, i_20, i_24, i_28, i_29, i_30, i_31, i_32, i_33, i_34, i_35, i_37, i_40, i_41, i_42, i_43, i_45, i_46, i_47, i_48, i_57, i_59, i_63, i_64, i_96, i_97, i_98, i_99, i_100, i_101, i_102, i_103, i_104, i_105, i_106, i_107, i_108, i_109, i_110, i_111, i_112, i_113, i_122, i_200, i_255, i_256, i_257, i_258, i_355, i_400, i_999, i_1000, i_1200, i_5680, i_9999, i_10000, i_99999, j_0, j_1, j_2, j_3, j_4, j_5, j_6, j_9, j_10, j_11, j_98, j_99, j_100, j_999, j_1000, j_9999, j_10000, j_99999, j_1000000, CB_f hB, hle, e1, e2, hz]
    · rw [if_neg hz]
      simp (disch := omega) only [fX3_rateOfOthers_8, fX3_rateOfOthers_78, Int.reduceEq, Int.reduceNe, Int.reduceLT, Int.reduceLE, Int.reduceAdd, Int.reduceSub, Int.reduceMul, Int.reduceNeg, Int.zero_add, Int.add_zero, nm_eq, bd_some, bv_some, aI_ok, aL_ok, aS_ok, dv_ok, dw_ok, I_add, I_sub, I_mul, I_neg, I_lt, I_le, I_eq, I_nat, J_add, J_sub, J_mul, J_neg, J_lt, J_le, J_eq, I_l, J_i, I_div, J_div, b2_0, b2_1, b2_nar, nar_0, nar_1, zr_0, zr_1, zr_b2, cmp_eq, cmp_le, cmp_lt, cmp_gt, cmp_ge, mx_I, mn_I, mx_L, mn_L, az_I, if_true, if_false, not_true_eq_false, not_false_eq_true, i_0, i_1, i_2, i_3, i_4, i_5, i_6, i_7, i_8, i_9, i_10, i_11, i_12, i_16, i_18, i_20, i_24, i_28, i_29, i_30, i_31, i_32, i_33, i_34, i_35, i_37, i_40, i_41, i_42, i_43, i_45, i_46, i_47, i_48, i_57, i_59, i_63, i_64, i_96, i_97, i_98, i_99, i_100, i_101, i_102, i_103, i_104, i_105, i_106, i_107, i_108, i_109, i_110, i_111, i_112, i_113, i_122, i_200, i_255, i_256, i_257, i_258, i_355, i_400, i_999, i_1000, i_1200, i_5680, i_9999, i_10000, i_99999, j_0, j_1, j_2, j_3, j_4, j_5, j_6, j_9, j_10, j_11, j_98, j_99, j_100, j_999, j_1000, j_9999, j_10000, j_99999, j_1000000, CB_f hB, hle, e1, e2, hz]
  | succ d ih =>
    intro n i h1 h2 h3
    obtain ⟨n, rfl⟩ : ∃ m, n = m + 1 := ⟨n - 1, by omega⟩
    have hle : ¬ fN V ≤ i := by omega
    have hsi := hV.2.2.2.2 i h2 (by omega)
    have hi2 := ih n (i + 1) (by omega) (by omega) (by omega)
    rw [sg_step h2, sg_step h2] at hi2
    have r24 := (hD.2 i h2 (by omega)).2.1
    have hr := x_ra_in (V := V) (f := i)
    by_cases hs : s_si V i = 0
    · by_cases hz : x_ra V i ≤ 0
      · have z1 : g_or V i = 0 := by unfold g_or; rw [if_neg (fun q => by have := q.2; omega)]
        have z2 : g_ov V i = 0 := by unfold g_ov; rw [if_neg (fun q => by have := q.2; omega)]
        rw [z1, z2, Int.add_zero, Int.add_zero] at hi2
        simp (disch := omega) only [fX3_rateOfOthers_8, Int.reduceEq, Int.reduceNe, Int.reduceLT, Int.reduceLE, Int.reduceAdd, Int.reduceSub, Int.reduceMul, Int.reduceNeg, Int.zero_add, Int.add_zero, nm_eq, bd_some, bv_some, aI_ok, aL_ok, aS_ok, dv_ok, dw_ok, I_add, I_sub, I_mul, I_neg, I_lt, I_le, I_eq, I_nat, J_add, J_sub, J_mul, J_neg, J_lt, J_le, J_eq, I_l, J_i, I_div, J_div, b2_0, b2_1, b2_nar, nar_0, nar_1, zr_0, zr_1, zr_b2, cmp_eq, cmp_le, cmp_lt, cmp_gt, cmp_ge, mx_I, mn_I, mx_L, mn_L, az_I, if_true, if_false, not_true_eq_false, not_false_eq_true, i_0, i_1, i_2, i_3, i_4, i_5, i_6, i_7, i_8, i_9, i_10, i_11, i_12, i_16, i_18, i_20, i_24, i_28, i_29, i_30, i_31, i_32, i_33, i_34, i_35, i_37, i_40, i_41, i_42, i_43, i_45, i_46, i_47, i_48, i_57, i_59, i_63, i_64, i_96, i_97, i_98, i_99, i_100, i_101, i_102, i_103, i_104, i_105, i_106, i_107, i_108, i_109, i_110, i_111, i_112, i_113, i_122, i_200, i_255, i_256, i_257, i_258, i_355, i_400, i_999, i_1000, i_1200, i_5680, i_9999, i_10000, i_99999, j_0, j_1, j_2, j_3, j_4, j_5, j_6, j_9, j_10, j_11, j_98, j_99, j_100, j_999, j_1000, j_9999, j_10000, j_99999, j_1000000, CB_f hB, hle, CB_si hB, hs, r24, hz, hi2]
      · have z1 : g_or V i = x_ra V i * x_val V i := by unfold g_or; rw [if_pos ⟨hs, by omega⟩]
        have z2 : g_ov V i = x_val V i := by unfold g_ov; rw [if_pos ⟨hs, by omega⟩]
        rw [z1, z2] at hi2
        simp (disch := omega) only [fX3_rateOfOthers_8, Int.reduceEq, Int.reduceNe, Int.reduceLT, Int.reduceLE, Int.reduceAdd, Int.reduceSub, Int.reduceMul, Int.reduceNeg, Int.zero_add, Int.add_zero, nm_eq, bd_some, bv_some, aI_ok, aL_ok, aS_ok, dv_ok, dw_ok, I_add, I_sub, I_mul, I_neg, I_lt, I_le, I_eq, I_nat, J_add, J_sub, J_mul, J_neg, J_lt, J_le, J_eq, I_l, J_i, I_div, J_div, b2_0, b2_1, b2_nar, nar_0, nar_1, zr_0, zr_1, zr_b2, cmp_eq, cmp_le, cmp_lt, cmp_gt, cmp_ge, mx_I, mn_I, mx_L, mn_L, az_I, if_true, if_false, not_true_eq_false, not_false_eq_true, i_0, i_1, i_2, i_3, i_4, i_5, i_6, i_7, i_8, i_9, i_10, i_11, i_12, i_16, i_18, i_20, i_24, i_28, i_29, i_30, i_31, i_32, i_33, i_34, i_35, i_37, i_40, i_41, i_42, i_43, i_45, i_46, i_47, i_48, i_57, i_59, i_63, i_64, i_96, i_97, i_98, i_99, i_100, i_101, i_102, i_103, i_104, i_105, i_106, i_107, i_108, i_109, i_110, i_111, i_112, i_113, i_122, i_200, i_255, i_256, i_257, i_258, i_355, i_400, i_999, i_1000, i_1200, i_5680, i_9999, i_10000, i_99999, j_0, j_1, j_2, j_3, j_4, j_5, j_6, j_9, j_10, j_11, j_98, j_99, j_100, j_999, j_1000, j_9999, j_10000, j_99999, j_1000000, CB_f hB, hle, CB_si hB, hs, r24, hz, c_exVal hV hB.2.1 hN, hi2]
    · have z1 : g_or V i = 0 := by unfold g_or; rw [if_neg (fun q => hs q.1)]
      have z2 : g_ov V i = 0 := by unfold g_ov; rw [if_neg (fun q => hs q.1)]
      rw [z1, z2, Int.add_zero, Int.add_zero] at hi2
      simp (disch := omega) only [fX3_rateOfOthers_8, Int.reduceEq, Int.reduceNe, Int.reduceLT, Int.reduceLE, Int.reduceAdd, Int.reduceSub, Int.reduceMul, Int.reduceNeg, Int.zero_add, Int.add_zero, nm_eq, bd_some, bv_some, aI_ok, aL_ok, aS_ok, dv_ok, dw_ok, I_add, I_sub, I_mul, I_neg, I_lt, I_le, I_eq, I_nat, J_add, J_sub, J_mul, J_neg, J_lt, J_le, J_eq, I_l, J_i, I_div, J_div, b2_0, b2_1, b2_nar, nar_0, nar_1, zr_0, zr_1, zr_b2, cmp_eq, cmp_le, cmp_lt, cmp_gt, cmp_ge, mx_I, mn_I, mx_L, mn_L, az_I, if_true, if_false, not_true_eq_false, not_false_eq_true, i_0, i_1, i_2, i_3, i_4, i_5, i_6, i_7, i_8, i_9, i_10, i_11, i_12, i_16, i_18, i_20, i_24, i_28, i_29, i_30, i_31, i_32, i_33, i_34, i_35, i_37, i_40, i_41, i_42, i_43, i_45, i_46, i_47, i_48, i_57, i_59, i_63, i_64, i_96, i_97, i_98, i_99, i_100, i_101, i_102, i_103, i_104, i_105, i_106, i_107, i_108, i_109, i_110, i_111, i_112, i_113, i_122, i_200, i_255, i_256, i_257, i_258, i_355, i_400, i_999, i_1000, i_1200, i_5680, i_9999, i_10000, i_99999, j_0, j_1, j_2, j_3, j_4, j_5, j_6, j_9, j_10, j_11, j_98, j_99, j_100, j_999, j_1000, j_9999, j_10000, j_99999, j_1000000, CB_f hB, hle, CB_si hB, hs, hi2]
theorem c_ot (hV : vB V) (hN : 100 ≤ N) {μ : Mem} (hB : CB b V μ) (hD : DU V μ) : fX3_rateOfOthers N b μ = some (I_ (x_ot V), μ) := by
  have hn := hV.1
  unfold vN at hn
  have e : fX3_rateOfOthers_8 N N b (J_ 0) (J_ 0) (I_ 0) μ = some (I_ (x_ot V), μ) := c_ot_l (N := N) hV hN hB hD (fN V).toNat N 0 (by omega) (by omega) (by omega)
  unfold fX3_rateOfOthers
  rw [if_pos hB.1]
  simp (disch := omega) only [Int.reduceEq, Int.reduceNe, Int.reduceLT, Int.reduceLE, Int.reduceAdd, Int.reduceSub, Int.reduceMul, Int.reduceNeg, Int.zero_add, Int.add_zero, nm_eq, bd_some, bv_some, aI_ok, aL_ok, aS_ok, dv_ok, dw_ok, I_add, I_sub, I_mul, I_neg, I_lt, I_le, I_eq, I_nat, J_add, J_sub, J_mul, J_neg, J_lt, J_le, J_eq, I_l, J_i, I_div, J_div, b2_0, b2_1, b2_nar, nar_0, nar_1, zr_0, zr_1, zr_b2, cmp_eq, cmp_le, cmp_lt, cmp_gt, cmp_ge, mx_I, mn_I, mx_L, mn_L, az_I, if_true, if_false, not_true_eq_false, not_false_eq_true, i_0, i_1, i_2, i_3, i_4, i_5, i_6, i_7, i_8, i_9, i_10, i_11, i_12, i_16, i_18, i_20, i_24, i_28, i_29, i_30, i_31, i_32, i_33, i_34, i_35, i_37, i_40, i_41, i_42, i_43, i_45, i_46, i_47, i_48, i_57, i_59, i_63, i_64, i_96, i_97, i_98, i_99, i_100, i_101, i_102, i_103, i_104, i_105, i_106, i_107, i_108, i_109, i_110, i_111, i_112, i_113, i_122, i_200, i_255, i_256, i_257, i_258, i_355, i_400, i_999, i_1000, i_1200, i_5680, i_9999, i_10000, i_99999, j_0, j_1, j_2, j_3, j_4, j_5, j_6, j_9, j_10, j_11, j_98, j_99, j_100, j_999, j_1000, j_9999, j_10000, j_99999, j_1000000, e]
theorem x_pm_in (hV : vB V) (f m : Int) : 0 ≤ x_pm V f m ∧ x_pm V f m ≤ 39960 := sg_small hV (zN_le hV) (fun z _ _ => by
  unfold g_pm; split
  · exact Or.inr rfl
  · exact Or.inl rfl)
theorem x_pv_in (hV : vB V) (f m : Int) : 0 ≤ x_pv V f m ∧ x_pv V f m ≤ 99999000 * x_pm V f m := sg_val hV (zN_le hV) (fun z _ _ => by
  unfold g_pv g_pm; split
  · exact Or.inr ⟨rfl, rfl⟩
  · exact Or.inl ⟨rfl, rfl⟩)
theorem x_pv_le (hV : vB V) (f m : Int) : x_pv V f m ≤ x_val V f := sg_le _ _ (fun z z0 z1 => by
  have hz := zN_le hV
  have := val_in hV (z := z) z0 (by omega)
  unfold g_pv g_val
  by_cases hp : p_ex V f z
  · rw [if_pos hp]
    split <;> omega
  · rw [if_neg hp, if_neg (fun q => hp q.1)]
    omega)
theorem c_pk132 (hV : vB V) {μ : Mem} (hM : ∀ m, 0 ≤ m → m < 12 → μ.1 29 m.toNat = I_ (x_pm V f m) ∧ μ.2.1 30 m.toNat = J_ (x_pv V f m)) : ∀ (d n : Nat) (m : Int) (a : Int32), d < n → 0 ≤ m → m + d = 12 → fX3_pickedMonths_132 N n (I_ (x_mn V f 1)) (J_ (x_val V f)) a (I_ m) μ = some (pkf V f d m a, μ) := by
  have hv := x_val_mx hV f
  have hx := x_mn_in hV f 1
  intro d
  induction d with
  | zero =>
    intro n m a h1 h2 h3
    obtain ⟨n, rfl⟩ : ∃ m, n = m + 1 := ⟨n - 1, by omega⟩
    have hle : 12 ≤ m := by omega
    simp (disch := omega) only [fX3_pickedMonths_132, Int.reduceEq, Int.reduceNe, Int.reduceLT, Int.reduceLE, Int.reduceAdd, Int.reduceSub, Int.reduceMul, Int.reduceNeg, Int.zero_add, Int.add_zero, nm_eq, bd_some, bv_some, aI_ok, aL_ok, aS_ok, dv_ok, dw_ok, I_add, I_sub, I_mul, I_neg, I_lt, I_le, I_eq, I_nat, J_add, J_sub, J_mul, J_neg, J_lt, J_le, J_eq, I_l, J_i, I_div, J_div, b2_0, b2_1, b2_nar, nar_0, nar_1, zr_0, zr_1, zr_b2, cmp_eq, cmp_le, cmp_lt, cmp_gt, cmp_ge, mx_I, mn_I, mx_L, mn_L, az_I, if_true, if_false, not_true_eq_false, not_false_eq_true, i_0, i_1, i_2, i_3, i_4, i_5, i_6, i_7, i_8, i_9, i_10, i_11, i_12, i_16, i_18, i_20, i_24, i_28, i_29, i_30, i_31, i_32, i_33, i_34, i_35, i_37, i_40, i_41, i_42, i_43, i_45, i_46, i_47, i_48, i_57, i_59, i_63, i_64, i_96, i_97, i_98, i_99, i_100, i_101, i_102, i_103, i_104, i_105, i_106, i_107, i_108, i_109, i_110, i_111, i_112, i_113, i_122, i_200, i_255, i_256, i_257, i_258, i_355, i_400, i_999, i_1000, i_1200, i_5680, i_9999, i_10000, i_99999, j_0, j_1, j_2, j_3, j_4, j_5, j_6, j_9, j_10, j_11, j_98, j_99, j_100, j_999, j_1000, j_9999, j_10000, j_99999, j_1000000, hle, pkf]
  | succ d ih =>
    intro n m a h1 h2 h3
    obtain ⟨n, rfl⟩ : ∃ m, n = m + 1 := ⟨n - 1, by omega⟩
    have hle : ¬ 12 ≤ m := by omega
    obtain ⟨r29, r30⟩ := hM m h2 (by omega)
    have a1 := x_pm_in hV f m
    have a2 := x_pv_in hV f m
    have a3 := x_pv_le hV f m
    by_cases hz : x_pm V f m ≤ 0
    · have hp : ¬ p_pk V f m := fun q => by have := q.1; omega
      simp (disch := omega) only [fX3_pickedMonths_132, Int.reduceEq, Int.reduceNe, Int.reduceLT, Int.reduceLE, Int.reduceAdd, Int.reduceSub, Int.reduceMul, Int.reduceNeg, Int.zero_add, Int.add_zero, nm_eq, bd_some, bv_some, aI_ok, aL_ok, aS_ok, dv_ok, dw_ok, I_add, I_sub, I_mul, I_neg, I_lt, I_le, I_eq, I_nat, J_add, J_sub, J_mul, J_neg, J_lt, J_le, J_eq, I_l, J_i, I_div, J_div, b2_0, b2_1, b2_nar, nar_0, nar_1, zr_0, zr_1, zr_b2, cmp_eq, cmp_le, cmp_lt, cmp_gt, cmp_ge, mx_I, mn_I, mx_L, mn_L, az_I, if_true, if_false, not_true_eq_false, not_false_eq_true, i_0, i_1, i_2, i_3, i_4, i_5, i_6, i_7, i_8, i_9, i_10, i_11, i_12, i_16, i_18, i_20, i_24, i_28, i_29, i_30, i_31, i_32, i_33, i_34, i_35, i_37, i_40, i_41, i_42, i_43, i_45, i_46, i_47, i_48, i_57, i_59, i_63, i_64, i_96, i_97, i_98, i_99, i_100, i_101, i_102, i_103, i_104, i_105, i_106, i_107, i_108, i_109, i_110, i_111, i_112, i_113, i_122, i_200, i_255, i_256, i_257, i_258, i_355, i_400, i_999, i_1000, i_1200, i_5680, i_9999, i_10000, i_99999, j_0, j_1, j_2, j_3, j_4, j_5, j_6, j_9, j_10, j_11, j_98, j_99, j_100, j_999, j_1000, j_9999, j_10000, j_99999, j_1000000, hle, r29, hz, ih, pkf, hp]
    · by_cases hy : x_mn V f 1 - x_pm V f m ≤ 0
      · have hp : ¬ p_pk V f m := fun q => by have := q.2.1; omega
        simp (disch := omega) only [fX3_pickedMonths_132, Int.reduceEq, Int.reduceNe, Int.reduceLT, Int.reduceLE, Int.reduceAdd, Int.reduceSub, Int.reduceMul, Int.reduceNeg, Int.zero_add, Int.add_zero, nm_eq, bd_some, bv_some, aI_ok, aL_ok, aS_ok, dv_ok, dw_ok, I_add, I_sub, I_mul, I_neg, I_lt, I_le, I_eq, I_nat, J_add, J_sub, J_mul, J_neg, J_lt, J_le, J_eq, I_l, J_i, I_div, J_div, b2_0, b2_1, b2_nar, nar_0, nar_1, zr_0, zr_1, zr_b2, cmp_eq, cmp_le, cmp_lt, cmp_gt, cmp_ge, mx_I, mn_I, mx_L, mn_L, az_I, if_true, if_false, not_true_eq_false, not_false_eq_true, i_0, i_1, i_2, i_3, i_4, i_5, i_6, i_7, i_8, i_9, i_10, i_11, i_12, i_16, i_18, i_20, i_24, i_28, i_29, i_30, i_31, i_32, i_33, i_34, i_35, i_37, i_40, i_41, i_42, i_43, i_45, i_46, i_47, i_48, i_57, i_59, i_63, i_64, i_96, i_97, i_98, i_99, i_100, i_101, i_102, i_103, i_104, i_105, i_106, i_107, i_108, i_109, i_110, i_111, i_112, i_113, i_122, i_200, i_255, i_256, i_257, i_258, i_355, i_400, i_999, i_1000, i_1200, i_5680, i_9999, i_10000, i_99999, j_0, j_1, j_2, j_3, j_4, j_5, j_6, j_9, j_10, j_11, j_98, j_99, j_100, j_999, j_1000, j_9999, j_10000, j_99999, j_1000000, hle, r29, hz, hy, ih, pkf, hp]
      · have d1 := dv_in a2.1 (show 0 < x_pm V f m by omega) a2.2
        have d2 := Int.ediv_nonneg (a := x_val V f - x_pv V f m) (b := x_mn V f 1 - x_pm V f m) (by omega) (by omega)
        have d3 := Int.ediv_le_self (a := x_val V f - x_pv V f m) (x_mn V f 1 - x_pm V f m) (by omega)
        by_cases hc : 100 * (x_pv V f m / x_pm V f m) < 98 * ((x_val V f - x_pv V f m) / (x_mn V f 1 - x_pm V f m))
        · have hp : p_pk V f m := ⟨by omega, by omega, hc⟩
          have hc' : ¬ 98 * ((x_val V f - x_pv V f m) / (x_mn V f 1 - x_pm V f m)) ≤ 100 * (x_pv V f m / x_pm V f m) := by omega
          have e : (if p_pk V f m then a ||| ((1 : Int32) <<< (I_ m &&& 31)) else a) = a ||| ((1 : Int32) <<< (I_ m &&& 31)) := if_pos hp
          unfold pkf
          rw [e, ← ih n (m + 1) _ (by omega) (by omega) (by omega)]
          simp (disch := omega) only [fX3_pickedMonths_132, Int.reduceEq, Int.reduceNe, Int.reduceLT, Int.reduceLE, Int.reduceAdd, Int.reduceSub, Int.reduceMul, Int.reduceNeg, Int.zero_add, Int.add_zero, nm_eq, bd_some, bv_some, aI_ok, aL_ok, aS_ok, dv_ok, dw_ok, I_add, I_sub, I_mul, I_neg, I_lt, I_le, I_eq, I_nat, J_add, J_sub, J_mul, J_neg, J_lt, J_le, J_eq, I_l, J_i, I_div, J_div, b2_0, b2_1, b2_nar, nar_0, nar_1, zr_0, zr_1, zr_b2, cmp_eq, cmp_le, cmp_lt, cmp_gt, cmp_ge, mx_I, mn_I, mx_L, mn_L, az_I, if_true, if_false, not_true_eq_false, not_false_eq_true, i_0, i_1, i_2, i_3, i_4, i_5, i_6, i_7, i_8, i_9, i_10, i_11, i_12, i_16, i_18, i_20, i_24, i_28, i_29, i_30, i_31, i_32, i_33, i_34, i_35, i_37, i_40, i_41, i_42, i_43, i_45, i_46, i_47, i_48, i_57, i_59, i_63, i_64, i_96, i_97, i_98, i_99, i_100, i_101, i_102, i_103, i_104, i_105, i_106, i_107, i_108, i_109, i_110, i_111, i_112, i_113, i_122, i_200, i_255, i_256, i_257, i_258, i_355, i_400, i_999, i_1000, i_1200, i_5680, i_9999, i_10000, i_99999, j_0, j_1, j_2, j_3, j_4, j_5, j_6, j_9, j_10, j_11, j_98, j_99, j_100, j_999, j_1000, j_9999, j_10000, j_99999, j_1000000, hle, r29, r30, hz, hy, hc']
        · have hp : ¬ p_pk V f m := fun q => hc q.2.2
          have hc' : 98 * ((x_val V f - x_pv V f m) / (x_mn V f 1 - x_pm V f m)) ≤ 100 * (x_pv V f m / x_pm V f m) := by omega
          have e : (if p_pk V f m then a ||| ((1 : Int32) <<< (I_ m &&& 31)) else a) = a := if_neg hp
          unfold pkf
          rw [e, ← ih n (m + 1) _ (by omega) (by omega) (by omega)]
          simp (disch := omega) only [fX3_pickedMonths_132, Int.reduceEq, Int.reduceNe, Int.reduceLT, Int.reduceLE, Int.reduceAdd, Int.reduceSub, Int.reduceMul, Int.reduceNeg, Int.zero_add, Int.add_zero, nm_eq, bd_some, bv_some, aI_ok, aL_ok, aS_ok, dv_ok, dw_ok, I_add, I_sub, I_mul, I_neg, I_lt, I_le, I_eq, I_nat, J_add, J_sub, J_mul, J_neg, J_lt, J_le, J_eq, I_l, J_i, I_div, J_div, b2_0, b2_1, b2_nar, nar_0, nar_1, zr_0, zr_1, zr_b2, cmp_eq, cmp_le, cmp_lt, cmp_gt, cmp_ge, mx_I, mn_I, mx_L, mn_L, az_I, if_true, if_false, not_true_eq_false, not_false_eq_true, i_0, i_1, i_2, i_3, i_4, i_5, i_6, i_7, i_8, i_9, i_10, i_11, i_12, i_16, i_18, i_20, i_24, i_28, i_29, i_30, i_31, i_32, i_33, i_34, i_35, i_37, i_40, i_41, i_42, i_43, i_45, i_46, i_47, i_48, i_57, i_59, i_63, i_64, i_96, i_97, i_98, i_99, i_100, i_101, i_102, i_103, i_104, i_105, i_106, i_107, i_108, i_109, i_110, i_111, i_112, i_113, i_122, i_200, i_255, i_256, i_257, i_258, i_355, i_400, i_999, i_1000, i_1200, i_5680, i_9999, i_10000, i_99999, j_0, j_1, j_2, j_3, j_4, j_5, j_6, j_9, j_10, j_11, j_98, j_99, j_100, j_999, j_1000, j_9999, j_10000, j_99999, j_1000000, hle, r29, r30, hz, hy, hc']
def P_pm (k _ : Nat) : Prop := k = 29 ∨ k = 30
theorem SB.fr {μ μ' : Mem} (h : SB s V μ) (g : ∀ k j, 32 ≤ k → μ'.1 k j = μ.1 k j) : SB s V μ' := by
  have hb : 32 ≤ s := by
    have := h.1
    unfold kS at this
    omega
  obtain ⟨s1, s2, s3⟩ := h
  refine ⟨s1, ?_, ?_⟩
  · rw [g _ _ (by omega)]; exact s2
  · intro z a c
    rw [g _ _ (by omega), g _ _ (by omega), g _ _ (by omega), g _ _ (by omega), g _ _ (by omega), g _ _ (by omega), g _ _ (by omega), g _ _ (by omega), g _ _ (by omega), g _ _ (by omega)]
    exact s3 z a c
theorem SB.pm {μ μ' : Mem} (h : SB s V μ) (g : Fr P_pm μ μ') : SB s V μ' := h.fr (fun k j hk => (g k j (by unfold P_pm; omega)).1)
def pmM (V : Vw) (i A B : Int) (μ : Mem) : Mem := stL (stI μ 29 (s_mo V i).toNat (I_ (A + s_mn V i))) 30 (s_mo V i).toNat (J_ (B + 1000 * s_nt V i * s_mn V i))
theorem c_pk36 (hV : vB V) (hN : 100 ≤ N) (f0 : 0 ≤ f) (f1 : f < 4) : ∀ (d n : Nat) (i : Int) (μ : Mem), d < n → 0 ≤ i → i + d = sN V → SB s V μ → (∀ m, 0 ≤ m → m < 12 → μ.1 29 m.toNat = I_ (sg i.toNat 0 (g_pm V f m)) ∧ μ.2.1 30 m.toNat = J_ (sg i.toNat 0 (g_pv V f m))) → ∃ μ', fX3_pickedMonths_36 N n s (I_ f) (I_ (sg i.toNat 0 (g_mn V f 1))) (J_ (sg i.toNat 0 (g_val V f))) (I_ i) μ = some (x_pk V f, μ') ∧ Fr P_pm μ μ' := by
  have hn := hV.1
  unfold vN at hn
  intro d
  induction d with
  | zero =>
    intro n i μ h1 h2 h3 hS hM
    obtain ⟨n, rfl⟩ : ∃ m, n = m + 1 := ⟨n - 1, by omega⟩
    have hle : sN V ≤ i := by omega
    have hi : i = sN V := by omega
    subst hi
    refine ⟨μ, ?_, Fr.rf⟩
    have := c_pk132 (N := N) (f := f) hV hM 12 N 0 (I_ 0) (by omega) (by omega) (by omega)
    have e1 : sg (sN V).toNat 0 (g_mn V f 1) = x_mn V f 1 := rfl
    have e2 : sg (sN V).toNat 0 (g_val V f) = x_val V f := rfl
    simp (disch := omega) only [fX3_pickedMonths_36, fX3_pickedMonths_126, Int.reduceEq, Int.reduceNe, Int.reduceLT, Int.reduceLE, Int.reduceAdd, Int.reduceSub, Int.reduceMul, Int.reduceNeg, Int.zero_add, Int.add_zero, nm_eq, bd_some, bv_some, aI_ok, aL_ok, aS_ok, dv_ok, dw_ok, I_add, I_sub, I_mul, I_neg, I_lt, I_le, I_eq, I_nat, J_add, J_sub, J_mul, J_neg, J_lt, J_le, J_eq, I_l, J_i, I_div, J_div, b2_0, b2_1, b2_nar, nar_0, nar_1, zr_0, zr_1, zr_b2, cmp_eq, cmp_le, cmp_lt, cmp_gt, cmp_ge, mx_I, mn_I, mx_L, mn_L, az_I, if_true, if_false, not_true_eq_false, not_false_eq_true, i_0, i_1, i_2, i_3, i_4, i_5, i_6, i_7, i_8, i_9, i_10, i_11, i_12, i_16, i_18, i_20, i_24, i_28, i_29, i_30, i_31, i_32, i_33, i_34, i_35, i_37, i_40, i_41, i_42, i_43, i_45, i_46, i_47, i_48, i_57, i_59, i_63, i_64, i_96, i_97, i_98, i_99, i_100, i_101, i_102, i_103, i_104, i_105, i_106, i_107, i_108, i_109, i_110, i_111, i_112, i_113, i_122, i_200, i_255, i_256, i_257, i_258, i_355, i_400, i_999, i_1000, i_1200, i_5680, i_9999, i_10000, i_99999, j_0, j_1, j_2, j_3, j_4, j_5, j_6, j_9, j_10, j_11, j_98, j_99, j_100, j_999, j_1000, j_9999, j_10000, j_99999, j_1000000, SB_n hS, hle, e1, e2, this]
    rfl
  | succ d ih =>
    intro n i μ h1 h2 h3 hS hM
    obtain ⟨n, rfl⟩ : ∃ m, n = m + 1 := ⟨n - 1, by omega⟩
    have hle : ¬ sN V ≤ i := by omega
    have hlt : i < sN V := by omega
    have hv := hV.2.1 i h2 hlt
    unfold vS at hv
    have hs32 : 32 ≤ s := by
      have := hS.1
      unfold kS at this
      omega
    by_cases he : p_ex V f i
    · have z1 : g_mn V f 1 i = s_mn V i := by unfold g_mn; rw [if_pos he]
      have z2 : g_val V f i = 1000 * s_nt V i * s_mn V i := by unfold g_val; rw [if_pos he]
      obtain ⟨q1, q2⟩ := hM (s_mo V i) (by omega) (by omega)
      have hF0 : Fr P_pm μ (stI μ 29 (s_mo V i).toNat (I_ (sg i.toNat 0 (g_pm V f (s_mo V i)) + s_mn V i))) := Fr.rf.stI (Or.inl rfl)
      have hF : Fr P_pm μ (pmM V i (sg i.toNat 0 (g_pm V f (s_mo V i))) (sg i.toNat 0 (g_pv V f (s_mo V i))) μ) := hF0.stL (Or.inr rfl)
      have hS0 := hS.pm hF0
      have hS1 := hS.pm hF
      obtain ⟨μ', e1, e2⟩ := ih n (i + 1) (pmM V i (sg i.toNat 0 (g_pm V f (s_mo V i))) (sg i.toNat 0 (g_pv V f (s_mo V i))) μ) (by omega) (by omega) (by omega) hS1 (fun m m0 m1 => by
        obtain ⟨w1, w2⟩ := hM m m0 m1
        rw [sg_step h2, sg_step h2]
        unfold pmM
        simp (disch := omega) only [st_L1, at_I, at_L, st_I2, w1, w2]
        by_cases hm : m = s_mo V i
        · have y1 : g_pm V f m i = s_mn V i := by unfold g_pm; rw [if_pos ⟨he, hm.symm⟩]
          have y2 : g_pv V f m i = 1000 * s_nt V i * s_mn V i := by unfold g_pv; rw [if_pos ⟨he, hm.symm⟩]
          rw [if_pos hm, if_pos hm, y1, y2, hm]
          exact ⟨rfl, rfl⟩
        · have y1 : g_pm V f m i = 0 := by unfold g_pm; rw [if_neg (fun q => hm q.2.symm)]
          have y2 : g_pv V f m i = 0 := by unfold g_pv; rw [if_neg (fun q => hm q.2.symm)]
          rw [if_neg hm, if_neg hm, y1, y2, Int.add_zero, Int.add_zero]
          exact ⟨rfl, rfl⟩)
      rw [sg_step h2, sg_step h2, z1, z2] at e1
      refine ⟨μ', ?_, hF.tr e2⟩
      unfold pmM at e1 hS1
      simp (disch := omega) only [fX3_pickedMonths_36, Int.reduceEq, Int.reduceNe, Int.reduceLT, Int.reduceLE, Int.reduceAdd, Int.reduceSub, Int.reduceMul, Int.reduceNeg, Int.zero_add, Int.add_zero, nm_eq, bd_some, bv_some, aI_ok, aL_ok, aS_ok, dv_ok, dw_ok, I_add, I_sub, I_mul, I_neg, I_lt, I_le, I_eq, I_nat, J_add, J_sub, J_mul, J_neg, J_lt, J_le, J_eq, I_l, J_i, I_div, J_div, b2_0, b2_1, b2_nar, nar_0, nar_1, zr_0, zr_1, zr_b2, cmp_eq, cmp_le, cmp_lt, cmp_gt, cmp_ge, mx_I, mn_I, mx_L, mn_L, az_I, if_true, if_false, not_true_eq_false, not_false_eq_true, i_0, i_1, i_2, i_3, i_4, i_5, i_6, i_7, i_8, i_9, i_10, i_11, i_12, i_16, i_18, i_20, i_24, i_28, i_29, i_30, i_31, i_32, i_33, i_34, i_35, i_37, i_40, i_41, i_42, i_43, i_45, i_46, i_47, i_48, i_57, i_59, i_63, i_64, i_96, i_97, i_98, i_99, i_100, i_101, i_102, i_103, i_104, i_105, i_106, i_107, i_108, i_109, i_110, i_111, i_112, i_113, i_122, i_200, i_255, i_256, i_257, i_258, i_355, i_400, i_999, i_1000, i_1200, i_5680, i_9999, i_10000, i_99999, j_0, j_1, j_2, j_3, j_4, j_5, j_6, j_9, j_10, j_11, j_98, j_99, j_100, j_999, j_1000, j_9999, j_10000, j_99999, j_1000000, SB_n hS, SB_mk hS, SB_fm hS, SB_md hS, SB_lv hS, SB_mo hS, SB_mn hS, SB_pr hS, SB_of hS, SB_nt hS, SB_li hS, hle, c_isOf hV hS, he, and_self, q1, q2, st_I2, st_ne, st_L1, c_valueAt hV hS0, c_valueAt hV hS1, e1]
    · have z1 : g_mn V f 1 i = 0 := by unfold g_mn; rw [if_neg he]
      have z2 : g_val V f i = 0 := by unfold g_val; rw [if_neg he]
      obtain ⟨μ', e1, e2⟩ := ih n (i + 1) μ (by omega) (by omega) (by omega) hS (fun m m0 m1 => by
        have y1 : g_pm V f m i = 0 := by unfold g_pm; rw [if_neg (fun q => he q.1)]
        have y2 : g_pv V f m i = 0 := by unfold g_pv; rw [if_neg (fun q => he q.1)]
        rw [sg_step h2, sg_step h2, y1, y2, Int.add_zero, Int.add_zero]
        exact hM m m0 m1)
      rw [sg_step h2, sg_step h2, z1, z2, Int.add_zero, Int.add_zero] at e1
      refine ⟨μ', ?_, e2⟩
      simp (disch := omega) only [fX3_pickedMonths_36, Int.reduceEq, Int.reduceNe, Int.reduceLT, Int.reduceLE, Int.reduceAdd, Int.reduceSub, Int.reduceMul, Int.reduceNeg, Int.zero_add, Int.add_zero, nm_eq, bd_some, bv_some, aI_ok, aL_ok, aS_ok, dv_ok, dw_ok, I_add, I_sub, I_mul, I_neg, I_lt, I_le, I_eq, I_nat, J_add, J_sub, J_mul, J_neg, J_lt, J_le, J_eq, I_l, J_i, I_div, J_div, b2_0, b2_1, b2_nar, nar_0, nar_1, zr_0, zr_1, zr_b2, cmp_eq, cmp_le, cmp_lt, cmp_gt, cmp_ge, mx_I, mn_I, mx_L, mn_L, az_I, if_true, if_false, not_true_eq_false, not_false_eq_true, i_0, i_1, i_2, i_3, i_4, i_5, i_6, i_7, i_8, i_9, i_10, i_11, i_12, i_16, i_18, i_20, i_24, i_28, i_29, i_30, i_31, i_32, i_33, i_34, i_35, i_37, i_40, i_41, i_42, i_43, i_45, i_46, i_47, i_48, i_57, i_59, i_63, i_64, i_96, i_97, i_98, i_99, i_100, i_101, i_102, i_103, i_104, i_105, i_106, i_107, i_108, i_109, i_110, i_111, i_112, i_113, i_122, i_200, i_255, i_256, i_257, i_258, i_355, i_400, i_999, i_1000, i_1200, i_5680, i_9999, i_10000, i_99999, j_0, j_1, j_2, j_3, j_4, j_5, j_6, j_9, j_10, j_11, j_98, j_99, j_100, j_999, j_1000, j_9999, j_10000, j_99999, j_1000000, SB_n hS, SB_mk hS, SB_fm hS, SB_md hS, SB_lv hS, SB_mo hS, SB_mn hS, SB_pr hS, SB_of hS, SB_nt hS, SB_li hS, hle, c_isOf hV hS, he, e1]
theorem c_pk2 (hV : vB V) (hN : 100 ≤ N) (f0 : 0 ≤ f) (f1 : f < 4) : ∀ (d n : Nat) (i : Int) (μ : Mem), d < n → 0 ≤ i → i + d = 12 → SB s V μ → (∀ m, 0 ≤ m → m < i → μ.1 29 m.toNat = I_ 0 ∧ μ.2.1 30 m.toNat = J_ 0) → ∃ μ', fX3_pickedMonths_2 N n s (I_ f) (I_ i) μ = some (x_pk V f, μ') ∧ Fr P_pm μ μ' := by
  have hn := hV.1
  unfold vN at hn
  intro d
  induction d with
  | zero =>
    intro n i μ h1 h2 h3 hS hM
    obtain ⟨n, rfl⟩ : ∃ m, n = m + 1 := ⟨n - 1, by omega⟩
    have hi : i = 12 := by omega
    subst hi
    obtain ⟨μ', e1, e2⟩ := c_pk36 (N := N) (f := f) hV hN f0 f1 (sN V).toNat N 0 μ (by omega) (by omega) (by omega) hS (fun m m0 m1 => hM m m0 m1)
    have e1 : fX3_pickedMonths_36 N N s (I_ f) (I_ 0) (J_ 0) (I_ 0) μ = some (x_pk V f, μ') := e1
    refine ⟨μ', ?_, e2⟩
    simp (disch := omega) only [fX3_pickedMonths_2, fX3_pickedMonths_28, Int.reduceEq, Int.reduceNe, Int.reduceLT, Int.reduceLE, Int.reduceAdd, Int.reduceSub, Int.reduceMul, Int.reduceNeg, Int.zero_add, Int.add_zero, nm_eq, bd_some, bv_some, aI_ok, aL_ok, aS_ok, dv_ok, dw_ok, I_add, I_sub, I_mul, I_neg, I_lt, I_le, I_eq, I_nat, J_add, J_sub, J_mul, J_neg, J_lt, J_le, J_eq, I_l, J_i, I_div, J_div, b2_0, b2_1, b2_nar, nar_0, nar_1, zr_0, zr_1, zr_b2, cmp_eq, cmp_le, cmp_lt, cmp_gt, cmp_ge, mx_I, mn_I, mx_L, mn_L, az_I, if_true, if_false, not_true_eq_false, not_false_eq_true, i_0, i_1, i_2, i_3, i_4, i_5, i_6, i_7, i_8, i_9, i_10, i_11, i_12, i_16, i_18, i_20, i_24, i_28, i_29, i_30, i_31, i_32, i_33, i_34, i_35, i_37, i_40, i_41, i_42, i_43, i_45, i_46, i_47, i_48, i_57, i_59, i_63, i_64, i_96, i_97, i_98, i_99, i_100, i_101, i_102, i_103, i_104, i_105, i_106, i_107, i_108, i_109, i_110, i_111, i_112, i_113, i_122, i_200, i_255, i_256, i_257, i_258, i_355, i_400, i_999, i_1000, i_1200, i_5680, i_9999, i_10000, i_99999, j_0, j_1, j_2, j_3, j_4, j_5, j_6, j_9, j_10, j_11, j_98, j_99, j_100, j_999, j_1000, j_9999, j_10000, j_99999, j_1000000, e1]
  | succ d ih =>
    intro n i μ h1 h2 h3 hS hM
    obtain ⟨n, rfl⟩ : ∃ m, n = m + 1 := ⟨n - 1, by omega⟩
    have hle : ¬ 12 ≤ i := by omega
    have hF : Fr P_pm μ (stL (stI μ 29 i.toNat (I_ 0)) 30 i.toNat (J_ 0)) := (Fr.rf.stI (Or.inl rfl)).stL (Or.inr rfl)
    obtain ⟨μ', e1, e2⟩ := ih n (i + 1) _ (by omega) (by omega) (by omega) (hS.pm hF) (fun m m0 m1 => by
      simp (disch := omega) only [st_L1, at_I, at_L, st_I2]
      by_cases hm : m = i
      · rw [if_pos hm, if_pos hm]; exact ⟨rfl, rfl⟩
      · rw [if_neg hm, if_neg hm]; exact hM m m0 (by omega))
    refine ⟨μ', ?_, hF.tr e2⟩
    simp (disch := omega) only [fX3_pickedMonths_2, Int.reduceEq, Int.reduceNe, Int.reduceLT, Int.reduceLE, Int.reduceAdd, Int.reduceSub, Int.reduceMul, Int.reduceNeg, Int.zero_add, Int.add_zero, nm_eq, bd_some, bv_some, aI_ok, aL_ok, aS_ok, dv_ok, dw_ok, I_add, I_sub, I_mul, I_neg, I_lt, I_le, I_eq, I_nat, J_add, J_sub, J_mul, J_neg, J_lt, J_le, J_eq, I_l, J_i, I_div, J_div, b2_0, b2_1, b2_nar, nar_0, nar_1, zr_0, zr_1, zr_b2, cmp_eq, cmp_le, cmp_lt, cmp_gt, cmp_ge, mx_I, mn_I, mx_L, mn_L, az_I, if_true, if_false, not_true_eq_false, not_false_eq_true, i_0, i_1, i_2, i_3, i_4, i_5, i_6, i_7, i_8, i_9, i_10, i_11, i_12, i_16, i_18, i_20, i_24, i_28, i_29, i_30, i_31, i_32, i_33, i_34, i_35, i_37, i_40, i_41, i_42, i_43, i_45, i_46, i_47, i_48, i_57, i_59, i_63, i_64, i_96, i_97, i_98, i_99, i_100, i_101, i_102, i_103, i_104, i_105, i_106, i_107, i_108, i_109, i_110, i_111, i_112, i_113, i_122, i_200, i_255, i_256, i_257, i_258, i_355, i_400, i_999, i_1000, i_1200, i_5680, i_9999, i_10000, i_99999, j_0, j_1, j_2, j_3, j_4, j_5, j_6, j_9, j_10, j_11, j_98, j_99, j_100, j_999, j_1000, j_9999, j_10000, j_99999, j_1000000, hle, e1]
theorem c_pk (hV : vB V) (hN : 100 ≤ N) (f0 : 0 ≤ f) (f1 : f < 4) {μ : Mem} (hS : SB s V μ) : ∃ μ', fX3_pickedMonths N s (I_ f) μ = some (x_pk V f, μ') ∧ Fr P_pm μ μ' := by
  obtain ⟨μ', e1, e2⟩ := c_pk2 (N := N) (f := f) hV hN f0 f1 12 N 0 μ (by omega) (by omega) (by omega) hS (fun m a c => by omega)
  refine ⟨μ', ?_, e2⟩
  unfold fX3_pickedMonths
  rw [if_pos hS.1]
  simp (disch := omega) only [Int.reduceEq, Int.reduceNe, Int.reduceLT, Int.reduceLE, Int.reduceAdd, Int.reduceSub, Int.reduceMul, Int.reduceNeg, Int.zero_add, Int.add_zero, nm_eq, bd_some, bv_some, aI_ok, aL_ok, aS_ok, dv_ok, dw_ok, I_add, I_sub, I_mul, I_neg, I_lt, I_le, I_eq, I_nat, J_add, J_sub, J_mul, J_neg, J_lt, J_le, J_eq, I_l, J_i, I_div, J_div, b2_0, b2_1, b2_nar, nar_0, nar_1, zr_0, zr_1, zr_b2, cmp_eq, cmp_le, cmp_lt, cmp_gt, cmp_ge, mx_I, mn_I, mx_L, mn_L, az_I, if_true, if_false, not_true_eq_false, not_false_eq_true, i_0, i_1, i_2, i_3, i_4, i_5, i_6, i_7, i_8, i_9, i_10, i_11, i_12, i_16, i_18, i_20, i_24, i_28, i_29, i_30, i_31, i_32, i_33, i_34, i_35, i_37, i_40, i_41, i_42, i_43, i_45, i_46, i_47, i_48, i_57, i_59, i_63, i_64, i_96, i_97, i_98, i_99, i_100, i_101, i_102, i_103, i_104, i_105, i_106, i_107, i_108, i_109, i_110, i_111, i_112, i_113, i_122, i_200, i_255, i_256, i_257, i_258, i_355, i_400, i_999, i_1000, i_1200, i_5680, i_9999, i_10000, i_99999, j_0, j_1, j_2, j_3, j_4, j_5, j_6, j_9, j_10, j_11, j_98, j_99, j_100, j_999, j_1000, j_9999, j_10000, j_99999, j_1000000, e1]
theorem c_dp (hV : vB V) {μ : Mem} (hS : SB s V μ) (hD : DU V μ) {z : Int} (z0 : 0 ≤ z) (z1 : z < sN V) : fX3_depositOf N s (I_ z) μ = some (J_ (x_dp V z), μ) := by
  have hn := hV.1
  unfold vN at hn
  have hv := hV.2.1 z z0 z1
  unfold vS at hv
  have r24 := (hD.2 (s_fm V z) (by omega) (by omega)).2.1
  have hr := x_ra_in (V := V) (f := s_fm V z)
  have m1 := mul_in (a := x_ra V (s_fm V z)) (A := 99999) (b := s_nt V z) (B := 99999) hr.1 hr.2 (by omega) (by omega)
  have m2 := mul_in (a := x_ra V (s_fm V z) * s_nt V z) (A := 9999800001) (b := s_mn V z) (B := 999) m1.1 (by omega) (by omega) (by omega)
  unfold fX3_depositOf x_dp
  rw [if_pos hS.1]
  simp (disch := omega) only [Int.reduceEq, Int.reduceNe, Int.reduceLT, Int.reduceLE, Int.reduceAdd, Int.reduceSub, Int.reduceMul, Int.reduceNeg, Int.zero_add, Int.add_zero, nm_eq, bd_some, bv_some, aI_ok, aL_ok, aS_ok, dv_ok, dw_ok, I_add, I_sub, I_mul, I_neg, I_lt, I_le, I_eq, I_nat, J_add, J_sub, J_mul, J_neg, J_lt, J_le, J_eq, I_l, J_i, I_div, J_div, b2_0, b2_1, b2_nar, nar_0, nar_1, zr_0, zr_1, zr_b2, cmp_eq, cmp_le, cmp_lt, cmp_gt, cmp_ge, mx_I, mn_I, mx_L, mn_L, az_I, if_true, if_false, not_true_eq_false, not_false_eq_true, i_0, i_1, i_2, i_3, i_4, i_5, i_6, i_7, i_8, i_9, i_10, i_11, i_12, i_16, i_18, i_20, i_24, i_28, i_29, i_30, i_31, i_32, i_33, i_34, i_35, i_37, i_40, i_41, i_42, i_43, i_45, i_46, i_47, i_48, i_57, i_59, i_63, i_64, i_96, i_97, i_98, i_99, i_100, i_101, i_102, i_103, i_104, i_105, i_106, i_107, i_108, i_109, i_110, i_111, i_112, i_113, i_122, i_200, i_255, i_256, i_257, i_258, i_355, i_400, i_999, i_1000, i_1200, i_5680, i_9999, i_10000, i_99999, j_0, j_1, j_2, j_3, j_4, j_5, j_6, j_9, j_10, j_11, j_98, j_99, j_100, j_999, j_1000, j_9999, j_10000, j_99999, j_1000000, SB_n hS, SB_mk hS, SB_fm hS, SB_md hS, SB_lv hS, SB_mo hS, SB_mn hS, SB_pr hS, SB_of hS, SB_nt hS, SB_li hS, r24]
theorem c_ds_l (hV : vB V) {μ : Mem} (hS : SB s V μ) (hD : DU V μ) (f0 : 0 ≤ f) (f1 : f < 4) : ∀ (d n : Nat) (i acc : Int), d < n → 0 ≤ i → i + d = sN V → fX3_depositsOf_5 N n s (I_ f) (J_ acc) (I_ i) μ = some (J_ (acc + sg d i (g_dp V f)), μ) := by
  have hn := hV.1
  unfold vN at hn
  intro d
  induction d with
  | zero =>
    intro n i acc h1 h2 h3
    obtain ⟨n, rfl⟩ : ∃ m, n = m + 1 := ⟨n - 1, by omega⟩
    have hle : sN V ≤ i := by omega
    simp (disch := omega) only [fX3_depositsOf_5, Int.reduceEq, Int.reduceNe, Int.reduceLT, Int.reduceLE, Int.reduceAdd, Int.reduceSub, Int.reduceMul, Int.reduceNeg, Int.zero_add, Int.add_zero, nm_eq, bd_some, bv_some, aI_ok, aL_ok, aS_ok, dv_ok, dw_ok, I_add, I_sub, I_mul, I_neg, I_lt, I_le, I_eq, I_nat, J_add, J_sub, J_mul, J_neg, J_lt, J_le, J_eq, I_l, J_i, I_div, J_div, b2_0, b2_1, b2_nar, nar_0, nar_1, zr_0, zr_1, zr_b2, cmp_eq, cmp_le, cmp_lt, cmp_gt, cmp_ge, mx_I, mn_I, mx_L, mn_L, az_I, if_true, if_false, not_true_eq_false, not_false_eq_true, i_0, i_1, i_2, i_3, i_4, i_5, i_6, i_7, i_8, i_9, i_10, i_11, i_12, i_16, i_18, i_20, i_24, i_28, i_29, i_30, i_31, i_32, i_33, i_34, i_35, i_37, i_40, i_41, i_42, i_43, i_45, i_46, i_47, i_48, i_57, i_59, i_63, i_64, i_96, i_97, i_98, i_99, i_100, i_101, i_102, i_103, i_104, i_105, i_106, i_107, i_108, i_109, i_110, i_111, i_112, i_113, i_122, i_200, i_255, i_256, i_257, i_258, i_355, i_400, i_999, i_1000, i_1200, i_5680, i_9999, i_10000, i_99999, j_0, j_1, j_2, j_3, j_4, j_5, j_6, j_9, j_10, j_11, j_98, j_99, j_100, j_999, j_1000, j_9999, j_10000, j_99999, j_1000000, SB_n hS, hle, sg]
  | succ d ih =>
    intro n i acc h1 h2 h3
    obtain ⟨n, rfl⟩ : ∃ m, n = m + 1 := ⟨n - 1, by omega⟩
    have hle : ¬ sN V ≤ i := by omega
    by_cases he : p_ex V f i
    · have e : g_dp V f i = x_dp V i := by unfold g_dp; rw [if_pos he]
      simp (disch := omega) only [fX3_depositsOf_5, Int.reduceEq, Int.reduceNe, Int.reduceLT, Int.reduceLE, Int.reduceAdd, Int.reduceSub, Int.reduceMul, Int.reduceNeg, Int.zero_add, Int.add_zero, nm_eq, bd_some, bv_some, aI_ok, aL_ok, aS_ok, dv_ok, dw_ok, I_add, I_sub, I_mul, I_neg, I_lt, I_le, I_eq, I_nat, J_add, J_sub, J_mul, J_neg, J_lt, J_le, J_eq, I_l, J_i, I_div, J_div, b2_0, b2_1, b2_nar, nar_0, nar_1, zr_0, zr_1, zr_b2, cmp_eq, cmp_le, cmp_lt, cmp_gt, cmp_ge, mx_I, mn_I, mx_L, mn_L, az_I, if_true, if_false, not_true_eq_false, not_false_eq_true, i_0, i_1, i_2, i_3, i_4, i_5, i_6, i_7, i_8, i_9, i_10, i_11, i_12, i_16, i_18, i_20, i_24, i_28, i_29, i_30, i_31, i_32, i_33, i_34, i_35, i_37, i_40, i_41, i_42, i_43, i_45, i_46, i_47, i_48, i_57, i_59, i_63, i_64, i_96, i_97, i_98, i_99, i_100, i_101, i_102, i_103, i_104, i_105, i_106, i_107, i_108, i_109, i_110, i_111, i_112, i_113, i_122, i_200, i_255, i_256, i_257, i_258, i_355, i_400, i_999, i_1000, i_1200, i_5680, i_9999, i_10000, i_99999, j_0, j_1, j_2, j_3, j_4, j_5, j_6, j_9, j_10, j_11, j_98, j_99, j_100, j_999, j_1000, j_9999, j_10000, j_99999, j_1000000, SB_n hS, hle, c_isOf hV hS, he, and_self, c_dp hV hS hD, ih, sg, e, Int.add_assoc]
    · have e : g_dp V f i = 0 := by unfold g_dp; rw [if_neg he]
      simp (disch := omega) only [fX3_depositsOf_5, Int.reduceEq, Int.reduceNe, Int.reduceLT, Int.reduceLE, Int.reduceAdd, Int.reduceSub, Int.reduceMul, Int.reduceNeg, Int.zero_add, Int.add_zero, nm_eq, bd_some, bv_some, aI_ok, aL_ok, aS_ok, dv_ok, dw_ok, I_add, I_sub, I_mul, I_neg, I_lt, I_le, I_eq, I_nat, J_add, J_sub, J_mul, J_neg, J_lt, J_le, J_eq, I_l, J_i, I_div, J_div, b2_0, b2_1, b2_nar, nar_0, nar_1, zr_0, zr_1, zr_b2, cmp_eq, cmp_le, cmp_lt, cmp_gt, cmp_ge, mx_I, mn_I, mx_L, mn_L, az_I, if_true, if_false, not_true_eq_false, not_false_eq_true, i_0, i_1, i_2, i_3, i_4, i_5, i_6, i_7, i_8, i_9, i_10, i_11, i_12, i_16, i_18, i_20, i_24, i_28, i_29, i_30, i_31, i_32, i_33, i_34, i_35, i_37, i_40, i_41, i_42, i_43, i_45, i_46, i_47, i_48, i_57, i_59, i_63, i_64, i_96, i_97, i_98, i_99, i_100, i_101, i_102, i_103, i_104, i_105, i_106, i_107, i_108, i_109, i_110, i_111, i_112, i_113, i_122, i_200, i_255, i_256, i_257, i_258, i_355, i_400, i_999, i_1000, i_1200, i_5680, i_9999, i_10000, i_99999, j_0, j_1, j_2, j_3, j_4, j_5, j_6, j_9, j_10, j_11, j_98, j_99, j_100, j_999, j_1000, j_9999, j_10000, j_99999, j_1000000, SB_n hS, hle, c_isOf hV hS, he, ih, sg, e]
theorem c_ds (hV : vB V) (hN : 100 ≤ N) {μ : Mem} (hS : SB s V μ) (hD : DU V μ) (f0 : 0 ≤ f) (f1 : f < 4) : fX3_depositsOf N s (I_ f) μ = some (J_ (x_ds V f), μ) := by
  have hn := hV.1
  unfold vN at hn
  have := c_ds_l (N := N) hV hS hD f0 f1 (sN V).toNat N 0 0 (by omega) (by omega) (by omega)
  rw [Int.zero_add] at this
  unfold fX3_depositsOf
  rw [if_pos hS.1]
  simp (disch := omega) only [Int.reduceEq, Int.reduceNe, Int.reduceLT, Int.reduceLE, Int.reduceAdd, Int.reduceSub, Int.reduceMul, Int.reduceNeg, Int.zero_add, Int.add_zero, nm_eq, bd_some, bv_some, aI_ok, aL_ok, aS_ok, dv_ok, dw_ok, I_add, I_sub, I_mul, I_neg, I_lt, I_le, I_eq, I_nat, J_add, J_sub, J_mul, J_neg, J_lt, J_le, J_eq, I_l, J_i, I_div, J_div, b2_0, b2_1, b2_nar, nar_0, nar_1, zr_0, zr_1, zr_b2, cmp_eq, cmp_le, cmp_lt, cmp_gt, cmp_ge, mx_I, mn_I, mx_L, mn_L, az_I, if_true, if_false, not_true_eq_false, not_false_eq_true, i_0, i_1, i_2, i_3, i_4, i_5, i_6, i_7, i_8, i_9, i_10, i_11, i_12, i_16, i_18, i_20, i_24, i_28, i_29, i_30, i_31, i_32, i_33, i_34, i_35, i_37, i_40, i_41, i_42, i_43, i_45, i_46, i_47, i_48, i_57, i_59, i_63, i_64, i_96, i_97, i_98, i_99, i_100, i_101, i_102, i_103, i_104, i_105, i_106, i_107, i_108, i_109, i_110, i_111, i_112, i_113, i_122, i_200, i_255, i_256, i_257, i_258, i_355, i_400, i_999, i_1000, i_1200, i_5680, i_9999, i_10000, i_99999, j_0, j_1, j_2, j_3, j_4, j_5, j_6, j_9, j_10, j_11, j_98, j_99, j_100, j_999, j_1000, j_9999, j_10000, j_99999, j_1000000, this]
  rfl
theorem c_pl_l (hV : vB V) {μ : Mem} (hD : DU V μ) (f0 : 0 ≤ f) (f1 : f < fN V) : ∀ (d n : Nat) (i acc : Int), d < n → 0 ≤ i → i + d = fN V → fX3_placeOf_5 N n (I_ f) (I_ (fN V)) (I_ acc) (I_ i) μ = some (I_ (acc + sg d i (g_pl V f)), μ) := by
  have hn := hV.1
  unfold vN at hn
  have rf := (hD.2 f f0 f1).2.2.2
  have hf := x_du_in (V := V) (f := f)
  intro d
  induction d with
  | zero =>
    intro n i acc h1 h2 h3
    obtain ⟨n, rfl⟩ : ∃ m, n = m + 1 := ⟨n - 1, by omega⟩
    have hle : fN V ≤ i := by omega
    simp (disch := omega) only [fX3_placeOf_5, Int.reduceEq, Int.reduceNe, Int.reduceLT, Int.reduceLE, Int.reduceAdd, Int.reduceSub, Int.reduceMul, Int.reduceNeg, Int.zero_add, Int.add_zero, nm_eq, bd_some, bv_some, aI_ok, aL_ok, aS_ok, dv_ok, dw_ok, I_add, I_sub, I_mul, I_neg, I_lt, I_le, I_eq, I_nat, J_add, J_sub, J_mul, J_neg, J_lt, J_le, J_eq, I_l, J_i, I_div, J_div, b2_0, b2_1, b2_nar, nar_0, nar_1, zr_0, zr_1, zr_b2, cmp_eq, cmp_le, cmp_lt, cmp_gt, cmp_ge, mx_I, mn_I, mx_L, mn_L, az_I, if_true, if_false, not_true_eq_false, not_false_eq_true, i_0, i_1, i_2, i_3, i_4, i_5, i_6, i_7, i_8, i_9, i_10, i_11, i_12, i_16, i_18, i_20, i_24, i_28, i_29, i_30, i_31, i_32, i_33, i_34, i_35, i_37, i_40, i_41, i_42, i_43, i_45, i_46, i_47, i_48, i_57, i_59, i_63, i_64, i_96, i_97, i_98, i_99, i_100, i_101, i_102, i_103, i_104, i_105, i_106, i_107, i_108, i_109, i_110, i_111, i_112, i_113, i_122, i_200, i_255, i_256, i_257, i_258, i_355, i_400, i_999, i_1000, i_1200, i_5680, i_9999, i_10000, i_99999, j_0, j_1, j_2, j_3, j_4, j_5, j_6, j_9, j_10, j_11, j_98, j_99, j_100, j_999, j_1000, j_9999, j_10000, j_99999, j_1000000, hle, sg]
  | succ d ih =>
    intro n i acc h1 h2 h3
    obtain ⟨n, rfl⟩ : ∃ m, n = m + 1 := ⟨n - 1, by omega⟩
    have hle : ¬ fN V ≤ i := by omega
    have ri := (hD.2 i h2 (by omega)).2.2.2
    have hi := x_du_in (V := V) (f := i)
    by_cases hg : x_du V f < x_du V i
    · have e : g_pl V f i = 1 := by unfold g_pl; rw [if_pos (Or.inl hg)]
      simp (disch := omega) only [fX3_placeOf_5, Int.reduceEq, Int.reduceNe, Int.reduceLT, Int.reduceLE, Int.reduceAdd, Int.reduceSub, Int.reduceMul, Int.reduceNeg, Int.zero_add, Int.add_zero, nm_eq, bd_some, bv_some, aI_ok, aL_ok, aS_ok, dv_ok, dw_ok, I_add, I_sub, I_mul, I_neg, I_lt, I_le, I_eq, I_nat, J_add, J_sub, J_mul, J_neg, J_lt, J_le, J_eq, I_l, J_i, I_div, J_div, b2_0, b2_1, b2_nar, nar_0, nar_1, zr_0, zr_1, zr_b2, cmp_eq, cmp_le, cmp_lt, cmp_gt, cmp_ge, mx_I, mn_I, mx_L, mn_L, az_I, if_true, if_false, not_true_eq_false, not_false_eq_true, i_0, i_1, i_2, i_3, i_4, i_5, i_6, i_7, i_8, i_9, i_10, i_11, i_12, i_16, i_18, i_20, i_24, i_28, i_29, i_30, i_31, i_32, i_33, i_34, i_35, i_37, i_40, i_41, i_42, i_43, i_45, i_46, i_47, i_48, i_57, i_59, i_63, i_64, i_96, i_97, i_98, i_99, i_100, i_101, i_102, i_103, i_104, i_105, i_106, i_107, i_108, i_109, i_110, i_111, i_112, i_113, i_122, i_200, i_255, i_256, i_257, i_258, i_355, i_400, i_999, i_1000, i_1200, i_5680, i_9999, i_10000, i_99999, j_0, j_1, j_2, j_3, j_4, j_5, j_6, j_9, j_10, j_11, j_98, j_99, j_100, j_999, j_1000, j_9999, j_10000, j_99999, j_1000000, hle, rf, ri, hg, ih, sg, e, Int.add_assoc]
    · by_cases hq : x_du V i = x_du V f
      · by_cases hl : i < f
        · have e : g_pl V f i = 1 := by unfold g_pl; rw [if_pos (Or.inr ⟨hq, hl⟩)]
          have hl' : ¬ f ≤ i := by omega
          simp (disch := omega) only [fX3_placeOf_5, Int.reduceEq, Int.reduceNe, Int.reduceLT, Int.reduceLE, Int.reduceAdd, Int.reduceSub, Int.reduceMul, Int.reduceNeg, Int.zero_add, Int.add_zero, nm_eq, bd_some, bv_some, aI_ok, aL_ok, aS_ok, dv_ok, dw_ok, I_add, I_sub, I_mul, I_neg, I_lt, I_le, I_eq, I_nat, J_add, J_sub, J_mul, J_neg, J_lt, J_le, J_eq, I_l, J_i, I_div, J_div, b2_0, b2_1, b2_nar, nar_0, nar_1, zr_0, zr_1, zr_b2, cmp_eq, cmp_le, cmp_lt, cmp_gt, cmp_ge, mx_I, mn_I, mx_L, mn_L, az_I, if_true, if_false, not_true_eq_false, not_false_eq_true, i_0, i_1, i_2, i_3, i_4, i_5, i_6, i_7, i_8, i_9, i_10, i_11, i_12, i_16, i_18, i_20, i_24, i_28, i_29, i_30, i_31, i_32, i_33, i_34, i_35, i_37, i_40, i_41, i_42, i_43, i_45, i_46, i_47, i_48, i_57, i_59, i_63, i_64, i_96, i_97, i_98, i_99, i_100, i_101, i_102, i_103, i_104, i_105, i_106, i_107, i_108, i_109, i_110, i_111, i_112, i_113, i_122, i_200, i_255, i_256, i_257, i_258, i_355, i_400, i_999, i_1000, i_1200, i_5680, i_9999, i_10000, i_99999, j_0, j_1, j_2, j_3, j_4, j_5, j_6, j_9, j_10, j_11, j_98, j_99, j_100, j_999, j_1000, j_9999, j_10000, j_99999, j_1000000, hle, rf, ri, hg, hq, hl', ih, sg, e, Int.add_assoc, Int.lt_irrefl]
        · have e : g_pl V f i = 0 := by unfold g_pl; rw [if_neg (fun q => q.elim hg (fun q => hl q.2))]
          have hl' : f ≤ i := by omega
          simp (disch := omega) only [fX3_placeOf_5, Int.reduceEq, Int.reduceNe, Int.reduceLT, Int.reduceLE, Int.reduceAdd, Int.reduceSub, Int.reduceMul, Int.reduceNeg, Int.zero_add, Int.add_zero, nm_eq, bd_some, bv_some, aI_ok, aL_ok, aS_ok, dv_ok, dw_ok, I_add, I_sub, I_mul, I_neg, I_lt, I_le, I_eq, I_nat, J_add, J_sub, J_mul, J_neg, J_lt, J_le, J_eq, I_l, J_i, I_div, J_div, b2_0, b2_1, b2_nar, nar_0, nar_1, zr_0, zr_1, zr_b2, cmp_eq, cmp_le, cmp_lt, cmp_gt, cmp_ge, mx_I, mn_I, mx_L, mn_L, az_I, if_true, if_false, not_true_eq_false, not_false_eq_true, i_0, i_1, i_2, i_3, i_4, i_5, i_6, i_7, i_8, i_9, i_10, i_11, i_12, i_16, i_18, i_20, i_24, i_28, i_29, i_30, i_31, i_32, i_33, i_34, i_35, i_37, i_40, i_41, i_42, i_43, i_45, i_46, i_47, i_48, i_57, i_59, i_63, i_64, i_96, i_97, i_98, i_99, i_100, i_101, i_102, i_103, i_104, i_105, i_106, i_107, i_108, i_109, i_110, i_111, i_112, i_113, i_122, i_200, i_255, i_256, i_257, i_258, i_355, i_400, i_999, i_1000, i_1200, i_5680, i_9999, i_10000, i_99999, j_0, j_1, j_2, j_3, j_4, j_5, j_6, j_9, j_10, j_11, j_98, j_99, j_100, j_999, j_1000, j_9999, j_10000, j_99999, j_1000000, hle, rf, ri, hg, hq, hl', ih, sg, e, Int.lt_irrefl]
      · have e : g_pl V f i = 0 := by unfold g_pl; rw [if_neg (fun q => q.elim hg (fun q => hq q.1))]
        simp (disch := omega) only [fX3_placeOf_5, Int.reduceEq, Int.reduceNe, Int.reduceLT, Int.reduceLE, Int.reduceAdd, Int.reduceSub, Int.reduceMul, Int.reduceNeg, Int.zero_add, Int.add_zero, nm_eq, bd_some, bv_some, aI_ok, aL_ok, aS_ok, dv_ok, dw_ok, I_add, I_sub, I_mul, I_neg, I_lt, I_le, I_eq, I_nat, J_add, J_sub, J_mul, J_neg, J_lt, J_le, J_eq, I_l, J_i, I_div, J_div, b2_0, b2_1, b2_nar, nar_0, nar_1, zr_0, zr_1, zr_b2, cmp_eq, cmp_le, cmp_lt, cmp_gt, cmp_ge, mx_I, mn_I, mx_L, mn_L, az_I, if_true, if_false, not_true_eq_false, not_false_eq_true, i_0, i_1, i_2, i_3, i_4, i_5, i_6, i_7, i_8, i_9, i_10, i_11, i_12, i_16, i_18, i_20, i_24, i_28, i_29, i_30, i_31, i_32, i_33, i_34, i_35, i_37, i_40, i_41, i_42, i_43, i_45, i_46, i_47, i_48, i_57, i_59, i_63, i_64, i_96, i_97, i_98, i_99, i_100, i_101, i_102, i_103, i_104, i_105, i_106, i_107, i_108, i_109, i_110, i_111, i_112, i_113, i_122, i_200, i_255, i_256, i_257, i_258, i_355, i_400, i_999, i_1000, i_1200, i_5680, i_9999, i_10000, i_99999, j_0, j_1, j_2, j_3, j_4, j_5, j_6, j_9, j_10, j_11, j_98, j_99, j_100, j_999, j_1000, j_9999, j_10000, j_99999, j_1000000, hle, rf, ri, hg, hq, ih, sg, e]
theorem c_pl (hV : vB V) (hN : 100 ≤ N) {μ : Mem} (hD : DU V μ) (f0 : 0 ≤ f) (f1 : f < fN V) : fX3_placeOf N (I_ f) (I_ (fN V)) μ = some (I_ (x_pl V f), μ) := by
  have hn := hV.1
  unfold vN at hn
  have := c_pl_l (N := N) hV hD f0 f1 (fN V).toNat N 0 0 (by omega) (by omega) (by omega)
  rw [Int.zero_add] at this
  simp (disch := omega) only [fX3_placeOf, Int.reduceEq, Int.reduceNe, Int.reduceLT, Int.reduceLE, Int.reduceAdd, Int.reduceSub, Int.reduceMul, Int.reduceNeg, Int.zero_add, Int.add_zero, nm_eq, bd_some, bv_some, aI_ok, aL_ok, aS_ok, dv_ok, dw_ok, I_add, I_sub, I_mul, I_neg, I_lt, I_le, I_eq, I_nat, J_add, J_sub, J_mul, J_neg, J_lt, J_le, J_eq, I_l, J_i, I_div, J_div, b2_0, b2_1, b2_nar, nar_0, nar_1, zr_0, zr_1, zr_b2, cmp_eq, cmp_le, cmp_lt, cmp_gt, cmp_ge, mx_I, mn_I, mx_L, mn_L, az_I, if_true, if_false, not_true_eq_false, not_false_eq_true, i_0, i_1, i_2, i_3, i_4, i_5, i_6, i_7, i_8, i_9, i_10, i_11, i_12, i_16, i_18, i_20, i_24, i_28, i_29, i_30, i_31, i_32, i_33, i_34, i_35, i_37, i_40, i_41, i_42, i_43, i_45, i_46, i_47, i_48, i_57, i_59, i_63, i_64, i_96, i_97, i_98, i_99, i_100, i_101, i_102, i_103, i_104, i_105, i_106, i_107, i_108, i_109, i_110, i_111, i_112, i_113, i_122, i_200, i_255, i_256, i_257, i_258, i_355, i_400, i_999, i_1000, i_1200, i_5680, i_9999, i_10000, i_99999, j_0, j_1, j_2, j_3, j_4, j_5, j_6, j_9, j_10, j_11, j_98, j_99, j_100, j_999, j_1000, j_9999, j_10000, j_99999, j_1000000, this]
  rfl
end
