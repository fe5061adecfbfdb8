/-! The duties' terms. -/
abbrev zO (V : Vw) : Prop := s_se V 1 = 1
def a_ex (V : Vw) : Int := sg (fN V).toNat 0 (fun f => x_mn V f 1)
abbrev p_sm (V : Vw) (f : Int) : Prop := 0 < x_mn V f 1 ∧ 100 * x_mn V f 1 < 3 * a_ex V
def g_sm (V : Vw) (f : Int) : Int := if p_sm V f then x_mn V f 1 else 0
def a_sm (V : Vw) : Int := sg (fN V).toNat 0 (g_sm V)
abbrev p_ng (V : Vw) (f : Int) : Prop := p_sm V f ∧ 100 * a_sm V ≤ 7 * a_ex V
def mxs (V : Vw) (t : Int) (Z : Prop) [Decidable Z] : Nat → Int
  | 0 => 0
  | i + 1 => if s_si V i = 0 then max (mxs V t Z i) (x_ma V i t 0 Z) else mxs V t Z i
def x_gr (V : Vw) (t : Int) (Z : Prop) [Decidable Z] : Int := mxs V t Z (fN V).toNat
/-- MARGIN as told -/
def x_tm (V : Vw) (f t : Int) (Z : Prop) [Decidable Z] : Int := if s_si V f = 0 then x_ma V f t 0 Z else x_gr V t Z
def x_tn (V : Vw) (f : Int) : Int := x_tm V f (s_se V 0) (s_se V 1 = 1)
def x_ra (V : Vw) (f : Int) : Int := if p_ng V f ∨ x_mn V f 1 = 0 ∨ x_tn V f < 200 then 0 else x_tn V f
abbrev p_tg (V : Vw) (f z : Int) : Prop := p_ex V f z ∧ 0 < m_tg V (s_md V z)
def g_is (V : Vw) (f z : Int) : Int := if p_tg V f z then 1000 * (m_tg V (s_md V z) - s_nt V z) * s_mn V z else 0
def g_iw (V : Vw) (f z : Int) : Int := if p_tg V f z then 1000 * s_nt V z * s_mn V z else 0
def g_ic (V : Vw) (f z : Int) : Int := if p_tg V f z then s_mn V z else 0
def x_is (V : Vw) (f : Int) : Int := sg (zN V) 0 (g_is V f)
def x_iw (V : Vw) (f : Int) : Int := sg (zN V) 0 (g_iw V f)
def x_ic (V : Vw) (f : Int) : Int := sg (zN V) 0 (g_ic V f)
def x_ij (V : Vw) (f : Int) : Int := mg (x_is V f) (x_iw V f)
def x_du (V : Vw) (f : Int) : Int := if s_se V 2 ≠ 0 ∧ 0 < x_ic V f then min (x_ra V f) (x_ij V f) else x_ra V f
section
variable {N : Nat} {b : Nat} {V : Vw} {f t : Int}
theorem x_ma_in {Z : Prop} [Decidable Z] (V : Vw) (f t r : Int) : 0 ≤ x_ma V f t r Z ∧ x_ma V f t r Z ≤ 99999 := mg_in _ _
theorem mxs_in {Z : Prop} [Decidable Z] : ∀ i : Nat, 0 ≤ mxs V t Z i ∧ mxs V t Z i ≤ 99999 := by
  intro i
  induction i with
  | zero => exact ⟨by show (0 : Int) ≤ 0; omega, by show (0 : Int) ≤ 99999; omega⟩
  | succ i ih =>
    have := x_ma_in (Z := Z) V i t 0
    unfold mxs
    split <;> omega
theorem mxs_step {Z : Prop} [Decidable Z] {i : Int} (h : 0 ≤ i) : mxs V t Z (i + 1).toNat = if s_si V i = 0 then max (mxs V t Z i.toNat) (x_ma V i t 0 Z) else mxs V t Z i.toNat := by
  rw [show (i + 1).toNat = i.toNat + 1 by omega]
  show (if s_si V (i.toNat : Int) = 0 then max (mxs V t Z i.toNat) (x_ma V (i.toNat : Int) t 0 Z) else mxs V t Z i.toNat) = _
  rw [show (i.toNat : Int) = i by omega]
theorem x_tm_in {Z : Prop} [Decidable Z] : 0 ≤ x_tm V f t Z ∧ x_tm V f t Z ≤ 99999 := by
  unfold x_tm
  split
  · exact x_ma_in V f t 0
  · exact mxs_in _
theorem x_ra_in : 0 ≤ x_ra V f ∧ x_ra V f ≤ 99999 := by
  have := x_tm_in (V := V) (f := f) (t := s_se V 0) (Z := (s_se V 1 = 1))
  unfold x_ra x_tn
  split <;> omega
theorem a_ex_in (hV : vB V) {d : Nat} (hd : d ≤ 4) : 0 ≤ sg d 0 (fun f => x_mn V f 1) ∧ sg d 0 (fun f => x_mn V f 1) ≤ 159840 := by
  have := sg_nn (hi := 39960) (g := fun f => x_mn V f 1) (d := d) (i := 0) (fun z a c => x_mn_in hV z 1)
  omega
theorem a_sm_in (hV : vB V) {d : Nat} (hd : d ≤ 4) : 0 ≤ sg d 0 (g_sm V) ∧ sg d 0 (g_sm V) ≤ 159840 := by
  have := sg_nn (hi := 39960) (g := g_sm V) (d := d) (i := 0) (fun z a c => by
    have := x_mn_in hV z 1
    unfold g_sm
    split <;> omega)
  omega
theorem x_ic_in (hV : vB V) (f : Int) : 0 ≤ x_ic V f ∧ x_ic V f ≤ 39960 := sg_small hV (zN_le hV) (fun z _ _ => by
  unfold g_ic; split
  · exact Or.inr rfl
  · exact Or.inl rfl)
theorem x_iw_in (hV : vB V) (f : Int) : 0 ≤ x_iw V f ∧ x_iw V f ≤ 99999000 * x_ic V f := sg_val hV (zN_le hV) (fun z _ _ => by
  unfold g_iw g_ic; split
  · exact Or.inr ⟨rfl, rfl⟩
  · exact Or.inl ⟨rfl, rfl⟩)
theorem g_is_in (hV : vB V) {z : Int} (z0 : 0 ≤ z) (z1 : z < sN V) : -99899001000 ≤ g_is V f z ∧ g_is V f z ≤ 99899001000 := by
  have hv := hV.2.1 z z0 z1
  unfold vS at hv
  have hm := hV.2.2.1 (s_md V z) (by omega) (by omega)
  unfold vM at hm
  have h := mul_ab (a := s_mn V z) (A := 999) (b := 1000 * (m_tg V (s_md V z) - s_nt V z)) (B := 99999000) (by omega) (by omega) (by omega) (by omega)
  rw [Int.mul_comm (s_mn V z), show (999 : Int) * 99999000 = 99899001000 by decide] at h
  unfold g_is
  split
  · exact h
  · omega
theorem x_is_in (hV : vB V) (f : Int) : -4000000000000 ≤ x_is V f ∧ x_is V f ≤ 4000000000000 := by
  have hn := hV.1
  unfold vN at hn
  have hz := zN_le hV
  have := sg_bound (g := g_is V f) (lo := -99899001000) (hi := 99899001000) (zN V) 0 (fun z a c => g_is_in hV a (by omega))
  unfold x_is
  omega
theorem x_ij_in : 0 ≤ x_ij V f ∧ x_ij V f ≤ 99999 := mg_in _ _
theorem x_du_in : 0 ≤ x_du V f ∧ x_du V f ≤ 99999 := by
  have := x_ra_in (V := V) (f := f)
  have := x_ij_in (V := V) (f := f)
  unfold x_du
  split <;> omega
/-! markNegligible -/
def P_mk (k _ : Nat) : Prop := k = 27 ∨ k = 28
theorem P_mk_ge (k j : Nat) (h : 32 ≤ k) : ¬ P_mk k j := by unfold P_mk; omega
def NG (V : Vw) (μ : Mem) : Prop := ∀ f, 0 ≤ f → f < fN V → μ.1 28 f.toNat = I_ (x_mn V f 1) ∧ μ.1 27 f.toNat = I_ (b2 (p_ng V f))
theorem c_mk143 (hV : vB V) : ∀ (d n : Nat) (i : Int) (μ : Mem), d < n → 0 ≤ i → i + d = fN V → CB b V μ → (∀ j, 0 ≤ j → j < fN V → μ.1 28 j.toNat = I_ (x_mn V j 1)) → (∀ j, 0 ≤ j → j < i → μ.1 27 j.toNat = I_ 0) → ∃ μ', fX3_markNegligible_143 N n b (I_ i) μ = some ((), μ') ∧ Fr P_mk μ μ' ∧ (∀ j, 0 ≤ j → j < fN V → μ'.1 28 j.toNat = I_ (x_mn V j 1)) ∧ (∀ j, 0 ≤ j → j < fN V → μ'.1 27 j.toNat = I_ 0) := by
  have hn := hV.1
  unfold vN at hn
  intro d
  induction d with
  | zero =>
    intro n i μ h1 h2 h3 hB h28 h27
    obtain ⟨n, rfl⟩ : ∃ m, n = m + 1 := ⟨n - 1, by omega⟩
    have hle : fN V ≤ i := by omega
    refine ⟨μ, ?_, Fr.rf, h28, fun j j0 j1 => h27 j j0 (by omega)⟩
    simp (disch := omega) only [fX3_markNegligible_143, Int.reduceEq, Int.reduceNe, Int.reduceLT, Int.reduceLE, Int.reduceAdd, Int.reduceSub, Int.reduceMul, Int.reduceNeg, Int.zero_add, Int.add_zero, nm_eq, bd_some, bv_some, aI_ok, aL_ok, aS_ok, dv_ok, dw_ok, I_add, I_sub, I_mul, I_neg, I_lt, I_le, I_eq, I_nat, J_add, J_sub, J_mul, J_neg, J_lt, J_le, J_eq, I_l, J_i, I_div, J_div, b2_0, b2_1, b2_nar, nar_0, nar_1, zr_0, zr_1, zr_b2, cmp_eq, cmp_le, cmp_lt, cmp_gt, cmp_ge, mx_I, mn_I, mx_L, mn_L, az_I, if_true, if_false, not_true_eq_false, not_false_eq_true, i_0, i_1, i_2, i_3, i_4, i_5, i_6, i_7, i_8, i_9, i_10, i_11, i_12, i_16, i_18, i_20, i_24, i_28, i_29, i_30, i_31, i_32, i_33, i_34, i_35, i_37, i_40, i_41, i_42, i_43, i_45, i_46, i_47, i_48, i_57, i_59, i_63, i_64, i_96, i_97, i_98, i_99, i_100, i_101, i_102, i_103, i_104, i_105, i_106, i_107, i_108, i_109, i_110, i_111, i_112, i_113, i_122, i_200, i_255, i_256, i_257, i_258, i_355, i_400, i_999, i_1000, i_1200, i_5680, i_9999, i_10000, i_99999, j_0, j_1, j_2, j_3, j_4, j_5, j_6, j_9, j_10, j_11, j_98, j_99, j_100, j_999, j_1000, j_9999, j_10000, j_99999, j_1000000, CB_m hB, CB_f hB, CB_co hB, CB_lk hB, CB_tg hB, CB_tc hB, CB_si hB, CB_se hB, hle]
  | succ d ih =>
    intro n i μ h1 h2 h3 hB h28 h27
    obtain ⟨n, rfl⟩ : ∃ m, n = m + 1 := ⟨n - 1, by omega⟩
    have hle : ¬ fN V ≤ i := by omega
    have hF : Fr P_mk μ (stI μ 27 i.toNat (I_ 0)) := Fr.rf.stI (Or.inl rfl)
    obtain ⟨μ', e1, e2, e3⟩ := ih n (i + 1) _ (by omega) (by omega) (by omega) (hB.F hF P_mk_ge) (fun j j0 j1 => by simp (disch := omega) only [st_ne]; exact h28 j j0 j1) (fun j j0 j1 => by
      simp (disch := omega) only [at_I]
      by_cases hj : j = i
      · rw [if_pos hj]
      · rw [if_neg hj]; exact h27 j j0 (by omega))
    refine ⟨μ', ?_, hF.tr e2, e3⟩
    simp (disch := omega) only [fX3_markNegligible_143, Int.reduceEq, Int.reduceNe, Int.reduceLT, Int.reduceLE, Int.reduceAdd, Int.reduceSub, Int.reduceMul, Int.reduceNeg, Int.zero_add, Int.add_zero, nm_eq, bd_some, bv_some, aI_ok, aL_ok, aS_ok, dv_ok, dw_ok, I_add, I_sub, I_mul, I_neg, I_lt, I_le, I_eq, I_nat, J_add, J_sub, J_mul, J_neg, J_lt, J_le, J_eq, I_l, J_i, I_div, J_div, b2_0, b2_1, b2_nar, nar_0, nar_1, zr_0, zr_1, zr_b2, cmp_eq, cmp_le, cmp_lt, cmp_gt, cmp_ge, mx_I, mn_I, mx_L, mn_L, az_I, if_true, if_false, not_true_eq_false, not_false_eq_true, i_0, i_1, i_2, i_3, i_4, i_5, i_6, i_7, i_8, i_9, i_10, i_11, i_12, i_16, i_18, i_20, i_24, i_28, i_29, i_30, i_31, i_32, i_33, i_34, i_35, i_37, i_40, i_41, i_42, i_43, i_45, i_46, i_47, i_48, i_57, i_59, i_63, i_64, i_96, i_97, i_98, i_99, i_100, i_101, i_102, i_103, i_104, i_105, i_106, i_107, i_108, i_109, i_110, i_111, i_112, i_113, i_122, i_200, i_255, i_256, i_257, i_258, i_355, i_400, i_999, i_1000, i_1200, i_5680, i_9999, i_10000, i_99999, j_0, j_1, j_2, j_3, j_4, j_5, j_6, j_9, j_10, j_11, j_98, j_99, j_100, j_999, j_1000, j_9999, j_10000, j_99999, j_1000000, CB_m hB, CB_f hB, CB_co hB, CB_lk hB, CB_tg hB, CB_tc hB, CB_si hB, CB_se hB, hle, e1]
theorem c_mk49 (hV : vB V) (hN : 100 ≤ N) : ∀ (d n : Nat) (i : Int) (μ : Mem), d < n → 0 ≤ i → i + d = fN V → CB b V μ → (∀ j, 0 ≤ j → j < fN V → μ.1 28 j.toNat = I_ (x_mn V j 1)) → (∀ j, 0 ≤ j → j < i → μ.1 27 j.toNat = I_ (b2 (p_sm V j))) → ∃ μ', fX3_markNegligible_49 N n b (I_ (a_ex V)) (I_ (sg i.toNat 0 (g_sm V))) (I_ i) μ = some ((), μ') ∧ Fr P_mk μ μ' ∧ NG V μ' := by
  have hn := hV.1
  unfold vN at hn
  have ha := a_ex_in hV (d := (fN V).toNat) (by omega)
  have ha : 0 ≤ a_ex V ∧ a_ex V ≤ 159840 := ha
  intro d
  induction d with
  | zero =>
    intro n i μ h1 h2 h3 hB h28 h27
    obtain ⟨n, rfl⟩ : ∃ m, n = m + 1 := ⟨n - 1, by omega⟩
    have hle : fN V ≤ i := by omega
    have hi : i = fN V := by omega
    have hs := a_sm_in hV (d := (fN V).toNat) (by omega)
    have es : sg i.toNat 0 (g_sm V) = a_sm V := by rw [hi]; rfl
    have hs : 0 ≤ a_sm V ∧ a_sm V ≤ 159840 := hs
    rw [es]
    by_cases hq : 100 * a_sm V ≤ 7 * a_ex V
    · refine ⟨μ, ?_, Fr.rf, fun j j0 j1 => ⟨h28 j j0 j1, ?_⟩⟩
      · simp (disch := omega) only [fX3_markNegligible_49, fX3_markNegligible_129, Int.reduceEq, Int.reduceNe, Int.reduceLT, Int.reduceLE, Int.reduceAdd, Int.reduceSub, Int.reduceMul, Int.reduceNeg, Int.zero_add, Int.add_zero, nm_eq, bd_some, bv_some, aI_ok, aL_ok, aS_ok, dv_ok, dw_ok, I_add, I_sub, I_mul, I_neg, I_lt, I_le, I_eq, I_nat, J_add, J_sub, J_mul, J_neg, J_lt, J_le, J_eq, I_l, J_i, I_div, J_div, b2_0, b2_1, b2_nar, nar_0, nar_1, zr_0, zr_1, zr_b2, cmp_eq, cmp_le, cmp_lt, cmp_gt, cmp_ge, mx_I, mn_I, mx_L, mn_L, az_I, if_true, if_false, not_true_eq_false, not_false_eq_true, i_0, i_1, i_2, i_3, i_4, i_5, i_6, i_7, i_8, i_9, i_10, i_11, i_12, i_16, i_18, i_20, i_24, i_28, i_29, i_30, i_31, i_32, i_33, i_34, i_35, i_37, i_40, i_41, i_42, i_43, i_45, i_46, i_47, i_48, i_57, i_59, i_63, i_64, i_96, i_97, i_98, i_99, i_100, i_101, i_102, i_103, i_104, i_105, i_106, i_107, i_108, i_109, i_110, i_111, i_112, i_113, i_122, i_200, i_255, i_256, i_257, i_258, i_355, i_400, i_999, i_1000, i_1200, i_5680, i_9999, i_10000, i_99999, j_0, j_1, j_2, j_3, j_4, j_5, j_6, j_9, j_10, j_11, j_98, j_99, j_100, j_999, j_1000, j_9999, j_10000, j_99999, j_1000000, CB_m hB, CB_f hB, CB_co hB, CB_lk hB, CB_tg hB, CB_tc hB, CB_si hB, CB_se hB, hle, hq]
      · rw [h27 j j0 (by omega)]
        by_cases hp : p_sm V j
        · rw [b2_t hp, b2_t ⟨hp, hq⟩]
        · rw [b2_f hp, b2_f (fun q => hp q.1)]
    · obtain ⟨μ', e1, e2, e3, e4⟩ := c_mk143 (N := N) hV (fN V).toNat N 0 μ (by omega) (by omega) (by omega) hB h28 (fun j a c => by omega)
      refine ⟨μ', ?_, e2, fun j j0 j1 => ⟨e3 j j0 j1, ?_⟩⟩
      · simp (disch := omega) only [fX3_markNegligible_49, fX3_markNegligible_129, Int.reduceEq, Int.reduceNe, Int.reduceLT, Int.reduceLE, Int.reduceAdd, Int.reduceSub, Int.reduceMul, Int.reduceNeg, Int.zero_add, Int.add_zero, nm_eq, bd_some, bv_some, aI_ok, aL_ok, aS_ok, dv_ok, dw_ok, I_add, I_sub, I_mul, I_neg, I_lt, I_le, I_eq, I_nat, J_add, J_sub, J_mul, J_neg, J_lt, J_le, J_eq, I_l, J_i, I_div, J_div, b2_0, b2_1, b2_nar, nar_0, nar_1, zr_0, zr_1, zr_b2, cmp_eq, cmp_le, cmp_lt, cmp_gt, cmp_ge, mx_I, mn_I, mx_L, mn_L, az_I, if_true, if_false, not_true_eq_false, not_false_eq_true, i_0, i_1, i_2, i_3, i_4, i_5, i_6, i_7, i_8, i_9, i_10, i_11, i_12, i_16, i_18, i_20, i_24, i_28, i_29, i_30, i_31, i_32, i_33, i_34, i_35, i_37, i_40, i_41, i_42, i_43, i_45, i_46, i_47, i_48, i_57, i_59, i_63, i_64, i_96, i_97, i_98, i_99, i_100, i_101, i_102, i_103, i_104, i_105, i_106, i_107, i_108, i_109, i_110, i_111, i_112, i_113, i_122, i_200, i_255, i_256, i_257, i_258, i_355, i_400, i_999, i_1000, i_1200, i_5680, i_9999, i_10000, i_99999, j_0, j_1, j_2, j_3, j_4, j_5, j_6, j_9, j_10, j_11, j_98, j_99, j_100, j_999, j_1000, j_9999, j_10000, j_99999, j_1000000, CB_m hB, CB_f hB, CB_co hB, CB_lk hB, CB_tg hB, CB_tc hB, CB_si hB, CB_se hB, hle, hq, e1]
      · rw [e4 j j0 j1, b2_f (fun q => hq q.2)]
  | succ d ih =>
    intro n i μ h1 h2 h3 hB h28 h27
    obtain ⟨n, rfl⟩ : ∃ m, n = m + 1 := ⟨n - 1, by omega⟩
    have hle : ¬ fN V ≤ i := by omega
    have r28 := h28 i h2 (by omega)
    have hx := x_mn_in hV i 1
    have step : ∀ w : Int, w = b2 (p_sm V i) → ∃ μ', fX3_markNegligible_49 N n b (I_ (a_ex V)) (I_ (sg i.toNat 0 (g_sm V) + g_sm V i)) (I_ (i + 1)) (stI μ 27 i.toNat (I_ w)) = some ((), μ') ∧ Fr P_mk μ μ' ∧ NG V μ' := fun w hw => by
      have hF : Fr P_mk μ (stI μ 27 i.toNat (I_ w)) := Fr.rf.stI (Or.inl rfl)
      obtain ⟨μ', e1, e2, e3⟩ := ih n (i + 1) (stI μ 27 i.toNat (I_ w)) (by omega) (by omega) (by omega) (hB.F hF P_mk_ge) (fun j j0 j1 => by simp (disch := omega) only [st_ne]; exact h28 j j0 j1) (fun j j0 j1 => by
        simp (disch := omega) only [at_I]
        by_cases hj : j = i
        · rw [if_pos hj, hw, hj]
        · rw [if_neg hj]; exact h27 j j0 (by omega))
      rw [sg_step h2] at e1
      exact ⟨μ', e1, hF.tr e2, e3⟩
    by_cases hz : x_mn V i 1 ≤ 0
    · have hp : ¬ p_sm V i := fun q => by have := q.1; omega
      obtain ⟨μ', e1, e2, e3⟩ := step 0 (b2_f hp).symm
      have eg : g_sm V i = 0 := by unfold g_sm; rw [if_neg hp]
      rw [eg] at e1
      refine ⟨μ', ?_, e2, e3⟩
      rw [Int.add_zero] at e1
      simp (disch := omega) only [fX3_markNegligible_49, fX3_markNegligible_98, Int.reduceEq, Int.reduceNe, Int.reduceLT, Int.reduceLE, Int.reduceAdd, Int.reduceSub, Int.reduceMul, Int.reduceNeg, Int.zero_add, Int.add_zero, nm_eq, bd_some, bv_some, aI_ok, aL_ok, aS_ok, dv_ok, dw_ok, I_add, I_sub, I_mul, I_neg, I_lt, I_le, I_eq, I_nat, J_add, J_sub, J_mul, J_neg, J_lt, J_le, J_eq, I_l, J_i, I_div, J_div, b2_0, b2_1, b2_nar, nar_0, nar_1, zr_0, zr_1, zr_b2, cmp_eq, cmp_le, cmp_lt, cmp_gt, cmp_ge, mx_I, mn_I, mx_L, mn_L, az_I, if_true, if_false, not_true_eq_false, not_false_eq_true, i_0, i_1, i_2, i_3, i_4, i_5, i_6, i_7, i_8, i_9, i_10, i_11, i_12, i_16, i_18, i_20, i_24, i_28, i_29, i_30, i_31, i_32, i_33, i_34, i_35, i_37, i_40, i_41, i_42, i_43, i_45, i_46, i_47, i_48, i_57, i_59, i_63, i_64, i_96, i_97, i_98, i_99, i_100, i_101, i_102, i_103, i_104, i_105, i_106, i_107, i_108, i_109, i_110, i_111, i_112, i_113, i_122, i_200, i_255, i_256, i_257, i_258, i_355, i_400, i_999, i_1000, i_1200, i_5680, i_9999, i_10000, i_99999, j_0, j_1, j_2, j_3, j_4, j_5, j_6, j_9, j_10, j_11, j_98, j_99, j_100, j_999, j_1000, j_9999, j_10000, j_99999, j_1000000, CB_m hB, CB_f hB, CB_co hB, CB_lk hB, CB_tg hB, CB_tc hB, CB_si hB, CB_se hB, hle, r28, hz, at_I, e1]
    · by_cases hp : 100 * x_mn V i 1 < 3 * a_ex V
      · have hq : p_sm V i := ⟨by omega, hp⟩
        have hp' : ¬ 3 * a_ex V ≤ 100 * x_mn V i 1 := by omega
        obtain ⟨μ', e1, e2, e3⟩ := step 1 (b2_t hq).symm
        have eg : g_sm V i = x_mn V i 1 := by unfold g_sm; rw [if_pos hq]
        rw [eg] at e1
        refine ⟨μ', ?_, e2, e3⟩
        simp (disch := omega) only [fX3_markNegligible_49, fX3_markNegligible_98, Int.reduceEq, Int.reduceNe, Int.reduceLT, Int.reduceLE, Int.reduceAdd, Int.reduceSub, Int.reduceMul, Int.reduceNeg, Int.zero_add, Int.add_zero, nm_eq, bd_some, bv_some, aI_ok, aL_ok, aS_ok, dv_ok, dw_ok, I_add, I_sub, I_mul, I_neg, I_lt, I_le, I_eq, I_nat, J_add, J_sub, J_mul, J_neg, J_lt, J_le, J_eq, I_l, J_i, I_div, J_div, b2_0, b2_1, b2_nar, nar_0, nar_1, zr_0, zr_1, zr_b2, cmp_eq, cmp_le, cmp_lt, cmp_gt, cmp_ge, mx_I, mn_I, mx_L, mn_L, az_I, if_true, if_false, not_true_eq_false, not_false_eq_true, i_0, i_1, i_2, i_3, i_4, i_5, i_6, i_7, i_8, i_9, i_10, i_11, i_12, i_16, i_18, i_20, i_24, i_28, i_29, i_30, i_31, i_32, i_33, i_34, i_35, i_37, i_40, i_41, i_42, i_43, i_45, i_46, i_47, i_48, i_57, i_59, i_63, i_64, i_96, i_97, i_98, i_99, i_100, i_101, i_102, i_103, i_104, i_105, i_106, i_107, i_108, i_109, i_110, i_111, i_112, i_113, i_122, i_200, i_255, i_256, i_257, i_258, i_355, i_400, i_999, i_1000, i_1200, i_5680, i_9999, i_10000, i_99999, j_0, j_1, j_2, j_3, j_4, j_5, j_6, j_9, j_10, j_11, j_98, j_99, j_100, j_999, j_1000, j_9999, j_10000, j_99999, j_1000000, CB_m hB, CB_f hB, CB_co hB, CB_lk hB, CB_tg hB, CB_tc hB, CB_si hB, CB_se hB, hle, r28, hz, hp', at_I, st_ne, e1]
      · have hq : ¬ p_sm V i := fun q => hp q.2
        have hp' : 3 * a_ex V ≤ 100 * x_mn V i 1 := by omega
        obtain ⟨μ', e1, e2, e3⟩ := step 0 (b2_f hq).symm
        have eg : g_sm V i = 0 := by unfold g_sm; rw [if_neg hq]
        rw [eg, Int.add_zero] at e1
        refine ⟨μ', ?_, e2, e3⟩
        simp (disch := omega) only [fX3_markNegligible_49, fX3_markNegligible_98, Int.reduceEq, Int.reduceNe, Int.reduceLT, Int.reduceLE, Int.reduceAdd, Int.reduceSub, Int.reduceMul, Int.reduceNeg, Int.zero_add, Int.add_zero, nm_eq, bd_some, bv_some, aI_ok, aL_ok, aS_ok, dv_ok, dw_ok, I_add, I_sub, I_mul, I_neg, I_lt, I_le, I_eq, I_nat, J_add, J_sub, J_mul, J_neg, J_lt, J_le, J_eq, I_l, J_i, I_div, J_div, b2_0, b2_1, b2_nar, nar_0, nar_1, zr_0, zr_1, zr_b2, cmp_eq, cmp_le, cmp_lt, cmp_gt, cmp_ge, mx_I, mn_I, mx_L, mn_L, az_I, if_true, if_false, not_true_eq_false, not_false_eq_true, i_0, i_1, i_2, i_3, i_4, i_5, i_6, i_7, i_8, i_9, i_10, i_11, i_12, i_16, i_18, i_20, i_24, i_28, i_29, i_30, i_31, i_32, i_33, i_34, i_35, i_37, i_40, i_41, i_42, i_43, i_45, i_46, i_47, i_48, i_57, i_59, i_63, i_64, i_96, i_97, i_98, i_99, i_100, i_101, i_102, i_103, i_104, i_105, i_106, i_107, i_108, i_109, i_110, i_111, i_112, i_113, i_122, i_200, i_255, i_256, i_257, i_258, i_355, i_400, i_999, i_1000, i_1200, i_5680, i_9999, i_10000, i_99999, j_0, j_1, j_2, j_3, j_4, j_5, j_6, j_9, j_10, j_11, j_98, j_99, j_100, j_999, j_1000, j_9999, j_10000, j_99999, j_1000000, CB_m hB, CB_f hB, CB_co hB, CB_lk hB, CB_tg hB, CB_tc hB, CB_si hB, CB_se hB, hle, r28, hz, hp', at_I, e1]
theorem c_mk4 (hV : vB V) (hN : 100 ≤ N) : ∀ (d n : Nat) (i : Int) (μ : Mem), d < n → 0 ≤ i → i + d = fN V → CB b V μ → (∀ j, 0 ≤ j → j < i → μ.1 28 j.toNat = I_ (x_mn V j 1)) → ∃ μ', fX3_markNegligible_4 N n b (I_ (sg i.toNat 0 (fun f => x_mn V f 1))) (I_ i) μ = some ((), μ') ∧ Fr P_mk μ μ' ∧ NG V μ' := by
  have hn := hV.1
  unfold vN at hn
  intro d
  induction d with
  | zero =>
    intro n i μ h1 h2 h3 hB h28
    obtain ⟨n, rfl⟩ : ∃ m, n = m + 1 := ⟨n - 1, by omega⟩
    have hle : fN V ≤ i := by omega
    have hi : i = fN V := by omega
    subst hi
    obtain ⟨μ', e1, e2, e3⟩ := c_mk49 (N := N) hV hN (fN V).toNat N 0 μ (by omega) (by omega) (by omega) hB h28 (fun j a c => by omega)
    have e1 : fX3_markNegligible_49 N N b (I_ (sg (fN V).toNat 0 (fun f => x_mn V f 1))) (I_ 0) (I_ 0) μ = some ((), μ') := e1
    refine ⟨μ', ?_, e2, e3⟩
    simp (disch := omega) only [fX3_markNegligible_4, fX3_markNegligible_44, Int.reduceEq, Int.reduceNe, Int.reduceLT, Int.reduceLE, Int.reduceAdd, Int.reduceSub, Int.reduceMul, Int.reduceNeg, Int.zero_add, Int.add_zero, nm_eq, bd_some, bv_some, aI_ok, aL_ok, aS_ok, dv_ok, dw_ok, I_add, I_sub, I_mul, I_neg, I_lt, I_le, I_eq, I_nat, J_add, J_sub, J_mul, J_neg, J_lt, J_le, J_eq, I_l, J_i, I_div, J_div, b2_0, b2_1, b2_nar, nar_0, nar_1, zr_0, zr_1, zr_b2, cmp_eq, cmp_le, cmp_lt, cmp_gt, cmp_ge, mx_I, mn_I, mx_L, mn_L, az_I, if_true, if_false, not_true_eq_false, not_false_eq_true, i_0, i_1, i_2, i_3, i_4, i_5, i_6, i_7, i_8, i_9, i_10, i_11, i_12, i_16, i_18, i_20, i_24, i_28, i_29, i_30, i_31, i_32, i_33, i_34, i_35, i_37, i_40, i_41, i_42, i_43, i_45, i_46, i_47, i_48, i_57, i_59, i_63, i_64, i_96, i_97, i_98, i_99, i_100, i_101, i_102, i_103, i_104, i_105, i_106, i_107, i_108, i_109, i_110, i_111, i_112, i_113, i_122, i_200, i_255, i_256, i_257, i_258, i_355, i_400, i_999, i_1000, i_1200, i_5680, i_9999, i_10000, i_99999, j_0, j_1, j_2, j_3, j_4, j_5, j_6, j_9, j_10, j_11, j_98, j_99, j_100, j_999, j_1000, j_9999, j_10000, j_99999, j_1000000, CB_m hB, CB_f hB, CB_co hB, CB_lk hB, CB_tg hB, CB_tc hB, CB_si hB, CB_se hB, hle, e1]
  | succ d ih =>
    intro n i μ h1 h2 h3 hB h28
    obtain ⟨n, rfl⟩ : ∃ m, n = m + 1 := ⟨n - 1, by omega⟩
    have hle : ¬ fN V ≤ i := by omega
    have hF : Fr P_mk μ (stI μ 28 i.toNat (I_ (x_mn V i 1))) := Fr.rf.stI (Or.inr rfl)
    obtain ⟨μ', e1, e2, e3⟩ := ih n (i + 1) _ (by omega) (by omega) (by omega) (hB.F hF P_mk_ge) (fun j j0 j1 => by
      simp (disch := omega) only [at_I]
      by_cases hj : j = i
      · rw [if_pos hj, hj]
      · rw [if_neg hj]; exact h28 j j0 (by omega))
    rw [sg_step h2] at e1
    refine ⟨μ', ?_, hF.tr e2, e3⟩
    simp (disch := omega) only [fX3_markNegligible_4, Int.reduceEq, Int.reduceNe, Int.reduceLT, Int.reduceLE, Int.reduceAdd, Int.reduceSub, Int.reduceMul, Int.reduceNeg, Int.zero_add, Int.add_zero, nm_eq, bd_some, bv_some, aI_ok, aL_ok, aS_ok, dv_ok, dw_ok, I_add, I_sub, I_mul, I_neg, I_lt, I_le, I_eq, I_nat, J_add, J_sub, J_mul, J_neg, J_lt, J_le, J_eq, I_l, J_i, I_div, J_div, b2_0, b2_1, b2_nar, nar_0, nar_1, zr_0, zr_1, zr_b2, cmp_eq, cmp_le, cmp_lt, cmp_gt, cmp_ge, mx_I, mn_I, mx_L, mn_L, az_I, if_true, if_false, not_true_eq_false, not_false_eq_true, i_0, i_1, i_2, i_3, i_4, i_5, i_6, i_7, i_8, i_9, i_10, i_11, i_12, i_16, i_18, i_20, i_24, i_28, i_29, i_30, i_31, i_32, i_33, i_34, i_35, i_37, i_40, i_41, i_42, i_43, i_45, i_46, i_47, i_48, i_57, i_59, i_63, i_64, i_96, i_97, i_98, i_99, i_100, i_101, i_102, i_103, i_104, i_105, i_106, i_107, i_108, i_109, i_110, i_111, i_112, i_113, i_122, i_200, i_255, i_256, i_257, i_258, i_355, i_400, i_999, i_1000, i_1200, i_5680, i_9999, i_10000, i_99999, j_0, j_1, j_2, j_3, j_4, j_5, j_6, j_9, j_10, j_11, j_98, j_99, j_100, j_999, j_1000, j_9999, j_10000, j_99999, j_1000000, CB_m hB, CB_f hB, CB_co hB, CB_lk hB, CB_tg hB, CB_tc hB, CB_si hB, CB_se hB, hle, c_exMany hV hB.2.1 hN, at_I, e1]
theorem c_mk (hV : vB V) (hN : 100 ≤ N) {μ : Mem} (hB : CB b V μ) : ∃ μ', fX3_markNegligible N b μ = some ((), μ') ∧ Fr P_mk μ μ' ∧ NG V μ' := by
  have hn := hV.1
  unfold vN at hn
  obtain ⟨μ', e1, e2, e3⟩ := c_mk4 (N := N) hV hN (fN V).toNat N 0 μ (by omega) (by omega) (by omega) hB (fun j a c => by omega)
  have e1 : fX3_markNegligible_4 N N b (I_ 0) (I_ 0) μ = some ((), μ') := e1
  refine ⟨μ', ?_, e2, e3⟩
  unfold fX3_markNegligible
  rw [if_pos hB.1]
  simp (disch := omega) only [Int.reduceEq, Int.reduceNe, Int.reduceLT, Int.reduceLE, Int.reduceAdd, Int.reduceSub, Int.reduceMul, Int.reduceNeg, Int.zero_add, Int.add_zero, nm_eq, bd_some, bv_some, aI_ok, aL_ok, aS_ok, dv_ok, dw_ok, I_add, I_sub, I_mul, I_neg, I_lt, I_le, I_eq, I_nat, J_add, J_sub, J_mul, J_neg, J_lt, J_le, J_eq, I_l, J_i, I_div, J_div, b2_0, b2_1, b2_nar, nar_0, nar_1, zr_0, zr_1, zr_b2, cmp_eq, cmp_le, cmp_lt, cmp_gt, cmp_ge, mx_I, mn_I, mx_L, mn_L, az_I, if_true, if_false, not_true_eq_false, not_false_eq_true, i_0, i_1, i_2, i_3, i_4, i_5, i_6, i_7, i_8, i_9, i_10, i_11, i_12, i_16, i_18, i_20, i_24, i_28, i_29, i_30, i_31, i_32, i_33, i_34, i_35, i_37, i_40, i_41, i_42, i_43, i_45, i_46, i_47, i_48, i_57, i_59, i_63, i_64, i_96, i_97, i_98, i_99, i_100, i_101, i_102, i_103, i_104, i_105, i_106, i_107, i_108, i_109, i_110, i_111, i_112, i_113, i_122, i_200, i_255, i_256, i_257, i_258, i_355, i_400, i_999, i_1000, i_1200, i_5680, i_9999, i_10000, i_99999, j_0, j_1, j_2, j_3, j_4, j_5, j_6, j_9, j_10, j_11, j_98, j_99, j_100, j_999, j_1000, j_9999, j_10000, j_99999, j_1000000, e1]
end
