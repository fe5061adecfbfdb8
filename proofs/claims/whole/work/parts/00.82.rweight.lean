/-! weight of the reference: a sale that doesn't count for a while. -/
def P_ro (k j : Nat) : Prop := P_rb k j ∧ ¬ (k = 1 ∧ 35 ≤ j ∧ (j - 35) % 8 = 7)
/-- what a sale takes off doesn't hang on which sales count -/
def RS (N : Nat) (V : Vw) (ν : Mem) : Prop := ∀ z, 0 ≤ z → z < sN V → ∀ ν' : Mem, (∀ k j, P_ro k j → ν'.1 k j = ν.1 k j) → ∃ ν'', fX11_offOf N (I_ z) ν' = some (I_ (s_of V z), ν'') ∧ Fr P_sk ν' ν''
def RKs (N : Nat) (V : Vw) (ν : Mem) : Prop := RB V ν ∧ RS N V ν ∧ LF V ν
def x_wt (V : Vw) (i : Int) : Int := x_ma (v_no V i) (s_fm V i) (s_se V 0) 0 (s_se V 1 = 1) - x_ma V (s_fm V i) (s_se V 0) 0 (s_se V 1 = 1)
abbrev liM (ν : Mem) (i v : Int) : Mem := stI (stI ν 1 (35 + 8 * i + 7).toNat (I_ v)) 0 30 (I_ 0)
section
variable {N : Nat} {V : Vw} {ν : Mem} {f t i v : Int}
theorem RS.O (h : RS N V ν) : RO N V ν := fun z a c ν' g => h z a c ν' (fun k j hk => g k j hk.1)
theorem RKs.K (h : RKs N V ν) : RKd N V ν := ⟨h.1, h.2.1.O, h.2.2⟩
theorem RS.fr {ν' : Mem} (h : RS N V ν) (g : ∀ k j, P_ro k j → ν'.1 k j = ν.1 k j) : RS N V ν' := fun z a c ν2 g2 => h z a c ν2 (fun k j hk => (g2 k j hk).trans (g k j hk))
theorem RS.F {P : Nat → Nat → Prop} {ν' : Mem} (h : RS N V ν) (g : Fr P ν ν') (hp : ∀ k j, P_rb k j → ¬ P k j) : RS N V ν' := h.fr (fun k j hk => (g k j (hp k j hk.1)).1)
theorem RKs.F {ν' : Mem} (h : RKs N V ν) (g : Fr P_rq ν ν') (k : RKd N V ν') : RKs N V ν' := ⟨k.1, h.2.1.F g P_rq_rb, k.2.2⟩
theorem liM_o (h0 : 0 ≤ i) (k j : Nat) (hk : P_ro k j) : (liM ν i v).1 k j = ν.1 k j := by
  unfold P_ro P_rb at hk
  rw [st_I, if_neg (by omega), st_I, if_neg (by omega)]
theorem RB_li2 (hR : RB V ν) (h0 : 0 ≤ i) (h1 : i < sN V) : RB (vset V 10 i v) (liM ν i v) := by
  obtain ⟨q1, q2, q3, q4, q5, q6, q7, q8⟩ := hR
  have e : ∀ j : Int, 0 ≤ j → j ≠ 35 + 8 * i + 7 → (liM ν i v).1 1 j.toNat = ν.1 1 j.toNat := fun j j0 j1 => by
    rw [st_I, if_neg (by omega), st_I, if_neg (by omega)]
  refine ⟨?_, ?_, ?_, ?_, ?_, ?_, ?_, ?_⟩
  · rw [st_I, if_neg (by omega), st_I, if_neg (by omega)]; exact q1
  · rw [st_I, if_neg (by omega), st_I, if_neg (by omega)]; exact q2
  · rw [e _ (by omega) (by omega)]; exact q3
  · intro z a c
    obtain ⟨w1, w2, w3, w4, w5, w6, w7, w8⟩ := q4 z a c
    refine ⟨?_, ?_, ?_, ?_, ?_, ?_, ?_, ?_⟩
    · rw [e _ (by omega) (by omega)]; exact w1
    · rw [e _ (by omega) (by omega)]; exact w2
    · rw [e _ (by omega) (by omega)]; exact w3
    · rw [e _ (by omega) (by omega)]; exact w4
    · rw [e _ (by omega) (by omega)]; exact w5
    · rw [e _ (by omega) (by omega)]; exact w6
    · rw [e _ (by omega) (by omega)]; exact w7
    · show _ = I_ (vset V 10 i v 10 z)
      rw [vset_at]
      by_cases hz : z = i
      · rw [if_pos hz, st_I, if_neg (by omega), st_I, if_pos ⟨rfl, by rw [hz]⟩]
      · rw [if_neg hz, e _ (by omega) (by omega)]; exact w8
  · intro p a c
    rw [e _ (by omega) (by omega)]; exact q5 p a c
  · intro p a c
    rw [e _ (by omega) (by omega)]; exact q6 p a c
  · intro p a c
    rw [e _ (by omega) (by omega)]; exact q7 p a c
  · intro p a c
    simp (disch := omega) only [st_ne]; exact q8 p a c
theorem RKs.li (hK : RKs N V ν) (h0 : 0 ≤ i) (h1 : i < sN V) : RKs N (vset V 10 i v) (liM ν i v) := ⟨RB_li2 hK.1 h0 h1, fun z a c ν' g => hK.2.1 z a c ν' (fun k j hk => (g k j hk).trans (liM_o h0 k j hk)), Or.inl at_S⟩
theorem vset_back (hl : s_li V i = 1) : vset (v_no V i) 10 i 1 = V := by
  funext a c
  unfold vset
  by_cases h : a = 10 ∧ c = i
  · rw [if_pos h, h.1, h.2]
    exact hl.symm
  · rw [if_neg h]
    show vset V 10 i 0 a c = V a c
    unfold vset
    rw [if_neg h]
theorem r_wt (hV : vB V) (hW : vO V) (hN : 100 ≤ N) (h0 : 0 ≤ i) (h1 : i < sN V) (hl : s_li V i = 1) (hK : RKs N V ν) : ∃ ν', fX11_weightOf N (I_ i) ν = some (I_ (x_wt V i), ν') ∧ Fr P_rq ν ν' ∧ RKs N V ν' := by
  have hn := hV.1
  unfold vN at hn
  have hv := hV.2.1 i h0 h1
  unfold vS at hv
  have se0 : ∀ {ν : Mem}, RB V ν → ν.1 1 (28 : Int).toNat = I_ (s_se V 0) := fun h => RB_se h (k := 0) (by omega) (by omega)
  obtain ⟨ν1, a1, a2, a3⟩ := r_own (N := N) (f := s_fm V i) (t := s_se V 0) (Z := (s_se V 1 = 1)) hV hW hN (by omega) (by omega) (by omega) (by omega) hK.K
  have hK1 := hK.F a2 a3
  have hK2 : RKs N (v_no V i) (liM ν1 i 0) := hK1.li h0 h1
  have hVn := v_no_B hV i
  have hWn : vO (v_no V i) := hW
  have se0' : (liM ν1 i 0).1 1 (28 : Int).toNat = I_ (s_se V 0) := RB_se hK2.1 (k := 0) (by omega) (by omega)
  have z2 : fX11_isZeroing N (liM ν1 i 0) = some (I_ (b2 (s_se V 1 = 1)), liM ν1 i 0) := r_isZ (V := v_no V i) hVn hK2.1
  obtain ⟨ν3, c1, c2, c3⟩ := r_own (N := N) (V := v_no V i) (f := s_fm V i) (t := s_se V 0) (Z := (s_se V 1 = 1)) hVn hWn hN (by omega) (by omega) (by omega) (by omega) hK2.K
  have hK3 := hK2.F c2 c3
  have hK4 : RKs N V (liM ν3 i 1) := by
    have := hK3.li (i := i) (v := 1) h0 h1
    rw [vset_back hl] at this
    exact this
  have b1 := x_ma_in (V := V) (f := s_fm V i) (t := s_se V 0) (r := 0) (Z := (s_se V 1 = 1))
  have b3 := x_ma_in (V := v_no V i) (f := s_fm V i) (t := s_se V 0) (r := 0) (Z := (s_se V 1 = 1))
  refine ⟨liM ν3 i 1, ?_, ?_, hK4⟩
  · unfold x_wt
    simp (disch := omega) only [fX11_weightOf, Int.reduceEq, Int.reduceNe, Int.reduceLT, Int.reduceLE, Int.reduceAdd, Int.reduceSub, Int.reduceMul, Int.reduceNeg, Int.zero_add, Int.add_zero, nm_eq, bd_some, bv_some, aI_ok, aL_ok, aS_ok, dv_ok, dw_ok, I_add, I_sub, I_mul, I_neg, I_lt, I_le, I_eq, I_nat, J_add, J_sub, J_mul, J_neg, J_lt, J_le, J_eq, I_l, J_i, I_div, J_div, b2_0, b2_1, b2_nar, nar_0, nar_1, zr_0, zr_1, zr_b2, cmp_eq, cmp_le, cmp_lt, cmp_gt, cmp_ge, mx_I, mn_I, mx_L, mn_L, az_I, if_true, if_false, not_true_eq_false, not_false_eq_true, i_0, i_1, i_2, i_3, i_4, i_5, i_6, i_7, i_8, i_9, i_10, i_11, i_12, i_16, i_18, i_20, i_24, i_28, i_29, i_30, i_31, i_32, i_33, i_34, i_35, i_37, i_40, i_41, i_42, i_43, i_45, i_46, i_47, i_48, i_57, i_59, i_63, i_64, i_96, i_97, i_98, i_99, i_100, i_101, i_102, i_103, i_104, i_105, i_106, i_107, i_108, i_109, i_110, i_111, i_112, i_113, i_122, i_200, i_255, i_256, i_257, i_258, i_355, i_400, i_999, i_1000, i_1200, i_5680, i_9999, i_10000, i_99999, j_0, j_1, j_2, j_3, j_4, j_5, j_6, j_9, j_10, j_11, j_98, j_99, j_100, j_999, j_1000, j_9999, j_10000, j_99999, j_1000000, r_of1 hV hK.1, se0 hK.1, r_isZ hV hK.1, a1, se0', z2, c1]
  · intro k j hk
    have g1 := a2 k j hk
    have g3 := c2 k j hk
    have n0 : ¬ (k = 0 ∧ j = 30) := fun q => hk (by unfold P_rq; omega)
    by_cases hc : k = 1 ∧ j = (35 + 8 * i + 7).toNat
    · refine ⟨?_, g3.2.1.trans g1.2.1, g3.2.2.trans g1.2.2⟩
      rw [st_I, if_neg n0, st_I, if_pos hc, hc.1, hc.2, RB_li hK.1 h0 h1, hl]
    · refine ⟨?_, g3.2.1.trans g1.2.1, g3.2.2.trans g1.2.2⟩
      have g3' : ν3.1 k j = ν1.1 k j := by
        rw [g3.1, st_I, if_neg n0, st_I, if_neg hc]
      rw [st_I, if_neg n0, st_I, if_neg hc, g3', g1.1]
end
