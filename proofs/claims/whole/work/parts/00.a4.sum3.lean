/-! The reference's loop over a sum, held against the class's descent. -/
abbrev Lp (N m : Nat) (due : Int) (ν : Mem) : Option (Unit × Mem) := fX11_sumHere_9 N m (I_ due) (I_ 1) ν
def OkR (T : Int → Int) (n : Int) (N : Nat) (ad s due : Int) (ν : Mem) (s' : Int) (K W : List Int) (d : Int) : Prop := ∃ (ν' : Mem) (j : Nat), (j : Int) ≤ s' - s ∧ (∀ m, Lp N (m + j) due ν = Lp N m 0 ν') ∧ RSt T n ad s' (-1) K W d ν' ∧ Fr (P_rs ad) ν ν'
def BadR (T : Int → Int) (n : Int) (N : Nat) (ad s due : Int) (ν : Mem) (s' f' : Int) : Prop := ∃ ν' : Mem, (∀ m : Nat, n - s + 5 ≤ m → Lp N m due ν = some ((), ν')) ∧ RR T n s' f' ν' ∧ Fr (P_rs ad) ν ν'
def sgo (c o : Int) : Prop := (c = 43 ∧ o = -6) ∨ (c = 45 ∧ o = -7) ∨ (c = 42 ∧ o = -8) ∨ (c = 47 ∧ o = -9)
section
variable {T : Int → Int} {n : Int} {N b : Nat} {μ ν ν1 : Mem} {s s1 s2 f q0 ad d due due1 : Int} {K W : List Int}
theorem OkR.tr {j : Nat} (hj : (j : Int) ≤ s1 - s) (h : ∀ m, Lp N (m + j) due ν = Lp N m due1 ν1) (g : Fr (P_rs ad) ν ν1) (h2 : OkR T n N ad s1 due1 ν1 s2 K W d) : OkR T n N ad s due ν s2 K W d := by
  obtain ⟨ν', j', e1, e2, e3, e4⟩ := h2
  refine ⟨ν', j' + j, by omega, fun m => ?_, e3, g.tr e4⟩
  rw [← Nat.add_assoc, h (m + j'), e2]
theorem BadR.tr {j : Nat} {f' : Int} (hj : (j : Int) ≤ s1 - s) (h : ∀ m, Lp N (m + j) due ν = Lp N m due1 ν1) (g : Fr (P_rs ad) ν ν1) (h2 : BadR T n N ad s1 due1 ν1 s2 f') (s1n : s1 ≤ n) : BadR T n N ad s due ν s2 f' := by
  obtain ⟨ν', e1, e2, e3⟩ := h2
  refine ⟨ν', fun m hm => ?_, e2, g.tr e3⟩
  obtain ⟨m', rfl⟩ : ∃ m', m = m' + j := ⟨m - j, by omega⟩
  rw [h m', e1 m' (by omega)]
theorem it_due (hT : tB T n) (hN : 500 ≤ N) (a0 : 0 ≤ ad) (h : RSt T n ad s (-1) K W d ν) (m : Nat) : Lp N (m + 1) 1 ν = bd (fX11_opensOrAtom N (stI ν 0 16 (I_ s))) fun r μ => fX11_sumHere_9 N m r (I_ 1) μ := by
  obtain ⟨hid, s0, s1, hh, hY, hS⟩ := h.hX hT hN a0
  unfold Lp
  simp (disch := omega) only [fX11_sumHere_9, Int.reduceEq, Int.reduceNe, Int.reduceLT, Int.reduceLE, Int.reduceAdd, Int.reduceSub, Int.reduceMul, Int.reduceNeg, Int.zero_add, Int.add_zero, nm_eq, bd_some, bv_some, aI_ok, aL_ok, aS_ok, dv_ok, dw_ok, I_add, I_sub, I_mul, I_neg, I_lt, I_le, I_eq, I_nat, J_add, J_sub, J_mul, J_neg, J_lt, J_le, J_eq, I_l, J_i, I_div, J_div, b2_0, b2_1, b2_nar, nar_0, nar_1, zr_0, zr_1, zr_b2, cmp_eq, cmp_le, cmp_lt, cmp_gt, cmp_ge, mx_I, mn_I, mx_L, mn_L, az_I, if_true, if_false, not_true_eq_false, not_false_eq_true, Bool.false_eq_true, i_0, i_1, i_2, i_3, i_4, i_5, i_6, i_7, i_8, i_9, i_10, i_11, i_12, i_16, i_18, i_20, i_24, i_28, i_29, i_30, i_31, i_32, i_33, i_34, i_35, i_37, i_40, i_41, i_42, i_43, i_45, i_46, i_47, i_48, i_57, i_59, i_63, i_64, i_96, i_97, i_98, i_99, i_100, i_101, i_102, i_103, i_104, i_105, i_106, i_107, i_108, i_109, i_110, i_111, i_112, i_113, i_122, i_200, i_255, i_256, i_257, i_258, i_355, i_400, i_999, i_1000, i_1200, i_5680, i_9999, i_10000, i_99999, j_0, j_1, j_2, j_3, j_4, j_5, j_6, j_9, j_10, j_11, j_98, j_99, j_100, j_999, j_1000, j_9999, j_10000, j_99999, j_1000000, h.1.wq, hh]
theorem it_wrong (hN : 500 ≤ N) (a0 : 0 ≤ ad) (hf : ¬ f = -1) (w4 : W.length ≤ 400) (h : RSt T n ad s f K W d ν) (z : Int) : ∃ ν', (∀ m, Lp N (m + 1) z ν = some ((), ν')) ∧ RR T n s f ν' ∧ Fr (P_rs ad) ν ν' := by
  obtain ⟨ν', e1, e2, e3⟩ := r_settlesf (N := N) (l := 1) hf a0 hN (by omega) (by omega) w4 h
  refine ⟨ν', fun m => ?_, e2, e3⟩
  unfold Lp
  simp (disch := omega) only [fX11_sumHere_9, fX11_sumHere_130, Int.reduceEq, Int.reduceNe, Int.reduceLT, Int.reduceLE, Int.reduceAdd, Int.reduceSub, Int.reduceMul, Int.reduceNeg, Int.zero_add, Int.add_zero, nm_eq, bd_some, bv_some, aI_ok, aL_ok, aS_ok, dv_ok, dw_ok, I_add, I_sub, I_mul, I_neg, I_lt, I_le, I_eq, I_nat, J_add, J_sub, J_mul, J_neg, J_lt, J_le, J_eq, I_l, J_i, I_div, J_div, b2_0, b2_1, b2_nar, nar_0, nar_1, zr_0, zr_1, zr_b2, cmp_eq, cmp_le, cmp_lt, cmp_gt, cmp_ge, mx_I, mn_I, mx_L, mn_L, az_I, if_true, if_false, not_true_eq_false, not_false_eq_true, Bool.false_eq_true, i_0, i_1, i_2, i_3, i_4, i_5, i_6, i_7, i_8, i_9, i_10, i_11, i_12, i_16, i_18, i_20, i_24, i_28, i_29, i_30, i_31, i_32, i_33, i_34, i_35, i_37, i_40, i_41, i_42, i_43, i_45, i_46, i_47, i_48, i_57, i_59, i_63, i_64, i_96, i_97, i_98, i_99, i_100, i_101, i_102, i_103, i_104, i_105, i_106, i_107, i_108, i_109, i_110, i_111, i_112, i_113, i_122, i_200, i_255, i_256, i_257, i_258, i_355, i_400, i_999, i_1000, i_1200, i_5680, i_9999, i_10000, i_99999, j_0, j_1, j_2, j_3, j_4, j_5, j_6, j_9, j_10, j_11, j_98, j_99, j_100, j_999, j_1000, j_9999, j_10000, j_99999, j_1000000, h.1.wq, hf, e1]
theorem sgo_in {c o : Int} (h : sgo c o) : isO o ∧ (0 ≤ c ∧ c ≤ 127) ∧ ¬ (97 ≤ c ∧ c ≤ 122) ∧ ¬ (48 ≤ c ∧ c ≤ 57) := by
  unfold sgo at h
  unfold isO
  omega
theorem it_sign (hT : tB T n) (hN : 500 ≤ N) (a0 : 0 ≤ ad) (a2 : ad ≤ 2) {c o : Int} (hc : sgo c o) (hk : kd T n s = c) {p : List Int} (hp : ∀ x ∈ p, isO x ∧ bnd o ≤ bnd x) (hW : ∀ w W', W = w :: W' → bnd w < bnd o) (hz : 0 ≤ q0) (hl : q0 + K.length + (p ++ W).length ≤ s) (h : RSt T n ad s (-1) K (p ++ W) d ν) : ∃ ν1, (∀ m, Lp N (m + 1) 0 ν = Lp N m 1 ν1) ∧ RSt T n ad (nx T n s) (-1) (K ++ p) (o :: W) d ν1 ∧ Fr (P_rs ad) ν ν1 := by
  obtain ⟨hid, s0, s1, hh, hY, hS⟩ := h.hX hT hN a0
  obtain ⟨o1, c1, c2, c3⟩ := sgo_in hc
  have n1 := hT.2.1
  obtain ⟨k1, k2⟩ := kd_c (s := s) hT c1.1 c1.2 c2 c3
  have k3 := k2 hk
  have hln : (p ++ W).length = p.length + W.length := List.length_append
  have ob : 1 ≤ bnd o ∧ bnd o ≤ 2 := by unfold sgo at hc; unfold bnd; (repeat' split) <;> omega
  obtain ⟨ν2, e1, e2, e3⟩ := r_settles (N := N) a0 a2 hN ob.1 ob.2 hW (by omega) (by omega) hp hS
  have hX2 : RX T n s (-1) ν2 := hY.F e3 (fun k j q => by unfold P_re at q; omega)
  obtain ⟨ν3, p1, p2, p3⟩ := r_push (N := N) (z0 := nx T n s) hT a0 e2 hX2 (by unfold nx; rw [k3.2]) k3.1 (by omega) (c := o) (Or.inr o1)
  refine ⟨ν3, fun m => ?_, p2, Fr.tr (Fr.tr (Fr.rf.stI (Or.inl ⟨rfl, by omega⟩)) (e3.mono (fun k j q => re_rs q))) p3⟩
  have hsg : ∀ ν : Mem, fX11_signOf N (I_ c) ν = some (I_ (wW o), ν) := fun ν => by
    unfold sgo at hc
    rcases hc with ⟨x, y⟩ | ⟨x, y⟩ | ⟨x, y⟩ | ⟨x, y⟩ <;> (subst x; subst y; rfl)
  have ww : ¬ wW o = -1 ∧ 2 ≤ wW o ∧ wW o ≤ 5 := by unfold sgo at hc; unfold wW; rw [if_neg (by omega)]; omega
  have hbc : hb T n s = c := k1.mpr hk
  rw [hbc] at hh
  have bi := fun ν => r_binds (N := N) (ν := ν) (c := o) (Or.inr o1)
  unfold Lp
  simp (disch := omega) only [fX11_sumHere_9, Int.reduceEq, Int.reduceNe, Int.reduceLT, Int.reduceLE, Int.reduceAdd, Int.reduceSub, Int.reduceMul, Int.reduceNeg, Int.zero_add, Int.add_zero, nm_eq, bd_some, bv_some, aI_ok, aL_ok, aS_ok, dv_ok, dw_ok, I_add, I_sub, I_mul, I_neg, I_lt, I_le, I_eq, I_nat, J_add, J_sub, J_mul, J_neg, J_lt, J_le, J_eq, I_l, J_i, I_div, J_div, b2_0, b2_1, b2_nar, nar_0, nar_1, zr_0, zr_1, zr_b2, cmp_eq, cmp_le, cmp_lt, cmp_gt, cmp_ge, mx_I, mn_I, mx_L, mn_L, az_I, if_true, if_false, not_true_eq_false, not_false_eq_true, Bool.false_eq_true, i_0, i_1, i_2, i_3, i_4, i_5, i_6, i_7, i_8, i_9, i_10, i_11, i_12, i_16, i_18, i_20, i_24, i_28, i_29, i_30, i_31, i_32, i_33, i_34, i_35, i_37, i_40, i_41, i_42, i_43, i_45, i_46, i_47, i_48, i_57, i_59, i_63, i_64, i_96, i_97, i_98, i_99, i_100, i_101, i_102, i_103, i_104, i_105, i_106, i_107, i_108, i_109, i_110, i_111, i_112, i_113, i_122, i_200, i_255, i_256, i_257, i_258, i_355, i_400, i_999, i_1000, i_1200, i_5680, i_9999, i_10000, i_99999, j_0, j_1, j_2, j_3, j_4, j_5, j_6, j_9, j_10, j_11, j_98, j_99, j_100, j_999, j_1000, j_9999, j_10000, j_99999, j_1000000, h.1.wq, hh, hsg, ww, bi, e1, p1]
/-- a bracket opens -/
theorem it_open (hT : tB T n) (hN : 500 ≤ N) (a0 : 0 ≤ ad) (hk : kd T n s = 40) (d0 : 0 ≤ d) (d6 : d < 6) (hz : 0 ≤ q0) (hl : q0 + K.length + W.length ≤ s) (h : RSt T n ad s (-1) K W d ν) : ∃ ν1, (∀ m, Lp N (m + 1) 1 ν = Lp N m 1 ν1) ∧ RSt T n ad (nx T n s) (-1) K (-10 :: W) (d + 1) ν1 ∧ Fr (P_rs ad) ν ν1 := by
  obtain ⟨hid, s0, s1, hh, hY, hS⟩ := h.hX hT hN a0
  have n1 := hT.2.1
  obtain ⟨k1, k2⟩ := kd_c (s := s) (c := 40) hT (by omega) (by omega) (by omega) (by omega)
  have k3 := k2 hk
  have hbc : hb T n s = 40 := k1.mpr hk
  obtain ⟨hid', s0', s1', hh', hY', hS'⟩ := hS.hX hT hN a0
  rw [st_st] at hh' hY' hS'
  have gF : Fr (fun k j => k = 0 ∧ j = 27) (stI ν 0 16 (I_ s)) (stI (stI ν 0 16 (I_ s)) 0 27 (I_ (d + 1))) := Fr.rf.stI ⟨rfl, rfl⟩
  have hS2 : RSt T n ad s (-1) K W (d + 1) (stI (stI ν 0 16 (I_ s)) 0 27 (I_ (d + 1))) := by
    obtain ⟨h1, h2, h3, h4, h5, h6, h7⟩ := hS
    refine ⟨h1.F gF (fun k j q => by omega), ?_, rsg_fr K _ (by omega) (fun j _ _ => ⟨?_, ?_⟩) h3, ?_, at_S, ?_, wsg_fr W (fun j _ => ?_) h7⟩
    · rw [st_ne (by omega)]; exact h2
    · rw [st_ne (by omega)]
    · rw [st_ne (by omega)]
    · rw [(gF 0 26 (by omega)).1]; exact h4
    · rw [(gF 0 29 (by omega)).1]; exact h6
    · rw [st_ne (by omega)]
  have hX2 : RX T n s (-1) (stI (stI ν 0 16 (I_ s)) 0 27 (I_ (d + 1))) := hY.F gF (fun k j q => by omega)
  obtain ⟨ν3, p1, p2, p3⟩ := r_push (N := N) (z0 := nx T n s) hT a0 hS2 hX2 (by unfold nx; rw [k3.2]) k3.1 (by omega) (c := -10) (Or.inl rfl)
  refine ⟨ν3, fun m => ?_, p2, Fr.tr ((Fr.rf.stI (Or.inl ⟨rfl, by omega⟩)).stI (Or.inl ⟨rfl, by omega⟩)) p3⟩
  rw [it_due hT hN a0 h m]
  have e9 : wW (-10) = 9 := rfl
  rw [e9] at p1
  rw [hbc] at hh'
  have hd6 : ¬ d = 6 := by omega
  unfold Lp
  simp (disch := omega) only [fX11_opensOrAtom, Int.reduceEq, Int.reduceNe, Int.reduceLT, Int.reduceLE, Int.reduceAdd, Int.reduceSub, Int.reduceMul, Int.reduceNeg, Int.zero_add, Int.add_zero, nm_eq, bd_some, bv_some, aI_ok, aL_ok, aS_ok, dv_ok, dw_ok, I_add, I_sub, I_mul, I_neg, I_lt, I_le, I_eq, I_nat, J_add, J_sub, J_mul, J_neg, J_lt, J_le, J_eq, I_l, J_i, I_div, J_div, b2_0, b2_1, b2_nar, nar_0, nar_1, zr_0, zr_1, zr_b2, cmp_eq, cmp_le, cmp_lt, cmp_gt, cmp_ge, mx_I, mn_I, mx_L, mn_L, az_I, if_true, if_false, not_true_eq_false, not_false_eq_true, Bool.false_eq_true, i_0, i_1, i_2, i_3, i_4, i_5, i_6, i_7, i_8, i_9, i_10, i_11, i_12, i_16, i_18, i_20, i_24, i_28, i_29, i_30, i_31, i_32, i_33, i_34, i_35, i_37, i_40, i_41, i_42, i_43, i_45, i_46, i_47, i_48, i_57, i_59, i_63, i_64, i_96, i_97, i_98, i_99, i_100, i_101, i_102, i_103, i_104, i_105, i_106, i_107, i_108, i_109, i_110, i_111, i_112, i_113, i_122, i_200, i_255, i_256, i_257, i_258, i_355, i_400, i_999, i_1000, i_1200, i_5680, i_9999, i_10000, i_99999, j_0, j_1, j_2, j_3, j_4, j_5, j_6, j_9, j_10, j_11, j_98, j_99, j_100, j_999, j_1000, j_9999, j_10000, j_99999, j_1000000, hh', hS.2.2.2.2.1, hd6, p1]
/-- a bracket closes -/
theorem it_close (hT : tB T n) (hN : 500 ≤ N) (a0 : 0 ≤ ad) (a2 : ad ≤ 2) (hk : kd T n s = 41) (d0 : 0 ≤ d) (d6 : d < 6) {p : List Int} (hp : ∀ x ∈ p, isO x ∧ 1 ≤ bnd x) (hz : 0 ≤ q0) (hl : q0 + K.length + (p ++ (-10 :: W)).length ≤ s) (h : RSt T n ad s (-1) K (p ++ (-10 :: W)) (d + 1) ν) : ∃ ν1, (∀ m, Lp N (m + 1) 0 ν = Lp N m 0 ν1) ∧ RSt T n ad (nx T n s) (-1) (K ++ p) W d ν1 ∧ Fr (P_rs ad) ν ν1 := by
  obtain ⟨hid, s0, s1, hh, hY, hS⟩ := h.hX hT hN a0
  have n1 := hT.2.1
  obtain ⟨k1, k2⟩ := kd_c (s := s) (c := 41) hT (by omega) (by omega) (by omega) (by omega)
  have k3 := k2 hk
  have hbc : hb T n s = 41 := k1.mpr hk
  have hln : (p ++ (-10 :: W)).length = p.length + (W.length + 1) := List.length_append
  have hlc : (-10 :: W).length = W.length + 1 := rfl
  obtain ⟨ν2, e1, e2, e3⟩ := r_settles (N := N) (l := 1) a0 a2 hN (by omega) (by omega) (W := -10 :: W) (fun w W' q => by have := (List.cons.inj q).1; rw [← this]; decide) (by omega) (by omega) hp hS
  have hX2 : RX T n s (-1) ν2 := hY.F e3 (fun k j q => by unfold P_re at q; omega)
  have hP := r_pop e2 a0
  have hw29 : ν2.1 0 29 = I_ (W.length + 1) := e2.2.2.2.2.2.1
  have h27 : ν2.1 0 27 = I_ (d + 1) := e2.2.2.2.2.1
  have gF : Fr (fun k j => k = 0 ∧ (j = 27 ∨ j = 16)) (stI ν2 0 29 (I_ W.length)) (stI (stI (stI ν2 0 29 (I_ W.length)) 0 27 (I_ d)) 0 16 (I_ (s + 1))) := (Fr.rf.stI ⟨rfl, Or.inl rfl⟩).stI ⟨rfl, Or.inr rfl⟩
  have g29 : Fr (fun k j => k = 0 ∧ j = 29) ν2 (stI ν2 0 29 (I_ W.length)) := Fr.rf.stI ⟨rfl, rfl⟩
  have g27 : Fr (fun k j => k = 0 ∧ j = 27) (stI ν2 0 29 (I_ W.length)) (stI (stI ν2 0 29 (I_ W.length)) 0 27 (I_ d)) := Fr.rf.stI ⟨rfl, rfl⟩
  have hX3 : RX T n (s + 1) (-1) (stI (stI (stI ν2 0 29 (I_ W.length)) 0 27 (I_ d)) 0 16 (I_ (s + 1))) := ((hX2.F g29 (fun k j q => by omega)).F g27 (fun k j q => by omega)).at (by omega) (by omega)
  refine ⟨stI (stI (stI ν2 0 29 (I_ W.length)) 0 27 (I_ d)) 0 16 (I_ (s + 1)), fun m => ?_, ?_, ?_⟩
  · rw [hbc] at hh
    have q1 : ¬ d + 1 ≤ 0 := by omega
    have q2 : (W.length : Int) + 1 - 1 = W.length := by omega
    have q3 : d + 1 - 1 = d := by omega
    unfold Lp
    simp (disch := omega) only [fX11_sumHere_9, fX11_signOf, Int.reduceEq, Int.reduceNe, Int.reduceLT, Int.reduceLE, Int.reduceAdd, Int.reduceSub, Int.reduceMul, Int.reduceNeg, Int.zero_add, Int.add_zero, nm_eq, bd_some, bv_some, aI_ok, aL_ok, aS_ok, dv_ok, dw_ok, I_add, I_sub, I_mul, I_neg, I_lt, I_le, I_eq, I_nat, J_add, J_sub, J_mul, J_neg, J_lt, J_le, J_eq, I_l, J_i, I_div, J_div, b2_0, b2_1, b2_nar, nar_0, nar_1, zr_0, zr_1, zr_b2, cmp_eq, cmp_le, cmp_lt, cmp_gt, cmp_ge, mx_I, mn_I, mx_L, mn_L, az_I, if_true, if_false, not_true_eq_false, not_false_eq_true, Bool.false_eq_true, i_0, i_1, i_2, i_3, i_4, i_5, i_6, i_7, i_8, i_9, i_10, i_11, i_12, i_16, i_18, i_20, i_24, i_28, i_29, i_30, i_31, i_32, i_33, i_34, i_35, i_37, i_40, i_41, i_42, i_43, i_45, i_46, i_47, i_48, i_57, i_59, i_63, i_64, i_96, i_97, i_98, i_99, i_100, i_101, i_102, i_103, i_104, i_105, i_106, i_107, i_108, i_109, i_110, i_111, i_112, i_113, i_122, i_200, i_255, i_256, i_257, i_258, i_355, i_400, i_999, i_1000, i_1200, i_5680, i_9999, i_10000, i_99999, j_0, j_1, j_2, j_3, j_4, j_5, j_6, j_9, j_10, j_11, j_98, j_99, j_100, j_999, j_1000, j_9999, j_10000, j_99999, j_1000000, h.1.wq, hh, hS.2.2.2.2.1, q1, e1, hw29, q2, st_I, st_I2, st_L1, st_L2, st_R1, st_R2, Nat.reduceEqDiff, Nat.reduceAdd, and_true, true_and, and_false, false_and, and_self, if_false, if_true, h27, q3, hX2.2.2.1]
  · obtain ⟨h1, h2, h3, h4, h5, h6, h7⟩ := hP
    refine ⟨⟨s + 1, hX3, fun _ => by unfold nx; rw [k3.2]⟩, ?_, rsg_fr _ _ (by omega) (fun j _ _ => ⟨?_, ?_⟩) h3, ?_, ?_, ?_, wsg_fr W (fun j _ => ?_) h7⟩
    · rw [(gF 16 _ (by omega)).1]; exact h2
    · rw [(gF 14 _ (by omega)).1]
    · rw [(gF 15 _ (by omega)).1]
    · rw [(gF 0 26 (by omega)).1]; exact h4
    · simp (disch := omega) only [st_I, st_I2, st_L1, st_L2, st_R1, st_R2, Nat.reduceEqDiff, Nat.reduceAdd, and_true, true_and, and_false, false_and, and_self, if_false, if_true]
    · rw [(gF 0 29 (by omega)).1]; exact h6
    · rw [(gF 17 _ (by omega)).1]
  · exact Fr.tr (Fr.tr (Fr.rf.stI (Or.inl ⟨rfl, by omega⟩)) (e3.mono (fun k j q => re_rs q))) (((Fr.rf.stI (Or.inl ⟨rfl, by omega⟩)).stI (Or.inl ⟨rfl, by omega⟩)).stI (Or.inl ⟨rfl, by omega⟩))
/-- no bracket closes where one must -/
theorem it_noclose (hT : tB T n) (hN : 500 ≤ N) (a0 : 0 ≤ ad) (hk : ¬ kd T n s = 41) (hn : ¬ kd T n s = 42 ∧ ¬ kd T n s = 43 ∧ ¬ kd T n s = 45 ∧ ¬ kd T n s = 47) (d0 : 0 ≤ d) (d6 : d < 6) (h : RSt T n ad s (-1) K W (d + 1) ν) : ∃ ν1, (∀ m, Lp N (m + 1) 0 ν = some ((), ν1)) ∧ RR T n s s ν1 ∧ Fr (P_rs ad) ν ν1 := by
  obtain ⟨hid, s0, s1, hh, hY, hS⟩ := h.hX hT hN a0
  have n1 := hT.2.1
  have hb' := hb_in hT s
  have k41 : ¬ hb T n s = 41 := fun q => hk ((kd_c (s := s) (c := 41) hT (by omega) (by omega) (by omega) (by omega)).1.mp q)
  have k42 : ¬ hb T n s = 42 := fun q => hn.1 ((kd_c (s := s) (c := 42) hT (by omega) (by omega) (by omega) (by omega)).1.mp q)
  have k43 : ¬ hb T n s = 43 := fun q => hn.2.1 ((kd_c (s := s) (c := 43) hT (by omega) (by omega) (by omega) (by omega)).1.mp q)
  have k45 : ¬ hb T n s = 45 := fun q => hn.2.2.1 ((kd_c (s := s) (c := 45) hT (by omega) (by omega) (by omega) (by omega)).1.mp q)
  have k47 : ¬ hb T n s = 47 := fun q => hn.2.2.2 ((kd_c (s := s) (c := 47) hT (by omega) (by omega) (by omega) (by omega)).1.mp q)
  have hw := r_wr (N := N) hY
  rw [if_pos rfl] at hw
  refine ⟨stI (stI ν 0 16 (I_ s)) 0 17 (I_ s), fun m => ?_, ⟨s, hY.wr (by omega) (by omega), fun q => by omega⟩, (Fr.rf.stI (Or.inl ⟨rfl, by omega⟩)).stI (Or.inl ⟨rfl, by omega⟩)⟩
  have q1 : ¬ d + 1 ≤ 0 := by omega
  unfold Lp
  simp (disch := omega) only [fX11_sumHere_9, fX11_signOf, Int.reduceEq, Int.reduceNe, Int.reduceLT, Int.reduceLE, Int.reduceAdd, Int.reduceSub, Int.reduceMul, Int.reduceNeg, Int.zero_add, Int.add_zero, nm_eq, bd_some, bv_some, aI_ok, aL_ok, aS_ok, dv_ok, dw_ok, I_add, I_sub, I_mul, I_neg, I_lt, I_le, I_eq, I_nat, J_add, J_sub, J_mul, J_neg, J_lt, J_le, J_eq, I_l, J_i, I_div, J_div, b2_0, b2_1, b2_nar, nar_0, nar_1, zr_0, zr_1, zr_b2, cmp_eq, cmp_le, cmp_lt, cmp_gt, cmp_ge, mx_I, mn_I, mx_L, mn_L, az_I, if_true, if_false, not_true_eq_false, not_false_eq_true, Bool.false_eq_true, i_0, i_1, i_2, i_3, i_4, i_5, i_6, i_7, i_8, i_9, i_10, i_11, i_12, i_16, i_18, i_20, i_24, i_28, i_29, i_30, i_31, i_32, i_33, i_34, i_35, i_37, i_40, i_41, i_42, i_43, i_45, i_46, i_47, i_48, i_57, i_59, i_63, i_64, i_96, i_97, i_98, i_99, i_100, i_101, i_102, i_103, i_104, i_105, i_106, i_107, i_108, i_109, i_110, i_111, i_112, i_113, i_122, i_200, i_255, i_256, i_257, i_258, i_355, i_400, i_999, i_1000, i_1200, i_5680, i_9999, i_10000, i_99999, j_0, j_1, j_2, j_3, j_4, j_5, j_6, j_9, j_10, j_11, j_98, j_99, j_100, j_999, j_1000, j_9999, j_10000, j_99999, j_1000000, h.1.wq, hh, k41, k42, k43, k45, k47, hS.2.2.2.2.1, q1, hw]
/-- the sum ends -/
theorem it_end (hT : tB T n) (hN : 500 ≤ N) (a0 : 0 ≤ ad) (a2 : ad ≤ 2) (hn : ¬ kd T n s = 42 ∧ ¬ kd T n s = 43 ∧ ¬ kd T n s = 45 ∧ ¬ kd T n s = 47) {p : List Int} (hp : ∀ x ∈ p, isO x ∧ 1 ≤ bnd x) (hz : 0 ≤ q0) (hl : q0 + K.length + (p ++ []).length ≤ s) (h : RSt T n ad s (-1) K (p ++ []) 0 ν) : ∃ ν1, (∀ m, Lp N (m + 2) 0 ν = some ((), ν1)) ∧ RSt T n ad s (-1) (K ++ p) [] 0 ν1 ∧ Fr (P_rs ad) ν ν1 := by
  obtain ⟨hid, s0, s1, hh, hY, hS⟩ := h.hX hT hN a0
  have n1 := hT.2.1
  have hb' := hb_in hT s
  have k42 : ¬ hb T n s = 42 := fun q => hn.1 ((kd_c (s := s) (c := 42) hT (by omega) (by omega) (by omega) (by omega)).1.mp q)
  have k43 : ¬ hb T n s = 43 := fun q => hn.2.1 ((kd_c (s := s) (c := 43) hT (by omega) (by omega) (by omega) (by omega)).1.mp q)
  have k45 : ¬ hb T n s = 45 := fun q => hn.2.2.1 ((kd_c (s := s) (c := 45) hT (by omega) (by omega) (by omega) (by omega)).1.mp q)
  have k47 : ¬ hb T n s = 47 := fun q => hn.2.2.2 ((kd_c (s := s) (c := 47) hT (by omega) (by omega) (by omega) (by omega)).1.mp q)
  have hln : (p ++ ([] : List Int)).length = p.length + 0 := List.length_append
  obtain ⟨ν2, e1, e2, e3⟩ := r_settles (N := N) (l := 1) a0 a2 hN (by omega) (by omega) (W := []) (fun w W' q => by cases q) (by omega) (by show p.length + 0 ≤ 400; omega) hp hS
  refine ⟨ν2, fun m => ?_, e2, Fr.tr (Fr.rf.stI (Or.inl ⟨rfl, by omega⟩)) (e3.mono (fun k j q => re_rs q))⟩
  have u1 : ∀ m', fX11_sumHere_9 N (m' + 1) (I_ 0) (I_ 1) ν = fX11_sumHere_9 N m' (I_ 0) (I_ 0) (stI ν 0 16 (I_ s)) := fun m' => by
    simp (disch := omega) only [fX11_sumHere_9, fX11_signOf, Int.reduceEq, Int.reduceNe, Int.reduceLT, Int.reduceLE, Int.reduceAdd, Int.reduceSub, Int.reduceMul, Int.reduceNeg, Int.zero_add, Int.add_zero, nm_eq, bd_some, bv_some, aI_ok, aL_ok, aS_ok, dv_ok, dw_ok, I_add, I_sub, I_mul, I_neg, I_lt, I_le, I_eq, I_nat, J_add, J_sub, J_mul, J_neg, J_lt, J_le, J_eq, I_l, J_i, I_div, J_div, b2_0, b2_1, b2_nar, nar_0, nar_1, zr_0, zr_1, zr_b2, cmp_eq, cmp_le, cmp_lt, cmp_gt, cmp_ge, mx_I, mn_I, mx_L, mn_L, az_I, if_true, if_false, not_true_eq_false, not_false_eq_true, Bool.false_eq_true, i_0, i_1, i_2, i_3, i_4, i_5, i_6, i_7, i_8, i_9, i_10, i_11, i_12, i_16, i_18, i_20, i_24, i_28, i_29, i_30, i_31, i_32, i_33, i_34, i_35, i_37, i_40, i_41, i_42, i_43, i_45, i_46, i_47, i_48, i_57, i_59, i_63, i_64, i_96, i_97, i_98, i_99, i_100, i_101, i_102, i_103, i_104, i_105, i_106, i_107, i_108, i_109, i_110, i_111, i_112, i_113, i_122, i_200, i_255, i_256, i_257, i_258, i_355, i_400, i_999, i_1000, i_1200, i_5680, i_9999, i_10000, i_99999, j_0, j_1, j_2, j_3, j_4, j_5, j_6, j_9, j_10, j_11, j_98, j_99, j_100, j_999, j_1000, j_9999, j_10000, j_99999, j_1000000, h.1.wq, hh, k42, k43, k45, k47, hS.2.2.2.2.1]
  have u2 : fX11_sumHere_9 N (m + 1) (I_ 0) (I_ 0) (stI ν 0 16 (I_ s)) = some ((), ν2) := by
    unfold fX11_sumHere_9
    rw [if_pos (show I_ 0 = 0 from rfl)]
    simp (disch := omega) only [fX11_sumHere_130, Int.reduceEq, Int.reduceNe, Int.reduceLT, Int.reduceLE, Int.reduceAdd, Int.reduceSub, Int.reduceMul, Int.reduceNeg, Int.zero_add, Int.add_zero, nm_eq, bd_some, bv_some, aI_ok, aL_ok, aS_ok, dv_ok, dw_ok, I_add, I_sub, I_mul, I_neg, I_lt, I_le, I_eq, I_nat, J_add, J_sub, J_mul, J_neg, J_lt, J_le, J_eq, I_l, J_i, I_div, J_div, b2_0, b2_1, b2_nar, nar_0, nar_1, zr_0, zr_1, zr_b2, cmp_eq, cmp_le, cmp_lt, cmp_gt, cmp_ge, mx_I, mn_I, mx_L, mn_L, az_I, if_true, if_false, not_true_eq_false, not_false_eq_true, Bool.false_eq_true, i_0, i_1, i_2, i_3, i_4, i_5, i_6, i_7, i_8, i_9, i_10, i_11, i_12, i_16, i_18, i_20, i_24, i_28, i_29, i_30, i_31, i_32, i_33, i_34, i_35, i_37, i_40, i_41, i_42, i_43, i_45, i_46, i_47, i_48, i_57, i_59, i_63, i_64, i_96, i_97, i_98, i_99, i_100, i_101, i_102, i_103, i_104, i_105, i_106, i_107, i_108, i_109, i_110, i_111, i_112, i_113, i_122, i_200, i_255, i_256, i_257, i_258, i_355, i_400, i_999, i_1000, i_1200, i_5680, i_9999, i_10000, i_99999, j_0, j_1, j_2, j_3, j_4, j_5, j_6, j_9, j_10, j_11, j_98, j_99, j_100, j_999, j_1000, j_9999, j_10000, j_99999, j_1000000, e1]
  exact (u1 (m + 1)).trans u2
end
