/-! The reference's parts. -/
theorem sg_split {g : Int → Int} : ∀ (a c : Nat) (i : Int), sg (a + c) i g = sg a i g + sg c (i + a) g := by
  intro a
  induction a with
  | zero => intro c i; simp [sg]
  | succ a ih =>
    intro c i
    rw [show a + 1 + c = (a + c) + 1 by omega]
    show g i + sg (a + c) (i + 1) g = g i + sg a (i + 1) g + sg c (i + (a + 1 : Nat)) g
    rw [ih c (i + 1), show i + 1 + (a : Int) = i + (a + 1 : Nat) by omega]
    omega
theorem sg_one {g : Int → Int} {y : Int} : ∀ (d : Nat) (i : Int), i ≤ y → y < i + d → (∀ z, z ≠ y → g z = 0) → sg d i g = g y := by
  intro d
  induction d with
  | zero => intro i a c; omega
  | succ d ih =>
    intro i a c h
    show g i + sg d (i + 1) g = g y
    by_cases e : i = y
    · rw [sg_zero d (i + 1) (fun z x w => h z (by omega)), e, Int.add_zero]
    · rw [h i e, ih (i + 1) (by omega) (by omega) h, Int.zero_add]
/-- before a unit's first sale there is none of its key -/
def gF (V : Vw) (f t : Int) (s : Int × (Int → Int)) : Prop := ∀ k, 0 ≤ k → k < s.1 → ∀ z, 0 ≤ z → z < s.2 k → p_ex V f z → ky V t z ≠ ky V t (s.2 k)
section
variable {N : Nat} {V : Vw} {ν : Mem} {f t : Int}
theorem gF_all : ∀ i : Nat, gF V f t (gS V f t i) := by
  intro i
  induction i with
  | zero => intro k a c; have : k < 0 := c; omega
  | succ i ih =>
    have hI := gI_all (V := V) (f := f) (t := t) i
    show gF V f t (gSt V f t i (gS V f t i))
    unfold gSt
    split
    · split
      · rename_i hx
        have hno : ∀ k, 0 ≤ k → k < (gS V f t i).1 → ky V t ((gS V f t i).2 k) ≠ ky V t i := fun k k0 k1 => ixs_no (u := fun k => ky V t ((gS V f t i).2 k)) (gS V f t i).1.toNat 0 (by have := hI.1; omega) k (by omega) (by have := hI.1; omega)
        intro k k0 k1 z z0 z1 hz
        have k1 : k < (gS V f t i).1 + 1 := k1
        have z1 : z < (if k = (gS V f t i).1 then (i : Int) else (gS V f t i).2 k) := z1
        show ky V t z ≠ ky V t (if k = (gS V f t i).1 then (i : Int) else (gS V f t i).2 k)
        by_cases hk : k = (gS V f t i).1
        · rw [if_pos hk] at z1 ⊢
          obtain ⟨j, j0, j1, j2⟩ := hI.2.2.2 z z0 z1 hz
          rw [← j2]
          exact hno j j0 j1
        · rw [if_neg hk] at z1 ⊢
          exact ih k k0 (by omega) z z0 z1 hz
      · exact ih
    · exact ih
theorem u_first (V : Vw) (f t : Int) {k : Int} (k0 : 0 ≤ k) (k1 : k < uN V f t) {z : Int} (z0 : 0 ≤ z) (z1 : z < uZ V f t k) (hz : p_ex V f z) : ky V t z ≠ ky V t (uZ V f t k) := gF_all (V := V) (f := f) (t := t) (zN V) k k0 k1 z z0 z1 hz
def g_uq (V : Vw) (f t y z : Int) : Int := if p_ex V f z ∧ ky V t z = y then s_nt V z * s_mn V z else 0
def P_rp (k j : Nat) : Prop := (k = 0 ∧ ((37 ≤ j ∧ j ≤ 39) ∨ j = 45)) ∨ (24 ≤ k ∧ k ≤ 28)
theorem RLd.p {ν ν' : Mem} (h : RLd V ν) (g : Fr P_rp ν ν') : RLd V ν' := h.F g (fun k j hk => by unfold P_rb at hk; unfold P_rp; omega)
theorem zN_eq (hV : vB V) : (zN V : Int) = sN V := by
  have hn := hV.1
  unfold vN at hn
  unfold zN
  omega
/-- one group's loop, from sale i on -/
theorem r_lg16 (hV : vB V) (hL : RLd V ν) (f0 : 0 ≤ f) (f1 : f < 4) {r : Int} (r0 : 0 ≤ r) (r1 : r < sN V) (x : Int32) : ∀ (d n : Nat) (i q m : Int), d < n → 0 ≤ i → i + d = sN V → fX11_laysGroup_16 N n (I_ f) x (I_ r) (J_ q) (I_ m) (I_ i) ν = fX11_laysGroup_101 N (I_ f) x (I_ r) (J_ (q + sg d i (g_uq V f 0 (ky V 0 r)))) (I_ (m + sg d i (g_um V f 0 (ky V 0 r)))) ν := by
  have hn := hV.1
  unfold vN at hn
  have hR := hL.1
  intro d
  induction d with
  | zero =>
    intro n i q m h1 h2 h3
    obtain ⟨n, rfl⟩ : ∃ m, n = m + 1 := ⟨n - 1, by omega⟩
    have hle : sN V ≤ i := by omega
    simp (disch := omega) only [fX11_laysGroup_16, Int.reduceEq, Int.reduceNe, Int.reduceLT, Int.reduceLE, Int.reduceAdd, Int.reduceSub, Int.reduceMul, Int.reduceNeg, Int.zero_add, Int.add_zero, nm_eq, bd_some, bv_some, aI_ok, aL_ok, aS_ok, dv_ok, dw_ok, I_add, I_sub, I_mul, I_neg, I_lt, I_le, I_eq, I_nat, J_add, J_sub, J_mul, J_neg, J_lt, J_le, J_eq, I_l, J_i, I_div, J_div, b2_0, b2_1, b2_nar, nar_0, nar_1, zr_0, zr_1, zr_b2, cmp_eq, cmp_le, cmp_lt, cmp_gt, cmp_ge, mx_I, mn_I, mx_L, mn_L, az_I, if_true, if_false, not_true_eq_false, not_false_eq_true, i_0, i_1, i_2, i_3, i_4, i_5, i_6, i_7, i_8, i_9, i_10, i_11, i_12, i_16, i_18, i_20, i_24, i_28, i_29, i_30, i_31, i_32, i_33, i_34, i_35, i_37, i_40, i_41, i_42, i_43, i_45, i_46, i_47, i_48, i_57, i_59, i_63, i_64, i_96, i_97, i_98, i_99, i_100, i_101, i_102, i_103, i_104, i_105, i_106, i_107, i_108, i_109, i_110, i_111, i_112, i_113, i_122, i_200, i_255, i_256, i_257, i_258, i_355, i_400, i_999, i_1000, i_1200, i_5680, i_9999, i_10000, i_99999, j_0, j_1, j_2, j_3, j_4, j_5, j_6, j_9, j_10, j_11, j_98, j_99, j_100, j_999, j_1000, j_9999, j_10000, j_99999, j_1000000, RB_n hR, hle, sg]
  | succ d ih =>
    intro n i q m h1 h2 h3
    obtain ⟨n, rfl⟩ : ∃ m, n = m + 1 := ⟨n - 1, by omega⟩
    have hle : ¬ sN V ≤ i := by omega
    have hlt : i < sN V := by omega
    have hv := hV.2.1 i h2 hlt
    unfold vS at hv
    have r19 := (hL.2.1.2 i h2 hlt).2.1
    have sk : ¬ (p_ex V f i ∧ ky V 0 i = ky V 0 r) → g_um V f 0 (ky V 0 r) i = 0 ∧ g_uq V f 0 (ky V 0 r) i = 0 := fun h => by
      unfold g_um g_uq; rw [if_neg h, if_neg h]; exact ⟨rfl, rfl⟩
    by_cases hp : s_li V i = 1 ∧ s_mk V i = 1
    · by_cases hf : s_fm V i = f
      · by_cases hk : ky V 0 r = ky V 0 i
        · have e1 : g_um V f 0 (ky V 0 r) i = s_mn V i := by unfold g_um; rw [if_pos ⟨⟨hp.1, hf, hp.2⟩, hk.symm⟩]
          have e2 : g_uq V f 0 (ky V 0 r) i = s_nt V i * s_mn V i := by unfold g_uq; rw [if_pos ⟨⟨hp.1, hf, hp.2⟩, hk.symm⟩]
          simp (disch := omega) only [fX11_laysGroup_16, Int.reduceEq, Int.reduceNe, Int.reduceLT, Int.reduceLE, Int.reduceAdd, Int.reduceSub, Int.reduceMul, Int.reduceNeg, Int.zero_add, Int.add_zero, nm_eq, bd_some, bv_some, aI_ok, aL_ok, aS_ok, dv_ok, dw_ok, I_add, I_sub, I_mul, I_neg, I_lt, I_le, I_eq, I_nat, J_add, J_sub, J_mul, J_neg, J_lt, J_le, J_eq, I_l, J_i, I_div, J_div, b2_0, b2_1, b2_nar, nar_0, nar_1, zr_0, zr_1, zr_b2, cmp_eq, cmp_le, cmp_lt, cmp_gt, cmp_ge, mx_I, mn_I, mx_L, mn_L, az_I, if_true, if_false, not_true_eq_false, not_false_eq_true, i_0, i_1, i_2, i_3, i_4, i_5, i_6, i_7, i_8, i_9, i_10, i_11, i_12, i_16, i_18, i_20, i_24, i_28, i_29, i_30, i_31, i_32, i_33, i_34, i_35, i_37, i_40, i_41, i_42, i_43, i_45, i_46, i_47, i_48, i_57, i_59, i_63, i_64, i_96, i_97, i_98, i_99, i_100, i_101, i_102, i_103, i_104, i_105, i_106, i_107, i_108, i_109, i_110, i_111, i_112, i_113, i_122, i_200, i_255, i_256, i_257, i_258, i_355, i_400, i_999, i_1000, i_1200, i_5680, i_9999, i_10000, i_99999, j_0, j_1, j_2, j_3, j_4, j_5, j_6, j_9, j_10, j_11, j_98, j_99, j_100, j_999, j_1000, j_9999, j_10000, j_99999, j_1000000, RB_n hR, hle, r_isExp hV hR, b2_t hp, r_of1 hV hR, r_of5 hV hR, hf, r_same hV hR, b2_t hk, r19, ih, sg, e1, e2, Int.add_assoc]
        · obtain ⟨e1, e2⟩ := sk (fun w => hk w.2.symm)
          simp (disch := omega) only [fX11_laysGroup_16, Int.reduceEq, Int.reduceNe, Int.reduceLT, Int.reduceLE, Int.reduceAdd, Int.reduceSub, Int.reduceMul, Int.reduceNeg, Int.zero_add, Int.add_zero, nm_eq, bd_some, bv_some, aI_ok, aL_ok, aS_ok, dv_ok, dw_ok, I_add, I_sub, I_mul, I_neg, I_lt, I_le, I_eq, I_nat, J_add, J_sub, J_mul, J_neg, J_lt, J_le, J_eq, I_l, J_i, I_div, J_div, b2_0, b2_1, b2_nar, nar_0, nar_1, zr_0, zr_1, zr_b2, cmp_eq, cmp_le, cmp_lt, cmp_gt, cmp_ge, mx_I, mn_I, mx_L, mn_L, az_I, if_true, if_false, not_true_eq_false, not_false_eq_true, i_0, i_1, i_2, i_3, i_4, i_5, i_6, i_7, i_8, i_9, i_10, i_11, i_12, i_16, i_18, i_20, i_24, i_28, i_29, i_30, i_31, i_32, i_33, i_34, i_35, i_37, i_40, i_41, i_42, i_43, i_45, i_46, i_47, i_48, i_57, i_59, i_63, i_64, i_96, i_97, i_98, i_99, i_100, i_101, i_102, i_103, i_104, i_105, i_106, i_107, i_108, i_109, i_110, i_111, i_112, i_113, i_122, i_200, i_255, i_256, i_257, i_258, i_355, i_400, i_999, i_1000, i_1200, i_5680, i_9999, i_10000, i_99999, j_0, j_1, j_2, j_3, j_4, j_5, j_6, j_9, j_10, j_11, j_98, j_99, j_100, j_999, j_1000, j_9999, j_10000, j_99999, j_1000000, RB_n hR, hle, r_isExp hV hR, b2_t hp, r_of1 hV hR, hf, r_same hV hR, b2_f hk, ih, sg, e1, e2]
      · obtain ⟨e1, e2⟩ := sk (fun w => hf w.1.2.1)
        simp (disch := omega) only [fX11_laysGroup_16, Int.reduceEq, Int.reduceNe, Int.reduceLT, Int.reduceLE, Int.reduceAdd, Int.reduceSub, Int.reduceMul, Int.reduceNeg, Int.zero_add, Int.add_zero, nm_eq, bd_some, bv_some, aI_ok, aL_ok, aS_ok, dv_ok, dw_ok, I_add, I_sub, I_mul, I_neg, I_lt, I_le, I_eq, I_nat, J_add, J_sub, J_mul, J_neg, J_lt, J_le, J_eq, I_l, J_i, I_div, J_div, b2_0, b2_1, b2_nar, nar_0, nar_1, zr_0, zr_1, zr_b2, cmp_eq, cmp_le, cmp_lt, cmp_gt, cmp_ge, mx_I, mn_I, mx_L, mn_L, az_I, if_true, if_false, not_true_eq_false, not_false_eq_true, i_0, i_1, i_2, i_3, i_4, i_5, i_6, i_7, i_8, i_9, i_10, i_11, i_12, i_16, i_18, i_20, i_24, i_28, i_29, i_30, i_31, i_32, i_33, i_34, i_35, i_37, i_40, i_41, i_42, i_43, i_45, i_46, i_47, i_48, i_57, i_59, i_63, i_64, i_96, i_97, i_98, i_99, i_100, i_101, i_102, i_103, i_104, i_105, i_106, i_107, i_108, i_109, i_110, i_111, i_112, i_113, i_122, i_200, i_255, i_256, i_257, i_258, i_355, i_400, i_999, i_1000, i_1200, i_5680, i_9999, i_10000, i_99999, j_0, j_1, j_2, j_3, j_4, j_5, j_6, j_9, j_10, j_11, j_98, j_99, j_100, j_999, j_1000, j_9999, j_10000, j_99999, j_1000000, RB_n hR, hle, r_isExp hV hR, b2_t hp, r_of1 hV hR, hf, ih, sg, e1, e2]
    · obtain ⟨e1, e2⟩ := sk (fun w => hp ⟨w.1.1, w.1.2.2⟩)
      simp (disch := omega) only [fX11_laysGroup_16, Int.reduceEq, Int.reduceNe, Int.reduceLT, Int.reduceLE, Int.reduceAdd, Int.reduceSub, Int.reduceMul, Int.reduceNeg, Int.zero_add, Int.add_zero, nm_eq, bd_some, bv_some, aI_ok, aL_ok, aS_ok, dv_ok, dw_ok, I_add, I_sub, I_mul, I_neg, I_lt, I_le, I_eq, I_nat, J_add, J_sub, J_mul, J_neg, J_lt, J_le, J_eq, I_l, J_i, I_div, J_div, b2_0, b2_1, b2_nar, nar_0, nar_1, zr_0, zr_1, zr_b2, cmp_eq, cmp_le, cmp_lt, cmp_gt, cmp_ge, mx_I, mn_I, mx_L, mn_L, az_I, if_true, if_false, not_true_eq_false, not_false_eq_true, i_0, i_1, i_2, i_3, i_4, i_5, i_6, i_7, i_8, i_9, i_10, i_11, i_12, i_16, i_18, i_20, i_24, i_28, i_29, i_30, i_31, i_32, i_33, i_34, i_35, i_37, i_40, i_41, i_42, i_43, i_45, i_46, i_47, i_48, i_57, i_59, i_63, i_64, i_96, i_97, i_98, i_99, i_100, i_101, i_102, i_103, i_104, i_105, i_106, i_107, i_108, i_109, i_110, i_111, i_112, i_113, i_122, i_200, i_255, i_256, i_257, i_258, i_355, i_400, i_999, i_1000, i_1200, i_5680, i_9999, i_10000, i_99999, j_0, j_1, j_2, j_3, j_4, j_5, j_6, j_9, j_10, j_11, j_98, j_99, j_100, j_999, j_1000, j_9999, j_10000, j_99999, j_1000000, RB_n hR, hle, r_isExp hV hR, b2_f hp, ih, sg, e1, e2]
/-- a sum over a unit's sales is one from its first sale on -/
theorem u_from (hV : vB V) {g : Int → Int} {k : Int} (k0 : 0 ≤ k) (k1 : k < uN V f t) (hg : ∀ z, ¬ (p_ex V f z ∧ ky V t z = ky V t (uZ V f t k)) → g z = 0) : sg (zN V) 0 g = sg (sN V - uZ V f t k).toNat (uZ V f t k) g := by
  have hz := zN_eq hV
  have hu := uZ_in hV k0 k1
  rw [show zN V = (uZ V f t k).toNat + (sN V - uZ V f t k).toNat by omega, sg_split, sg_zero _ _ (fun z a c => hg z (fun w => u_first V f t k0 k1 a (by omega) w.1 w.2)), Int.zero_add, show (0 : Int) + ((uZ V f t k).toNat : Int) = uZ V f t k by omega]
theorem uq_uv (hV : vB V) (y : Int) (d : Nat) (i : Int) : 1000 * sg d i (g_uq V f t y) = sg d i (g_uv V f t y) := by
  rw [← sg_mul]
  exact sg_congr _ _ (fun z _ _ => by
    unfold g_uq g_uv
    split
    · rw [Int.mul_assoc]
    · rfl)
theorem uD0 (V : Vw) (f t k : Int) : uD V f t 0 k = (uW V f t k - uA V f t k) * uM V f t k := by
  unfold uD
  rw [Int.mul_zero, Int.sub_zero]
theorem r_lg101 (hV : vB V) (hN : 100 ≤ N) (hL : RLd V ν) (f0 : 0 ≤ f) (f1 : f < 4) {k : Int} (k0 : 0 ≤ k) (k1 : k < uN V f 0) : ∃ ν', fX11_laysGroup_101 N (I_ f) (I_ k) (I_ (uZ V f 0 k)) (J_ (sg (zN V) 0 (g_uq V f 0 (ky V 0 (uZ V f 0 k))))) (I_ (uM V f 0 k)) ν = some ((), ν') ∧ Fr (fun c j => (c = 0 ∧ 37 ≤ j ∧ j ≤ 39) ∨ ((c = 24 ∨ c = 25 ∨ c = 27 ∨ c = 28) ∧ j = k.toNat)) ν ν' ∧ ν'.1 25 k.toNat = I_ (uM V f 0 k) ∧ ν'.2.1 27 k.toNat = J_ (uA V f 0 k) ∧ ν'.2.1 28 k.toNat = J_ (uW V f 0 k) ∧ ν'.2.1 24 k.toNat = J_ (uD V f 0 0 k) := by
  have hn := hV.1
  unfold vN at hn
  have hu := uN_in hV f 0
  have hz := uZ_in hV k0 k1
  have hv := hV.2.1 _ hz.1 hz.2.1
  unfold vS at hv
  have um := uM_in hV f 0 k
  have up := uM_pos hV k0 k1
  have uv := uV_in hV f 0 k
  have hmc := mtc_in hV hz.1 hz.2.1
  have euv : 1000 * sg (zN V) 0 (g_uq V f 0 (ky V 0 (uZ V f 0 k))) = uV V f 0 k := uq_uv hV _ _ _
  have ea : uV V f 0 k / uM V f 0 k = uA V f 0 k := by unfold uA; rw [if_pos (by omega)]
  have ew : x_wo V f (s_md V (uZ V f 0 k)) (s_lv V (uZ V f 0 k)) (mtc V (uZ V f 0 k)) = uW V f 0 k := by
    unfold uW x_wf; rw [if_neg (fun q => by have := q.1; omega), hz.2.2.2.1]
  have hF1 : Fr (fun c j => (c = 0 ∧ 37 ≤ j ∧ j ≤ 39) ∨ ((c = 24 ∨ c = 25 ∨ c = 27 ∨ c = 28) ∧ j = k.toNat)) ν (stL (stI ν 25 k.toNat (I_ (uM V f 0 k))) 27 k.toNat (J_ (uA V f 0 k))) := (Fr.rf.stI (by omega)).stL (by omega)
  have ge : ∀ c j, P_rb c j ∨ (18 ≤ c ∧ c ≤ 22) ∨ (c = 0 ∧ j = 30) → ¬ ((c = 0 ∧ 37 ≤ j ∧ j ≤ 39) ∨ ((c = 24 ∨ c = 25 ∨ c = 27 ∨ c = 28) ∧ j = k.toNat)) := fun c j h => by unfold P_rb at h; omega
  have hL1 := hL.F hF1 ge
  have hR1 := hL1.1
  obtain ⟨ν1, a1, a2⟩ := r_wo (N := N) (f := f) (m := s_md V (uZ V f 0 k)) (l := s_lv V (uZ V f 0 k)) (t := mtc V (uZ V f 0 k)) hV hN hL1 f0 f1 (by omega) (by omega) (by omega) (by omega) hmc.1 hmc.2
  rw [ew] at a1
  have q25 : ν1.1 25 k.toNat = I_ (uM V f 0 k) := by rw [(a2 25 _ (by unfold P_rf; omega)).1]; simp (disch := omega) only [st_L1, at_S]
  have q27 : ν1.2.1 27 k.toNat = J_ (uA V f 0 k) := by rw [(a2 27 _ (by unfold P_rf; omega)).2.1]; exact atL_S
  have hF2 := hF1.tr (a2.mono (fun c j h => Or.inl h))
  refine ⟨_, ?_, (hF2.stL (k := 28) (j := k.toNat) (v := J_ (uW V f 0 k)) (by omega)).stL (k := 24) (j := k.toNat) (v := J_ (uD V f 0 0 k)) (by omega), ?_, ?_, ?_, atL_S⟩
  · rw [uD0]
    have hm0 : uM V f 0 k ≠ 0 := by omega
    simp (disch := omega) only [fX11_laysGroup_101, Int.reduceEq, Int.reduceNe, Int.reduceLT, Int.reduceLE, Int.reduceAdd, Int.reduceSub, Int.reduceMul, Int.reduceNeg, Int.zero_add, Int.add_zero, nm_eq, bd_some, bv_some, aI_ok, aL_ok, aS_ok, dv_ok, dw_ok, I_add, I_sub, I_mul, I_neg, I_lt, I_le, I_eq, I_nat, J_add, J_sub, J_mul, J_neg, J_lt, J_le, J_eq, I_l, J_i, I_div, J_div, b2_0, b2_1, b2_nar, nar_0, nar_1, zr_0, zr_1, zr_b2, cmp_eq, cmp_le, cmp_lt, cmp_gt, cmp_ge, mx_I, mn_I, mx_L, mn_L, az_I, if_true, if_false, not_true_eq_false, not_false_eq_true, i_0, i_1, i_2, i_3, i_4, i_5, i_6, i_7, i_8, i_9, i_10, i_11, i_12, i_16, i_18, i_20, i_24, i_28, i_29, i_30, i_31, i_32, i_33, i_34, i_35, i_37, i_40, i_41, i_42, i_43, i_45, i_46, i_47, i_48, i_57, i_59, i_63, i_64, i_96, i_97, i_98, i_99, i_100, i_101, i_102, i_103, i_104, i_105, i_106, i_107, i_108, i_109, i_110, i_111, i_112, i_113, i_122, i_200, i_255, i_256, i_257, i_258, i_355, i_400, i_999, i_1000, i_1200, i_5680, i_9999, i_10000, i_99999, j_0, j_1, j_2, j_3, j_4, j_5, j_6, j_9, j_10, j_11, j_98, j_99, j_100, j_999, j_1000, j_9999, j_10000, j_99999, j_1000000, euv, ea, r_of2 hV hR1, r_of3 hV hR1, r_mtc hV hR1, a1, atL_S, stL_nc, q27]
  · simp (disch := omega) only [st_L1]; exact q25
  · simp (disch := omega) only [stL_nc]; exact q27
  · simp (disch := omega) only [stL_nc]; exact atL_S
/-- the groups' numbers -/
def GP (V : Vw) (f : Int) (i : Int) (ν : Mem) : Prop := ∀ k, 0 ≤ k → k < i → ν.1 25 k.toNat = I_ (uM V f 0 k) ∧ ν.2.1 27 k.toNat = J_ (uA V f 0 k) ∧ ν.2.1 28 k.toNat = J_ (uW V f 0 k) ∧ ν.2.1 24 k.toNat = J_ (uD V f 0 0 k)
theorem r_lg121 (hV : vB V) (hN : 100 ≤ N) (f0 : 0 ≤ f) (f1 : f < 4) : ∀ (d n : Nat) (i : Int) (ν : Mem), d < n → 0 ≤ i → i + d = uN V f 0 → RLd V ν → ν.1 0 45 = I_ (uN V f 0) → (∀ k, 0 ≤ k → k < uN V f 0 → ν.1 26 k.toNat = I_ (uZ V f 0 k)) → GP V f i ν → ∃ ν', fX11_laysGroups_121 N n (I_ f) (I_ i) ν = some ((), ν') ∧ Fr P_rp ν ν' ∧ ν'.1 0 45 = I_ (uN V f 0) ∧ (∀ k, 0 ≤ k → k < uN V f 0 → ν'.1 26 k.toNat = I_ (uZ V f 0 k)) ∧ GP V f (uN V f 0) ν' := by
  have hn := hV.1
  unfold vN at hn
  have hu := uN_in hV f 0
  intro d
  induction d with
  | zero =>
    intro n i ν h1 h2 h3 hL h45 h26 hG
    obtain ⟨n, rfl⟩ : ∃ m, n = m + 1 := ⟨n - 1, by omega⟩
    have hle : uN V f 0 ≤ i := by omega
    have hi : i = uN V f 0 := by omega
    subst hi
    refine ⟨ν, ?_, Fr.rf, h45, h26, hG⟩
    simp (disch := omega) only [fX11_laysGroups_121, Int.reduceEq, Int.reduceNe, Int.reduceLT, Int.reduceLE, Int.reduceAdd, Int.reduceSub, Int.reduceMul, Int.reduceNeg, Int.zero_add, Int.add_zero, nm_eq, bd_some, bv_some, aI_ok, aL_ok, aS_ok, dv_ok, dw_ok, I_add, I_sub, I_mul, I_neg, I_lt, I_le, I_eq, I_nat, J_add, J_sub, J_mul, J_neg, J_lt, J_le, J_eq, I_l, J_i, I_div, J_div, b2_0, b2_1, b2_nar, nar_0, nar_1, zr_0, zr_1, zr_b2, cmp_eq, cmp_le, cmp_lt, cmp_gt, cmp_ge, mx_I, mn_I, mx_L, mn_L, az_I, if_true, if_false, not_true_eq_false, not_false_eq_true, i_0, i_1, i_2, i_3, i_4, i_5, i_6, i_7, i_8, i_9, i_10, i_11, i_12, i_16, i_18, i_20, i_24, i_28, i_29, i_30, i_31, i_32, i_33, i_34, i_35, i_37, i_40, i_41, i_42, i_43, i_45, i_46, i_47, i_48, i_57, i_59, i_63, i_64, i_96, i_97, i_98, i_99, i_100, i_101, i_102, i_103, i_104, i_105, i_106, i_107, i_108, i_109, i_110, i_111, i_112, i_113, i_122, i_200, i_255, i_256, i_257, i_258, i_355, i_400, i_999, i_1000, i_1200, i_5680, i_9999, i_10000, i_99999, j_0, j_1, j_2, j_3, j_4, j_5, j_6, j_9, j_10, j_11, j_98, j_99, j_100, j_999, j_1000, j_9999, j_10000, j_99999, j_1000000, h45, hle]
  | succ d ih =>
    intro n i ν h1 h2 h3 hL h45 h26 hG
    obtain ⟨n, rfl⟩ : ∃ m, n = m + 1 := ⟨n - 1, by omega⟩
    have hle : ¬ uN V f 0 ≤ i := by omega
    have hlt : i < uN V f 0 := by omega
    have hz := uZ_in hV h2 hlt
    have r26 := h26 i h2 hlt
    obtain ⟨ν1, a1, a2, a3, a4, a5, a6⟩ := r_lg101 (N := N) hV hN hL f0 f1 h2 hlt
    have hF : Fr P_rp ν ν1 := a2.mono (fun c j h => by unfold P_rp; omega)
    have e16 := r_lg16 (N := N) hV hL f0 f1 hz.1 hz.2.1 (I_ i) (sN V - uZ V f 0 i).toNat N (uZ V f 0 i) 0 0 (by omega) hz.1 (by omega)
    rw [Int.zero_add, Int.zero_add, ← u_from hV h2 hlt (fun z h => by unfold g_uq; rw [if_neg h]), ← u_from hV h2 hlt (fun z h => by unfold g_um; rw [if_neg h])] at e16
    have e16 : fX11_laysGroup_16 N N (I_ f) (I_ i) (I_ (uZ V f 0 i)) (J_ 0) (I_ 0) (I_ (uZ V f 0 i)) ν = some ((), ν1) := e16.trans a1
    obtain ⟨ν', e1, e2, e3⟩ := ih n (i + 1) ν1 (by omega) (by omega) (by omega) (hL.p hF) (by rw [(a2 0 45 (by omega)).1]; exact h45) (fun k a c => by rw [(a2 26 _ (by omega)).1]; exact h26 k a c) (fun k a c => by
      by_cases hk : k = i
      · rw [hk]; exact ⟨a3, a4, a5, a6⟩
      · rw [(a2 25 _ (by omega)).1, (a2 27 _ (by omega)).2.1, (a2 28 _ (by omega)).2.1, (a2 24 _ (by omega)).2.1]
        exact hG k a (by omega))
    refine ⟨ν', ?_, hF.tr e2, e3⟩
    simp (disch := omega) only [fX11_laysGroups_121, fX11_laysGroup, Int.reduceEq, Int.reduceNe, Int.reduceLT, Int.reduceLE, Int.reduceAdd, Int.reduceSub, Int.reduceMul, Int.reduceNeg, Int.zero_add, Int.add_zero, nm_eq, bd_some, bv_some, aI_ok, aL_ok, aS_ok, dv_ok, dw_ok, I_add, I_sub, I_mul, I_neg, I_lt, I_le, I_eq, I_nat, J_add, J_sub, J_mul, J_neg, J_lt, J_le, J_eq, I_l, J_i, I_div, J_div, b2_0, b2_1, b2_nar, nar_0, nar_1, zr_0, zr_1, zr_b2, cmp_eq, cmp_le, cmp_lt, cmp_gt, cmp_ge, mx_I, mn_I, mx_L, mn_L, az_I, if_true, if_false, not_true_eq_false, not_false_eq_true, i_0, i_1, i_2, i_3, i_4, i_5, i_6, i_7, i_8, i_9, i_10, i_11, i_12, i_16, i_18, i_20, i_24, i_28, i_29, i_30, i_31, i_32, i_33, i_34, i_35, i_37, i_40, i_41, i_42, i_43, i_45, i_46, i_47, i_48, i_57, i_59, i_63, i_64, i_96, i_97, i_98, i_99, i_100, i_101, i_102, i_103, i_104, i_105, i_106, i_107, i_108, i_109, i_110, i_111, i_112, i_113, i_122, i_200, i_255, i_256, i_257, i_258, i_355, i_400, i_999, i_1000, i_1200, i_5680, i_9999, i_10000, i_99999, j_0, j_1, j_2, j_3, j_4, j_5, j_6, j_9, j_10, j_11, j_98, j_99, j_100, j_999, j_1000, j_9999, j_10000, j_99999, j_1000000, h45, hle, r26, e16, e1]
theorem r_lg49 (hV : vB V) (hR : RB V ν) {c : Int} {u : Int → Int} (c0 : 0 ≤ c) (c1 : c ≤ 40) (h45 : ν.1 0 45 = I_ c) (h26 : ∀ k, 0 ≤ k → k < c → ν.1 26 k.toNat = I_ (u k) ∧ 0 ≤ u k ∧ u k < sN V) {z : Int} (z0 : 0 ≤ z) (z1 : z < sN V) (k : Int32 → Int32 → Mem → Option (Unit × Mem)) (v1 : Int32) : ∀ (d n : Nat) (j : Int), d < n → 0 ≤ j → j + d = c → fX11_laysGroups_49 N k n v1 (I_ z) (I_ 1) (I_ j) ν = fX11_laysGroups_89 N k v1 (I_ z) (I_ (b2 (ixs (fun k => ky V 0 (u k)) (ky V 0 z) d j = c))) ν := by
  have hn := hV.1
  unfold vN at hn
  intro d
  induction d with
  | zero =>
    intro n j h1 h2 h3
    obtain ⟨n, rfl⟩ : ∃ m, n = m + 1 := ⟨n - 1, by omega⟩
    have hle : c ≤ j := by omega
    have e : ixs (fun k => ky V 0 (u k)) (ky V 0 z) 0 j = c := by show j = c; omega
    rw [b2_t e]
    simp (disch := omega) only [fX11_laysGroups_49, Int.reduceEq, Int.reduceNe, Int.reduceLT, Int.reduceLE, Int.reduceAdd, Int.reduceSub, Int.reduceMul, Int.reduceNeg, Int.zero_add, Int.add_zero, nm_eq, bd_some, bv_some, aI_ok, aL_ok, aS_ok, dv_ok, dw_ok, I_add, I_sub, I_mul, I_neg, I_lt, I_le, I_eq, I_nat, J_add, J_sub, J_mul, J_neg, J_lt, J_le, J_eq, I_l, J_i, I_div, J_div, b2_0, b2_1, b2_nar, nar_0, nar_1, zr_0, zr_1, zr_b2, cmp_eq, cmp_le, cmp_lt, cmp_gt, cmp_ge, mx_I, mn_I, mx_L, mn_L, az_I, if_true, if_false, not_true_eq_false, not_false_eq_true, i_0, i_1, i_2, i_3, i_4, i_5, i_6, i_7, i_8, i_9, i_10, i_11, i_12, i_16, i_18, i_20, i_24, i_28, i_29, i_30, i_31, i_32, i_33, i_34, i_35, i_37, i_40, i_41, i_42, i_43, i_45, i_46, i_47, i_48, i_57, i_59, i_63, i_64, i_96, i_97, i_98, i_99, i_100, i_101, i_102, i_103, i_104, i_105, i_106, i_107, i_108, i_109, i_110, i_111, i_112, i_113, i_122, i_200, i_255, i_256, i_257, i_258, i_355, i_400, i_999, i_1000, i_1200, i_5680, i_9999, i_10000, i_99999, j_0, j_1, j_2, j_3, j_4, j_5, j_6, j_9, j_10, j_11, j_98, j_99, j_100, j_999, j_1000, j_9999, j_10000, j_99999, j_1000000, h45, hle]
  | succ d ih =>
    intro n j h1 h2 h3
    obtain ⟨n, rfl⟩ : ∃ m, n = m + 1 := ⟨n - 1, by omega⟩
    have hle : ¬ c ≤ j := by omega
    obtain ⟨r26, u0, u1⟩ := h26 j h2 (by omega)
    by_cases hk : ky V 0 (u j) = ky V 0 z
    · have e : ¬ ixs (fun k => ky V 0 (u k)) (ky V 0 z) (d + 1) j = c := by unfold ixs; rw [if_pos hk]; omega
      rw [b2_f e]
      by_cases hl : c ≤ j + 1
      · obtain ⟨n, rfl⟩ : ∃ q, n = q + 1 := ⟨n - 1, by omega⟩
        simp (disch := omega) only [fX11_laysGroups_49, Int.reduceEq, Int.reduceNe, Int.reduceLT, Int.reduceLE, Int.reduceAdd, Int.reduceSub, Int.reduceMul, Int.reduceNeg, Int.zero_add, Int.add_zero, nm_eq, bd_some, bv_some, aI_ok, aL_ok, aS_ok, dv_ok, dw_ok, I_add, I_sub, I_mul, I_neg, I_lt, I_le, I_eq, I_nat, J_add, J_sub, J_mul, J_neg, J_lt, J_le, J_eq, I_l, J_i, I_div, J_div, b2_0, b2_1, b2_nar, nar_0, nar_1, zr_0, zr_1, zr_b2, cmp_eq, cmp_le, cmp_lt, cmp_gt, cmp_ge, mx_I, mn_I, mx_L, mn_L, az_I, if_true, if_false, not_true_eq_false, not_false_eq_true, i_0, i_1, i_2, i_3, i_4, i_5, i_6, i_7, i_8, i_9, i_10, i_11, i_12, i_16, i_18, i_20, i_24, i_28, i_29, i_30, i_31, i_32, i_33, i_34, i_35, i_37, i_40, i_41, i_42, i_43, i_45, i_46, i_47, i_48, i_57, i_59, i_63, i_64, i_96, i_97, i_98, i_99, i_100, i_101, i_102, i_103, i_104, i_105, i_106, i_107, i_108, i_109, i_110, i_111, i_112, i_113, i_122, i_200, i_255, i_256, i_257, i_258, i_355, i_400, i_999, i_1000, i_1200, i_5680, i_9999, i_10000, i_99999, j_0, j_1, j_2, j_3, j_4, j_5, j_6, j_9, j_10, j_11, j_98, j_99, j_100, j_999, j_1000, j_9999, j_10000, j_99999, j_1000000, h45, hle, r26, r_same hV hR, b2_t hk, hl]
      · obtain ⟨n, rfl⟩ : ∃ q, n = q + 1 := ⟨n - 1, by omega⟩
        simp (disch := omega) only [fX11_laysGroups_49, Int.reduceEq, Int.reduceNe, Int.reduceLT, Int.reduceLE, Int.reduceAdd, Int.reduceSub, Int.reduceMul, Int.reduceNeg, Int.zero_add, Int.add_zero, nm_eq, bd_some, bv_some, aI_ok, aL_ok, aS_ok, dv_ok, dw_ok, I_add, I_sub, I_mul, I_neg, I_lt, I_le, I_eq, I_nat, J_add, J_sub, J_mul, J_neg, J_lt, J_le, J_eq, I_l, J_i, I_div, J_div, b2_0, b2_1, b2_nar, nar_0, nar_1, zr_0, zr_1, zr_b2, cmp_eq, cmp_le, cmp_lt, cmp_gt, cmp_ge, mx_I, mn_I, mx_L, mn_L, az_I, if_true, if_false, not_true_eq_false, not_false_eq_true, i_0, i_1, i_2, i_3, i_4, i_5, i_6, i_7, i_8, i_9, i_10, i_11, i_12, i_16, i_18, i_20, i_24, i_28, i_29, i_30, i_31, i_32, i_33, i_34, i_35, i_37, i_40, i_41, i_42, i_43, i_45, i_46, i_47, i_48, i_57, i_59, i_63, i_64, i_96, i_97, i_98, i_99, i_100, i_101, i_102, i_103, i_104, i_105, i_106, i_107, i_108, i_109, i_110, i_111, i_112, i_113, i_122, i_200, i_255, i_256, i_257, i_258, i_355, i_400, i_999, i_1000, i_1200, i_5680, i_9999, i_10000, i_99999, j_0, j_1, j_2, j_3, j_4, j_5, j_6, j_9, j_10, j_11, j_98, j_99, j_100, j_999, j_1000, j_9999, j_10000, j_99999, j_1000000, h45, hle, r26, r_same hV hR, b2_t hk, hl]
    · have e : ixs (fun k => ky V 0 (u k)) (ky V 0 z) (d + 1) j = ixs (fun k => ky V 0 (u k)) (ky V 0 z) d (j + 1) := by
        show (if ky V 0 (u j) = ky V 0 z then j else _) = _
        rw [if_neg hk]
      rw [e, ← ih n (j + 1) (by omega) (by omega) (by omega)]
      simp (disch := omega) only [fX11_laysGroups_49, Int.reduceEq, Int.reduceNe, Int.reduceLT, Int.reduceLE, Int.reduceAdd, Int.reduceSub, Int.reduceMul, Int.reduceNeg, Int.zero_add, Int.add_zero, nm_eq, bd_some, bv_some, aI_ok, aL_ok, aS_ok, dv_ok, dw_ok, I_add, I_sub, I_mul, I_neg, I_lt, I_le, I_eq, I_nat, J_add, J_sub, J_mul, J_neg, J_lt, J_le, J_eq, I_l, J_i, I_div, J_div, b2_0, b2_1, b2_nar, nar_0, nar_1, zr_0, zr_1, zr_b2, cmp_eq, cmp_le, cmp_lt, cmp_gt, cmp_ge, mx_I, mn_I, mx_L, mn_L, az_I, if_true, if_false, not_true_eq_false, not_false_eq_true, i_0, i_1, i_2, i_3, i_4, i_5, i_6, i_7, i_8, i_9, i_10, i_11, i_12, i_16, i_18, i_20, i_24, i_28, i_29, i_30, i_31, i_32, i_33, i_34, i_35, i_37, i_40, i_41, i_42, i_43, i_45, i_46, i_47, i_48, i_57, i_59, i_63, i_64, i_96, i_97, i_98, i_99, i_100, i_101, i_102, i_103, i_104, i_105, i_106, i_107, i_108, i_109, i_110, i_111, i_112, i_113, i_122, i_200, i_255, i_256, i_257, i_258, i_355, i_400, i_999, i_1000, i_1200, i_5680, i_9999, i_10000, i_99999, j_0, j_1, j_2, j_3, j_4, j_5, j_6, j_9, j_10, j_11, j_98, j_99, j_100, j_999, j_1000, j_9999, j_10000, j_99999, j_1000000, h45, hle, r26, r_same hV hR, b2_f hk]
end
