/-! What a study answers: model, level, average, worth, match. -/
theorem az_in (a : Int) : 0 ≤ az a ∧ (az a = a ∨ az a = -a) := by unfold az; split <;> omega
theorem mul_in {a b A B : Int} (a0 : 0 ≤ a) (a1 : a ≤ A) (b0 : 0 ≤ b) (b1 : b ≤ B) : 0 ≤ a * b ∧ a * b ≤ A * B := ⟨Int.mul_nonneg a0 b0, Int.mul_le_mul a1 b1 b0 (by omega)⟩
theorem mul_ab {a b A B : Int} (a0 : 0 ≤ a) (a1 : a ≤ A) (b0 : -B ≤ b) (b1 : b ≤ B) : -(A * B) ≤ a * b ∧ a * b ≤ A * B := by
  rcases Int.le_total 0 b with h | h
  · have := mul_in a0 a1 h b1
    omega
  · have := mul_in (b := -b) (B := B) a0 a1 (by omega) (by omega)
    rw [Int.mul_neg] at this
    omega
theorem sg_le {g h : Int → Int} : ∀ (d : Nat) (i : Int), (∀ z, i ≤ z → z < i + d → g z ≤ h z) → sg d i g ≤ sg d i h := by
  intro d
  induction d with
  | zero => intro i _; exact Int.le_refl _
  | succ d ih =>
    intro i hz
    have h1 := hz i (by omega) (by omega)
    have h2 := ih (i + 1) (fun z a b => hz z (by omega) (by omega))
    show g i + sg d (i + 1) g ≤ h i + sg d (i + 1) h
    omega
def nlf (a : Int → Int) (l : Int) : Nat → Int → Int → Int
  | 0, _, best => best
  | d + 1, o, best => nlf a l d (o + 1) (nl1 a l o best)
section
variable {N : Nat} {b : Nat} {V : Vw} {f : Int}
theorem x_nl_eq (V : Vw) (f m l : Int) : x_nl V f m l = nlf (x_im V f m) l 4 0 (-1) := rfl
theorem nl1_in {a : Int → Int} {l o best : Int} (ho : 0 ≤ o) (h1 : o ≤ 3) (hb : -1 ≤ best) (hb1 : best ≤ 3) : -1 ≤ nl1 a l o best ∧ nl1 a l o best ≤ 3 := by
  unfold nl1; split <;> omega
theorem x_nl_in (V : Vw) (f m l : Int) : -1 ≤ x_nl V f m l ∧ x_nl V f m l ≤ 3 := by
  have h0 := nl1_in (a := x_im V f m) (l := l) (o := 0) (best := -1) (by omega) (by omega) (by omega) (by omega)
  have h1 := nl1_in (a := x_im V f m) (l := l) (o := 1) (by omega) (by omega) h0.1 h0.2
  have h2 := nl1_in (a := x_im V f m) (l := l) (o := 2) (by omega) (by omega) h1.1 h1.2
  exact nl1_in (by omega) (by omega) h2.1 h2.2
theorem nl1_pos {a : Int → Int} {l o best : Int} (ho : 0 ≤ o) (hb : -1 ≤ best) (h : 0 ≤ best ∨ 0 < a o) : 0 ≤ nl1 a l o best := by
  unfold nl1; split
  · exact ho
  · rename_i hc
    rcases h with h | h
    · exact h
    · by_cases hq : best = -1
      · exact absurd ⟨h, Or.inl hq⟩ hc
      · omega
theorem x_hi_sum (hV : vB V) (f m : Int) : x_hi V f m = x_im V f m 0 + x_im V f m 1 + x_im V f m 2 + x_im V f m 3 := by
  unfold x_hi x_im
  rw [← sg_add, ← sg_add, ← sg_add]
  refine sg_congr _ _ (fun z z0 z1 => ?_)
  have hz := zN_le hV
  have hv := hV.2.1 z (by omega) (by omega)
  unfold vS at hv
  unfold g_hi g_im
  by_cases hp : p_to V z ∧ s_fm V z = f ∧ s_md V z = m
  · rw [if_pos hp]
    rcases (show s_lv V z = 0 ∨ s_lv V z = 1 ∨ s_lv V z = 2 ∨ s_lv V z = 3 by omega) with e | e | e | e
    · rw [if_pos ⟨hp.1, hp.2.1, hp.2.2, e⟩, if_neg (fun q => by omega), if_neg (fun q => by omega), if_neg (fun q => by omega)]; omega
    · rw [if_neg (fun q => by omega), if_pos ⟨hp.1, hp.2.1, hp.2.2, e⟩, if_neg (fun q => by omega), if_neg (fun q => by omega)]; omega
    · rw [if_neg (fun q => by omega), if_neg (fun q => by omega), if_pos ⟨hp.1, hp.2.1, hp.2.2, e⟩, if_neg (fun q => by omega)]; omega
    · rw [if_neg (fun q => by omega), if_neg (fun q => by omega), if_neg (fun q => by omega), if_pos ⟨hp.1, hp.2.1, hp.2.2, e⟩]; omega
  · rw [if_neg hp, if_neg (fun q => hp ⟨q.1, q.2.1, q.2.2.1⟩), if_neg (fun q => hp ⟨q.1, q.2.1, q.2.2.1⟩), if_neg (fun q => hp ⟨q.1, q.2.1, q.2.2.1⟩), if_neg (fun q => hp ⟨q.1, q.2.1, q.2.2.1⟩)]; omega
/-- where there are IN ones there is a nearest level -/
theorem x_nl_pos (hV : vB V) {f m : Int} (l : Int) (h : 0 < x_hi V f m) : 0 ≤ x_nl V f m l := by
  rw [x_hi_sum hV] at h
  have a0 := x_im_in hV f m 0
  have a1 := x_im_in hV f m 1
  have a2 := x_im_in hV f m 2
  have a3 := x_im_in hV f m 3
  have i0 := nl1_in (a := x_im V f m) (l := l) (o := 0) (best := -1) (by omega) (by omega) (by omega) (by omega)
  have i1 := nl1_in (a := x_im V f m) (l := l) (o := 1) (by omega) (by omega) i0.1 i0.2
  have i2 := nl1_in (a := x_im V f m) (l := l) (o := 2) (by omega) (by omega) i1.1 i1.2
  unfold x_nl
  by_cases h0 : 0 < x_im V f m 0
  · exact nl1_pos (by omega) i2.1 (Or.inl (nl1_pos (by omega) i1.1 (Or.inl (nl1_pos (by omega) i0.1 (Or.inl (nl1_pos (by omega) (by omega) (Or.inr h0)))))))
  · by_cases h1 : 0 < x_im V f m 1
    · exact nl1_pos (by omega) i2.1 (Or.inl (nl1_pos (by omega) i1.1 (Or.inl (nl1_pos (by omega) i0.1 (Or.inr h1)))))
    · by_cases h2 : 0 < x_im V f m 2
      · exact nl1_pos (by omega) i2.1 (Or.inl (nl1_pos (by omega) i1.1 (Or.inr h2)))
      · exact nl1_pos (by omega) i2.1 (Or.inr (by omega))
theorem lmf_in {f m : Int} : ∀ (d : Nat) (o best : Int), 0 ≤ o → o + d ≤ mN V → (best = -1 ∨ (0 ≤ best ∧ best < mN V ∧ 0 < x_hi V f best)) → lmf V f m d o best = -1 ∨ (0 ≤ lmf V f m d o best ∧ lmf V f m d o best < mN V ∧ 0 < x_hi V f (lmf V f m d o best)) := by
  intro d
  induction d with
  | zero => intro o best _ _ h; exact h
  | succ d ih =>
    intro o best h0 h1 h
    refine ih (o + 1) (lm1 V f m o best) (by omega) (by omega) ?_
    unfold lm1
    split
    · rename_i hc
      exact Or.inr ⟨h0, by omega, hc.1⟩
    · exact h
theorem x_md_in (hV : vB V) {f m : Int} (m0 : 0 ≤ m) (m1 : m < mN V) : x_md V f m = -1 ∨ (0 ≤ x_md V f m ∧ x_md V f m < mN V ∧ 0 < x_hi V f (x_md V f m)) := by
  have hn := hV.1
  unfold vN at hn
  unfold x_md
  split
  · rename_i h; exact Or.inr ⟨m0, m1, h⟩
  · exact lmf_in _ _ _ (by omega) (by omega) (Or.inl rfl)
def apx (V : Vw) (m best : Int) : Int := if best = -1 then 0 else az (m_lk V best - m_lk V m)
theorem c_mf_l (hV : vB V) (f0 : 0 ≤ f) (f1 : f < 4) {μ : Mem} (hB : CB b V μ) (hT : ST b V f μ) {m : Int} (m0 : 0 ≤ m) (m1 : m < mN V) : ∀ (d n : Nat) (o best : Int), d < n → 0 ≤ o → o + d = mN V → (best = -1 ∨ (0 ≤ best ∧ best < mN V)) → fX8_modelFor_32 N n (I_ m) (I_ best) (I_ (apx V m best)) (I_ (c_of V f m)) (I_ o) μ = some (I_ (lmf V f m d o best), μ) := by
  have hn := hV.1
  unfold vN at hn
  have hM := hV.2.2.1 m m0 m1
  unfold vM at hM
  have hc := c_of_in hV (f := f) f0 f1 m0 m1
  intro d
  induction d with
  | zero =>
    intro n o best h1 h2 h3 h4
    obtain ⟨n, rfl⟩ : ∃ m, n = m + 1 := ⟨n - 1, by omega⟩
    have hle : mN V ≤ o := by omega
    simp (disch := omega) only [fX8_modelFor_32, Int.reduceEq, Int.reduceNe, Int.reduceLT, Int.reduceLE, Int.reduceAdd, Int.reduceSub, Int.reduceMul, Int.reduceNeg, Int.zero_add, Int.add_zero, nm_eq, bd_some, bv_some, aI_ok, aL_ok, aS_ok, dv_ok, dw_ok, I_add, I_sub, I_mul, I_neg, I_lt, I_le, I_eq, I_nat, J_add, J_sub, J_mul, J_neg, J_lt, J_le, J_eq, I_l, J_i, I_div, J_div, b2_0, b2_1, b2_nar, nar_0, nar_1, zr_0, zr_1, zr_b2, cmp_eq, cmp_le, cmp_lt, cmp_gt, cmp_ge, mx_I, mn_I, mx_L, mn_L, az_I, if_true, if_false, i_0, i_1, i_2, i_3, i_4, i_5, i_6, i_7, i_8, i_9, i_10, i_11, i_12, i_16, i_18, i_20, i_24, i_28, i_29, i_30, i_31, i_32, i_33, i_34, i_35, i_37, i_40, i_41, i_42, i_43, i_45, i_46, i_47, i_48, i_57, i_59, i_63, i_64, i_96, i_97, i_98, i_99, i_100, i_101, i_102, i_103, i_104, i_105, i_106, i_107, i_108, i_109, i_110, i_111, i_112, i_113, i_122, i_200, i_255, i_256, i_257, i_258, i_355, i_400, i_999, i_1000, i_1200, i_5680, i_9999, i_10000, i_99999, j_0, j_1, j_2, j_3, j_4, j_5, j_6, j_9, j_10, j_11, j_98, j_99, j_100, j_999, j_1000, j_9999, j_10000, j_99999, j_1000000, hT.1.1, gB_ok hB.1, CB_m hB, CB_f hB, CB_co hB, CB_lk hB, CB_tg hB, CB_tc hB, CB_si hB, CB_se hB, hle, lmf]
  | succ d ih =>
    intro n o best h1 h2 h3 h4
    obtain ⟨n, rfl⟩ : ∃ m, n = m + 1 := ⟨n - 1, by omega⟩
    have hle : ¬ mN V ≤ o := by omega
    have hlt : o < mN V := by omega
    have hO := hV.2.2.1 o h2 hlt
    unfold vM at hO
    have hco := c_of_in hV (f := f) (m := o) f0 f1 h2 hlt
    have r15 := hT.2.2.2.1 o h2 (by omega)
    have za := az_in (c_of V f o - c_of V f m)
    have zb := az_in (m_lk V o - m_lk V m)
    have zd : 0 ≤ apx V m best ∧ apx V m best ≤ 99 := by
      unfold apx
      split
      · omega
      · have hq := hV.2.2.1 best (by omega) (by omega)
        unfold vM at hq
        have := az_in (m_lk V best - m_lk V m)
        omega
    by_cases hh : 0 < x_hi V f o
    · by_cases hk : 5 * az (c_of V f o - c_of V f m) ≤ c_of V f m
      · have hk' : ¬ c_of V f m < 5 * az (c_of V f o - c_of V f m) := by omega
        by_cases hb : best = -1
        · subst hb
          have e : lm1 V f m o (-1) = o := by unfold lm1; rw [if_pos ⟨hh, hk, Or.inl rfl⟩]
          have ea : az (m_lk V o - m_lk V m) = apx V m o := by unfold apx; rw [if_neg (by omega)]
          simp (disch := omega) only [fX8_modelFor_32, Int.reduceEq, Int.reduceNe, Int.reduceLT, Int.reduceLE, Int.reduceAdd, Int.reduceSub, Int.reduceMul, Int.reduceNeg, Int.zero_add, Int.add_zero, nm_eq, bd_some, bv_some, aI_ok, aL_ok, aS_ok, dv_ok, dw_ok, I_add, I_sub, I_mul, I_neg, I_lt, I_le, I_eq, I_nat, J_add, J_sub, J_mul, J_neg, J_lt, J_le, J_eq, I_l, J_i, I_div, J_div, b2_0, b2_1, b2_nar, nar_0, nar_1, zr_0, zr_1, zr_b2, cmp_eq, cmp_le, cmp_lt, cmp_gt, cmp_ge, mx_I, mn_I, mx_L, mn_L, az_I, if_true, if_false, i_0, i_1, i_2, i_3, i_4, i_5, i_6, i_7, i_8, i_9, i_10, i_11, i_12, i_16, i_18, i_20, i_24, i_28, i_29, i_30, i_31, i_32, i_33, i_34, i_35, i_37, i_40, i_41, i_42, i_43, i_45, i_46, i_47, i_48, i_57, i_59, i_63, i_64, i_96, i_97, i_98, i_99, i_100, i_101, i_102, i_103, i_104, i_105, i_106, i_107, i_108, i_109, i_110, i_111, i_112, i_113, i_122, i_200, i_255, i_256, i_257, i_258, i_355, i_400, i_999, i_1000, i_1200, i_5680, i_9999, i_10000, i_99999, j_0, j_1, j_2, j_3, j_4, j_5, j_6, j_9, j_10, j_11, j_98, j_99, j_100, j_999, j_1000, j_9999, j_10000, j_99999, j_1000000, hT.1.1, hT.1.2, gB_ok hB.1, CB_m hB, CB_f hB, CB_co hB, CB_lk hB, CB_tg hB, CB_tc hB, CB_si hB, CB_se hB, hle, r15, b2_t hh, c_costOf hV hB, hk', lmf, e, ea, ih]
        · by_cases hc2 : az (m_lk V o - m_lk V m) < apx V m best
          · have ex : apx V m best = az (m_lk V best - m_lk V m) := by unfold apx; rw [if_neg hb]
            have e : lm1 V f m o best = o := by unfold lm1; rw [if_pos ⟨hh, hk, Or.inr (by omega)⟩]
            have ea : az (m_lk V o - m_lk V m) = apx V m o := by unfold apx; rw [if_neg (by omega)]
            have hc3 : ¬ apx V m best ≤ az (m_lk V o - m_lk V m) := by omega
            rw [ea] at hc3
            simp (disch := omega) only [fX8_modelFor_32, Int.reduceEq, Int.reduceNe, Int.reduceLT, Int.reduceLE, Int.reduceAdd, Int.reduceSub, Int.reduceMul, Int.reduceNeg, Int.zero_add, Int.add_zero, nm_eq, bd_some, bv_some, aI_ok, aL_ok, aS_ok, dv_ok, dw_ok, I_add, I_sub, I_mul, I_neg, I_lt, I_le, I_eq, I_nat, J_add, J_sub, J_mul, J_neg, J_lt, J_le, J_eq, I_l, J_i, I_div, J_div, b2_0, b2_1, b2_nar, nar_0, nar_1, zr_0, zr_1, zr_b2, cmp_eq, cmp_le, cmp_lt, cmp_gt, cmp_ge, mx_I, mn_I, mx_L, mn_L, az_I, if_true, if_false, i_0, i_1, i_2, i_3, i_4, i_5, i_6, i_7, i_8, i_9, i_10, i_11, i_12, i_16, i_18, i_20, i_24, i_28, i_29, i_30, i_31, i_32, i_33, i_34, i_35, i_37, i_40, i_41, i_42, i_43, i_45, i_46, i_47, i_48, i_57, i_59, i_63, i_64, i_96, i_97, i_98, i_99, i_100, i_101, i_102, i_103, i_104, i_105, i_106, i_107, i_108, i_109, i_110, i_111, i_112, i_113, i_122, i_200, i_255, i_256, i_257, i_258, i_355, i_400, i_999, i_1000, i_1200, i_5680, i_9999, i_10000, i_99999, j_0, j_1, j_2, j_3, j_4, j_5, j_6, j_9, j_10, j_11, j_98, j_99, j_100, j_999, j_1000, j_9999, j_10000, j_99999, j_1000000, hT.1.1, hT.1.2, gB_ok hB.1, CB_m hB, CB_f hB, CB_co hB, CB_lk hB, CB_tg hB, CB_tc hB, CB_si hB, CB_se hB, hle, r15, b2_t hh, c_costOf hV hB, hk', lmf, e, hb, ea, hc3, ih]
          · have ex : apx V m best = az (m_lk V best - m_lk V m) := by unfold apx; rw [if_neg hb]
            have e : lm1 V f m o best = best := by
              unfold lm1; rw [if_neg]
              intro q
              rcases q.2.2 with q | q
              · exact hb q
              · exact hc2 (by omega)
            have hc3 : apx V m best ≤ az (m_lk V o - m_lk V m) := by omega
            simp (disch := omega) only [fX8_modelFor_32, Int.reduceEq, Int.reduceNe, Int.reduceLT, Int.reduceLE, Int.reduceAdd, Int.reduceSub, Int.reduceMul, Int.reduceNeg, Int.zero_add, Int.add_zero, nm_eq, bd_some, bv_some, aI_ok, aL_ok, aS_ok, dv_ok, dw_ok, I_add, I_sub, I_mul, I_neg, I_lt, I_le, I_eq, I_nat, J_add, J_sub, J_mul, J_neg, J_lt, J_le, J_eq, I_l, J_i, I_div, J_div, b2_0, b2_1, b2_nar, nar_0, nar_1, zr_0, zr_1, zr_b2, cmp_eq, cmp_le, cmp_lt, cmp_gt, cmp_ge, mx_I, mn_I, mx_L, mn_L, az_I, if_true, if_false, i_0, i_1, i_2, i_3, i_4, i_5, i_6, i_7, i_8, i_9, i_10, i_11, i_12, i_16, i_18, i_20, i_24, i_28, i_29, i_30, i_31, i_32, i_33, i_34, i_35, i_37, i_40, i_41, i_42, i_43, i_45, i_46, i_47, i_48, i_57, i_59, i_63, i_64, i_96, i_97, i_98, i_99, i_100, i_101, i_102, i_103, i_104, i_105, i_106, i_107, i_108, i_109, i_110, i_111, i_112, i_113, i_122, i_200, i_255, i_256, i_257, i_258, i_355, i_400, i_999, i_1000, i_1200, i_5680, i_9999, i_10000, i_99999, j_0, j_1, j_2, j_3, j_4, j_5, j_6, j_9, j_10, j_11, j_98, j_99, j_100, j_999, j_1000, j_9999, j_10000, j_99999, j_1000000, hT.1.1, hT.1.2, gB_ok hB.1, CB_m hB, CB_f hB, CB_co hB, CB_lk hB, CB_tg hB, CB_tc hB, CB_si hB, CB_se hB, hle, r15, b2_t hh, c_costOf hV hB, hk', lmf, e, hb, hc3, ih]
      · have hk' : c_of V f m < 5 * az (c_of V f o - c_of V f m) := by omega
        have e : lm1 V f m o best = best := by unfold lm1; rw [if_neg (fun q => hk q.2.1)]
        simp (disch := omega) only [fX8_modelFor_32, Int.reduceEq, Int.reduceNe, Int.reduceLT, Int.reduceLE, Int.reduceAdd, Int.reduceSub, Int.reduceMul, Int.reduceNeg, Int.zero_add, Int.add_zero, nm_eq, bd_some, bv_some, aI_ok, aL_ok, aS_ok, dv_ok, dw_ok, I_add, I_sub, I_mul, I_neg, I_lt, I_le, I_eq, I_nat, J_add, J_sub, J_mul, J_neg, J_lt, J_le, J_eq, I_l, J_i, I_div, J_div, b2_0, b2_1, b2_nar, nar_0, nar_1, zr_0, zr_1, zr_b2, cmp_eq, cmp_le, cmp_lt, cmp_gt, cmp_ge, mx_I, mn_I, mx_L, mn_L, az_I, if_true, if_false, i_0, i_1, i_2, i_3, i_4, i_5, i_6, i_7, i_8, i_9, i_10, i_11, i_12, i_16, i_18, i_20, i_24, i_28, i_29, i_30, i_31, i_32, i_33, i_34, i_35, i_37, i_40, i_41, i_42, i_43, i_45, i_46, i_47, i_48, i_57, i_59, i_63, i_64, i_96, i_97, i_98, i_99, i_100, i_101, i_102, i_103, i_104, i_105, i_106, i_107, i_108, i_109, i_110, i_111, i_112, i_113, i_122, i_200, i_255, i_256, i_257, i_258, i_355, i_400, i_999, i_1000, i_1200, i_5680, i_9999, i_10000, i_99999, j_0, j_1, j_2, j_3, j_4, j_5, j_6, j_9, j_10, j_11, j_98, j_99, j_100, j_999, j_1000, j_9999, j_10000, j_99999, j_1000000, hT.1.1, hT.1.2, gB_ok hB.1, CB_m hB, CB_f hB, CB_co hB, CB_lk hB, CB_tg hB, CB_tc hB, CB_si hB, CB_se hB, hle, r15, b2_t hh, c_costOf hV hB, hk', lmf, e, ih]
    · have e : lm1 V f m o best = best := by unfold lm1; rw [if_neg (fun q => hh q.1)]
      simp (disch := omega) only [fX8_modelFor_32, Int.reduceEq, Int.reduceNe, Int.reduceLT, Int.reduceLE, Int.reduceAdd, Int.reduceSub, Int.reduceMul, Int.reduceNeg, Int.zero_add, Int.add_zero, nm_eq, bd_some, bv_some, aI_ok, aL_ok, aS_ok, dv_ok, dw_ok, I_add, I_sub, I_mul, I_neg, I_lt, I_le, I_eq, I_nat, J_add, J_sub, J_mul, J_neg, J_lt, J_le, J_eq, I_l, J_i, I_div, J_div, b2_0, b2_1, b2_nar, nar_0, nar_1, zr_0, zr_1, zr_b2, cmp_eq, cmp_le, cmp_lt, cmp_gt, cmp_ge, mx_I, mn_I, mx_L, mn_L, az_I, if_true, if_false, i_0, i_1, i_2, i_3, i_4, i_5, i_6, i_7, i_8, i_9, i_10, i_11, i_12, i_16, i_18, i_20, i_24, i_28, i_29, i_30, i_31, i_32, i_33, i_34, i_35, i_37, i_40, i_41, i_42, i_43, i_45, i_46, i_47, i_48, i_57, i_59, i_63, i_64, i_96, i_97, i_98, i_99, i_100, i_101, i_102, i_103, i_104, i_105, i_106, i_107, i_108, i_109, i_110, i_111, i_112, i_113, i_122, i_200, i_255, i_256, i_257, i_258, i_355, i_400, i_999, i_1000, i_1200, i_5680, i_9999, i_10000, i_99999, j_0, j_1, j_2, j_3, j_4, j_5, j_6, j_9, j_10, j_11, j_98, j_99, j_100, j_999, j_1000, j_9999, j_10000, j_99999, j_1000000, hT.1.1, gB_ok hB.1, CB_m hB, CB_f hB, CB_co hB, CB_lk hB, CB_tg hB, CB_tc hB, CB_si hB, CB_se hB, hle, r15, b2_f hh, lmf, e, ih]
theorem c_mf (hV : vB V) (hN : 100 ≤ N) (f0 : 0 ≤ f) (f1 : f < 4) {μ : Mem} (hB : CB b V μ) (hT : ST b V f μ) {m : Int} (m0 : 0 ≤ m) (m1 : m < mN V) : fX8_modelFor N (I_ m) μ = some (I_ (x_md V f m), μ) := by
  have hn := hV.1
  unfold vN at hn
  have r15 := hT.2.2.2.1 m m0 (by omega)
  have hc := c_of_in hV (f := f) f0 f1 m0 m1
  unfold x_md
  by_cases hh : 0 < x_hi V f m
  · rw [if_pos hh]
    simp (disch := omega) only [fX8_modelFor, Int.reduceEq, Int.reduceNe, Int.reduceLT, Int.reduceLE, Int.reduceAdd, Int.reduceSub, Int.reduceMul, Int.reduceNeg, Int.zero_add, Int.add_zero, nm_eq, bd_some, bv_some, aI_ok, aL_ok, aS_ok, dv_ok, dw_ok, I_add, I_sub, I_mul, I_neg, I_lt, I_le, I_eq, I_nat, J_add, J_sub, J_mul, J_neg, J_lt, J_le, J_eq, I_l, J_i, I_div, J_div, b2_0, b2_1, b2_nar, nar_0, nar_1, zr_0, zr_1, zr_b2, cmp_eq, cmp_le, cmp_lt, cmp_gt, cmp_ge, mx_I, mn_I, mx_L, mn_L, az_I, if_true, if_false, i_0, i_1, i_2, i_3, i_4, i_5, i_6, i_7, i_8, i_9, i_10, i_11, i_12, i_16, i_18, i_20, i_24, i_28, i_29, i_30, i_31, i_32, i_33, i_34, i_35, i_37, i_40, i_41, i_42, i_43, i_45, i_46, i_47, i_48, i_57, i_59, i_63, i_64, i_96, i_97, i_98, i_99, i_100, i_101, i_102, i_103, i_104, i_105, i_106, i_107, i_108, i_109, i_110, i_111, i_112, i_113, i_122, i_200, i_255, i_256, i_257, i_258, i_355, i_400, i_999, i_1000, i_1200, i_5680, i_9999, i_10000, i_99999, j_0, j_1, j_2, j_3, j_4, j_5, j_6, j_9, j_10, j_11, j_98, j_99, j_100, j_999, j_1000, j_9999, j_10000, j_99999, j_1000000, r15, b2_t hh]
  · rw [if_neg hh]
    have := c_mf_l (N := N) hV f0 f1 hB hT m0 m1 (mN V).toNat N 0 (-1) (by omega) (by omega) (by omega) (Or.inl rfl)
    have e0 : apx V m (-1) = 0 := rfl
    rw [e0] at this
    simp (disch := omega) only [fX8_modelFor, Int.reduceEq, Int.reduceNe, Int.reduceLT, Int.reduceLE, Int.reduceAdd, Int.reduceSub, Int.reduceMul, Int.reduceNeg, Int.zero_add, Int.add_zero, nm_eq, bd_some, bv_some, aI_ok, aL_ok, aS_ok, dv_ok, dw_ok, I_add, I_sub, I_mul, I_neg, I_lt, I_le, I_eq, I_nat, J_add, J_sub, J_mul, J_neg, J_lt, J_le, J_eq, I_l, J_i, I_div, J_div, b2_0, b2_1, b2_nar, nar_0, nar_1, zr_0, zr_1, zr_b2, cmp_eq, cmp_le, cmp_lt, cmp_gt, cmp_ge, mx_I, mn_I, mx_L, mn_L, az_I, if_true, if_false, i_0, i_1, i_2, i_3, i_4, i_5, i_6, i_7, i_8, i_9, i_10, i_11, i_12, i_16, i_18, i_20, i_24, i_28, i_29, i_30, i_31, i_32, i_33, i_34, i_35, i_37, i_40, i_41, i_42, i_43, i_45, i_46, i_47, i_48, i_57, i_59, i_63, i_64, i_96, i_97, i_98, i_99, i_100, i_101, i_102, i_103, i_104, i_105, i_106, i_107, i_108, i_109, i_110, i_111, i_112, i_113, i_122, i_200, i_255, i_256, i_257, i_258, i_355, i_400, i_999, i_1000, i_1200, i_5680, i_9999, i_10000, i_99999, j_0, j_1, j_2, j_3, j_4, j_5, j_6, j_9, j_10, j_11, j_98, j_99, j_100, j_999, j_1000, j_9999, j_10000, j_99999, j_1000000, r15, b2_f hh, hT.1.1, hT.1.2, gB_ok hB.1, c_costOf hV hB, this]
    rfl
theorem c_lf_l (hV : vB V) {μ : Mem} (hT : ST b V f μ) {m l : Int} (m0 : 0 ≤ m) (m1 : m < 6) (l0 : 0 ≤ l) (l1 : l ≤ 3) : ∀ (d n : Nat) (o best : Int), d < n → 0 ≤ o → o + d = 4 → -1 ≤ best → best ≤ 3 → fX8_levelFor_5 N n (I_ m) (I_ l) (I_ best) (I_ o) μ = some (I_ (nlf (x_im V f m) l d o best), μ) := by
  intro d
  induction d with
  | zero =>
    intro n o best h1 h2 h3 h4 h5
    obtain ⟨n, rfl⟩ : ∃ m, n = m + 1 := ⟨n - 1, by omega⟩
    have hle : 4 ≤ o := by omega
    have hm : ¬ m = -1 := by omega
    simp (disch := omega) only [fX8_levelFor_5, Int.reduceEq, Int.reduceNe, Int.reduceLT, Int.reduceLE, Int.reduceAdd, Int.reduceSub, Int.reduceMul, Int.reduceNeg, Int.zero_add, Int.add_zero, nm_eq, bd_some, bv_some, aI_ok, aL_ok, aS_ok, dv_ok, dw_ok, I_add, I_sub, I_mul, I_neg, I_lt, I_le, I_eq, I_nat, J_add, J_sub, J_mul, J_neg, J_lt, J_le, J_eq, I_l, J_i, I_div, J_div, b2_0, b2_1, b2_nar, nar_0, nar_1, zr_0, zr_1, zr_b2, cmp_eq, cmp_le, cmp_lt, cmp_gt, cmp_ge, mx_I, mn_I, mx_L, mn_L, az_I, if_true, if_false, i_0, i_1, i_2, i_3, i_4, i_5, i_6, i_7, i_8, i_9, i_10, i_11, i_12, i_16, i_18, i_20, i_24, i_28, i_29, i_30, i_31, i_32, i_33, i_34, i_35, i_37, i_40, i_41, i_42, i_43, i_45, i_46, i_47, i_48, i_57, i_59, i_63, i_64, i_96, i_97, i_98, i_99, i_100, i_101, i_102, i_103, i_104, i_105, i_106, i_107, i_108, i_109, i_110, i_111, i_112, i_113, i_122, i_200, i_255, i_256, i_257, i_258, i_355, i_400, i_999, i_1000, i_1200, i_5680, i_9999, i_10000, i_99999, j_0, j_1, j_2, j_3, j_4, j_5, j_6, j_9, j_10, j_11, j_98, j_99, j_100, j_999, j_1000, j_9999, j_10000, j_99999, j_1000000, hm, hle, nlf]
  | succ d ih =>
    intro n o best h1 h2 h3 h4 h5
    obtain ⟨n, rfl⟩ : ∃ m, n = m + 1 := ⟨n - 1, by omega⟩
    have hle : ¬ 4 ≤ o := by omega
    have hm : ¬ m = -1 := by omega
    have r16 := (hT.2.2.2.2.1 m o m0 m1 h2 (by omega)).1
    have hi := x_im_in hV f m o
    have za := az_in (o - l)
    have zb := az_in (best - l)
    by_cases hh : 0 < x_im V f m o
    · have hh' : ¬ x_im V f m o ≤ 0 := by omega
      by_cases hb : best = -1
      · subst hb
        have e : nl1 (x_im V f m) l o (-1) = o := by unfold nl1; rw [if_pos ⟨hh, Or.inl rfl⟩]
        simp (disch := omega) only [fX8_levelFor_5, Int.reduceEq, Int.reduceNe, Int.reduceLT, Int.reduceLE, Int.reduceAdd, Int.reduceSub, Int.reduceMul, Int.reduceNeg, Int.zero_add, Int.add_zero, nm_eq, bd_some, bv_some, aI_ok, aL_ok, aS_ok, dv_ok, dw_ok, I_add, I_sub, I_mul, I_neg, I_lt, I_le, I_eq, I_nat, J_add, J_sub, J_mul, J_neg, J_lt, J_le, J_eq, I_l, J_i, I_div, J_div, b2_0, b2_1, b2_nar, nar_0, nar_1, zr_0, zr_1, zr_b2, cmp_eq, cmp_le, cmp_lt, cmp_gt, cmp_ge, mx_I, mn_I, mx_L, mn_L, az_I, if_true, if_false, i_0, i_1, i_2, i_3, i_4, i_5, i_6, i_7, i_8, i_9, i_10, i_11, i_12, i_16, i_18, i_20, i_24, i_28, i_29, i_30, i_31, i_32, i_33, i_34, i_35, i_37, i_40, i_41, i_42, i_43, i_45, i_46, i_47, i_48, i_57, i_59, i_63, i_64, i_96, i_97, i_98, i_99, i_100, i_101, i_102, i_103, i_104, i_105, i_106, i_107, i_108, i_109, i_110, i_111, i_112, i_113, i_122, i_200, i_255, i_256, i_257, i_258, i_355, i_400, i_999, i_1000, i_1200, i_5680, i_9999, i_10000, i_99999, j_0, j_1, j_2, j_3, j_4, j_5, j_6, j_9, j_10, j_11, j_98, j_99, j_100, j_999, j_1000, j_9999, j_10000, j_99999, j_1000000, hm, hle, r16, hh', nlf, e, ih]
      · by_cases hc : az (o - l) < az (best - l)
        · have e : nl1 (x_im V f m) l o best = o := by unfold nl1; rw [if_pos ⟨hh, Or.inr hc⟩]
          have hc' : ¬ az (best - l) ≤ az (o - l) := by omega
          simp (disch := omega) only [fX8_levelFor_5, Int.reduceEq, Int.reduceNe, Int.reduceLT, Int.reduceLE, Int.reduceAdd, Int.reduceSub, Int.reduceMul, Int.reduceNeg, Int.zero_add, Int.add_zero, nm_eq, bd_some, bv_some, aI_ok, aL_ok, aS_ok, dv_ok, dw_ok, I_add, I_sub, I_mul, I_neg, I_lt, I_le, I_eq, I_nat, J_add, J_sub, J_mul, J_neg, J_lt, J_le, J_eq, I_l, J_i, I_div, J_div, b2_0, b2_1, b2_nar, nar_0, nar_1, zr_0, zr_1, zr_b2, cmp_eq, cmp_le, cmp_lt, cmp_gt, cmp_ge, mx_I, mn_I, mx_L, mn_L, az_I, if_true, if_false, i_0, i_1, i_2, i_3, i_4, i_5, i_6, i_7, i_8, i_9, i_10, i_11, i_12, i_16, i_18, i_20, i_24, i_28, i_29, i_30, i_31, i_32, i_33, i_34, i_35, i_37, i_40, i_41, i_42, i_43, i_45, i_46, i_47, i_48, i_57, i_59, i_63, i_64, i_96, i_97, i_98, i_99, i_100, i_101, i_102, i_103, i_104, i_105, i_106, i_107, i_108, i_109, i_110, i_111, i_112, i_113, i_122, i_200, i_255, i_256, i_257, i_258, i_355, i_400, i_999, i_1000, i_1200, i_5680, i_9999, i_10000, i_99999, j_0, j_1, j_2, j_3, j_4, j_5, j_6, j_9, j_10, j_11, j_98, j_99, j_100, j_999, j_1000, j_9999, j_10000, j_99999, j_1000000, hm, hle, r16, hh', hb, nlf, e, hc', ih]
        · have e : nl1 (x_im V f m) l o best = best := by unfold nl1; rw [if_neg (fun q => q.2.elim hb hc)]
          have hc' : az (best - l) ≤ az (o - l) := by omega
          simp (disch := omega) only [fX8_levelFor_5, Int.reduceEq, Int.reduceNe, Int.reduceLT, Int.reduceLE, Int.reduceAdd, Int.reduceSub, Int.reduceMul, Int.reduceNeg, Int.zero_add, Int.add_zero, nm_eq, bd_some, bv_some, aI_ok, aL_ok, aS_ok, dv_ok, dw_ok, I_add, I_sub, I_mul, I_neg, I_lt, I_le, I_eq, I_nat, J_add, J_sub, J_mul, J_neg, J_lt, J_le, J_eq, I_l, J_i, I_div, J_div, b2_0, b2_1, b2_nar, nar_0, nar_1, zr_0, zr_1, zr_b2, cmp_eq, cmp_le, cmp_lt, cmp_gt, cmp_ge, mx_I, mn_I, mx_L, mn_L, az_I, if_true, if_false, i_0, i_1, i_2, i_3, i_4, i_5, i_6, i_7, i_8, i_9, i_10, i_11, i_12, i_16, i_18, i_20, i_24, i_28, i_29, i_30, i_31, i_32, i_33, i_34, i_35, i_37, i_40, i_41, i_42, i_43, i_45, i_46, i_47, i_48, i_57, i_59, i_63, i_64, i_96, i_97, i_98, i_99, i_100, i_101, i_102, i_103, i_104, i_105, i_106, i_107, i_108, i_109, i_110, i_111, i_112, i_113, i_122, i_200, i_255, i_256, i_257, i_258, i_355, i_400, i_999, i_1000, i_1200, i_5680, i_9999, i_10000, i_99999, j_0, j_1, j_2, j_3, j_4, j_5, j_6, j_9, j_10, j_11, j_98, j_99, j_100, j_999, j_1000, j_9999, j_10000, j_99999, j_1000000, hm, hle, r16, hh', hb, nlf, e, hc', ih]
    · have hh' : x_im V f m o ≤ 0 := by omega
      have e : nl1 (x_im V f m) l o best = best := by unfold nl1; rw [if_neg (fun q => hh q.1)]
      simp (disch := omega) only [fX8_levelFor_5, Int.reduceEq, Int.reduceNe, Int.reduceLT, Int.reduceLE, Int.reduceAdd, Int.reduceSub, Int.reduceMul, Int.reduceNeg, Int.zero_add, Int.add_zero, nm_eq, bd_some, bv_some, aI_ok, aL_ok, aS_ok, dv_ok, dw_ok, I_add, I_sub, I_mul, I_neg, I_lt, I_le, I_eq, I_nat, J_add, J_sub, J_mul, J_neg, J_lt, J_le, J_eq, I_l, J_i, I_div, J_div, b2_0, b2_1, b2_nar, nar_0, nar_1, zr_0, zr_1, zr_b2, cmp_eq, cmp_le, cmp_lt, cmp_gt, cmp_ge, mx_I, mn_I, mx_L, mn_L, az_I, if_true, if_false, i_0, i_1, i_2, i_3, i_4, i_5, i_6, i_7, i_8, i_9, i_10, i_11, i_12, i_16, i_18, i_20, i_24, i_28, i_29, i_30, i_31, i_32, i_33, i_34, i_35, i_37, i_40, i_41, i_42, i_43, i_45, i_46, i_47, i_48, i_57, i_59, i_63, i_64, i_96, i_97, i_98, i_99, i_100, i_101, i_102, i_103, i_104, i_105, i_106, i_107, i_108, i_109, i_110, i_111, i_112, i_113, i_122, i_200, i_255, i_256, i_257, i_258, i_355, i_400, i_999, i_1000, i_1200, i_5680, i_9999, i_10000, i_99999, j_0, j_1, j_2, j_3, j_4, j_5, j_6, j_9, j_10, j_11, j_98, j_99, j_100, j_999, j_1000, j_9999, j_10000, j_99999, j_1000000, hm, hle, r16, hh', nlf, e, ih]
theorem c_lf (hV : vB V) (hN : 100 ≤ N) {μ : Mem} (hT : ST b V f μ) {m l : Int} (m0 : 0 ≤ m) (m1 : m < 6) (l0 : 0 ≤ l) (l1 : l ≤ 3) : fX8_levelFor N (I_ m) (I_ l) μ = some (I_ (x_nl V f m l), μ) := by
  rw [x_nl_eq]
  have := c_lf_l (N := N) hV hT m0 m1 l0 l1 4 N 0 (-1) (by omega) (by omega) (by omega) (by omega) (by omega)
  simp (disch := omega) only [fX8_levelFor, Int.reduceEq, Int.reduceNe, Int.reduceLT, Int.reduceLE, Int.reduceAdd, Int.reduceSub, Int.reduceMul, Int.reduceNeg, Int.zero_add, Int.add_zero, nm_eq, bd_some, bv_some, aI_ok, aL_ok, aS_ok, dv_ok, dw_ok, I_add, I_sub, I_mul, I_neg, I_lt, I_le, I_eq, I_nat, J_add, J_sub, J_mul, J_neg, J_lt, J_le, J_eq, I_l, J_i, I_div, J_div, b2_0, b2_1, b2_nar, nar_0, nar_1, zr_0, zr_1, zr_b2, cmp_eq, cmp_le, cmp_lt, cmp_gt, cmp_ge, mx_I, mn_I, mx_L, mn_L, az_I, if_true, if_false, i_0, i_1, i_2, i_3, i_4, i_5, i_6, i_7, i_8, i_9, i_10, i_11, i_12, i_16, i_18, i_20, i_24, i_28, i_29, i_30, i_31, i_32, i_33, i_34, i_35, i_37, i_40, i_41, i_42, i_43, i_45, i_46, i_47, i_48, i_57, i_59, i_63, i_64, i_96, i_97, i_98, i_99, i_100, i_101, i_102, i_103, i_104, i_105, i_106, i_107, i_108, i_109, i_110, i_111, i_112, i_113, i_122, i_200, i_255, i_256, i_257, i_258, i_355, i_400, i_999, i_1000, i_1200, i_5680, i_9999, i_10000, i_99999, j_0, j_1, j_2, j_3, j_4, j_5, j_6, j_9, j_10, j_11, j_98, j_99, j_100, j_999, j_1000, j_9999, j_10000, j_99999, j_1000000, this]
theorem c_lf_n (hN : 100 ≤ N) {μ : Mem} {x : Int32} : fX8_levelFor N (I_ (-1)) x μ = some (I_ (-1), μ) := by
  obtain ⟨N, rfl⟩ : ∃ m, N = m + 1 := ⟨N - 1, by omega⟩
  simp (disch := omega) only [fX8_levelFor, fX8_levelFor_5, Int.reduceEq, Int.reduceNe, Int.reduceLT, Int.reduceLE, Int.reduceAdd, Int.reduceSub, Int.reduceMul, Int.reduceNeg, Int.zero_add, Int.add_zero, nm_eq, bd_some, bv_some, aI_ok, aL_ok, aS_ok, dv_ok, dw_ok, I_add, I_sub, I_mul, I_neg, I_lt, I_le, I_eq, I_nat, J_add, J_sub, J_mul, J_neg, J_lt, J_le, J_eq, I_l, J_i, I_div, J_div, b2_0, b2_1, b2_nar, nar_0, nar_1, zr_0, zr_1, zr_b2, cmp_eq, cmp_le, cmp_lt, cmp_gt, cmp_ge, mx_I, mn_I, mx_L, mn_L, az_I, if_true, if_false, i_0, i_1, i_2, i_3, i_4, i_5, i_6, i_7, i_8, i_9, i_10, i_11, i_12, i_16, i_18, i_20, i_24, i_28, i_29, i_30, i_31, i_32, i_33, i_34, i_35, i_37, i_40, i_41, i_42, i_43, i_45, i_46, i_47, i_48, i_57, i_59, i_63, i_64, i_96, i_97, i_98, i_99, i_100, i_101, i_102, i_103, i_104, i_105, i_106, i_107, i_108, i_109, i_110, i_111, i_112, i_113, i_122, i_200, i_255, i_256, i_257, i_258, i_355, i_400, i_999, i_1000, i_1200, i_5680, i_9999, i_10000, i_99999, j_0, j_1, j_2, j_3, j_4, j_5, j_6, j_9, j_10, j_11, j_98, j_99, j_100, j_999, j_1000, j_9999, j_10000, j_99999, j_1000000]
end
