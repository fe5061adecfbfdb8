/-! Acts: the class's side. -/
def AG (V1 U : Vw) : Prop := sN V1 = sN U ∧ mN V1 = mN U ∧ fN V1 = fN U ∧ ∀ k z, okk k → 0 ≤ z → z < szv (sN U) (mN U) k → V1 k z = U k z
def un (kn pl ol : Int) (V : Vw) : Vw := if kn = 0 then vset V 0 0 pl else if kn = 1 then vset V 10 pl 1 else if kn = 2 then vset V 7 pl ol else if kn = 3 then vset V 14 pl ol else if kn = 4 then vset V 16 pl ol else vset V 15 pl ol
def UN (kn pl ol : Int) (V V1 : Vw) : Prop := AG V1 (un kn pl ol V) ∧ (0 ≤ kn ∧ kn ≤ 5) ∧ 0 ≤ pl ∧ (kn ≤ 2 → pl < sN V) ∧ (kn = 3 → pl < 24) ∧ (kn = 4 → pl < 6) ∧ (kn = 5 → pl < 4) ∧ (0 ≤ ol ∧ ol ≤ 9999) ∧ (kn = 5 → ol ≤ 1)
section
variable {N b : Nat} {μ μ' ν ν' : Mem} {V V1 U : Vw} {Lm Lf : Int → Int} {Am Af : Int → Int → Int} {K : Int → List Int} {fo : Int → Int} {q z : Int}
theorem PC.ag (h : PC b U Lm Am Lf Af K fo q μ) (a : AG V1 U) : PC b V1 Lm Am Lf Af K fo q μ := by
  obtain ⟨h1, h2, h3, h4, h5⟩ := h
  obtain ⟨a1, a2, a3, a4⟩ := a
  refine ⟨?_, ?_, ?_, ?_, h5⟩
  · rw [a1, a2]; exact h1.cong a4
  · rw [a1]; exact h2
  · rw [a2]; exact h3
  · rw [a3]; exact h4
theorem PE.ag (h : PE U Lm Am Lf Af K ν) (a : AG V1 U) : PE V1 Lm Am Lf Af K ν := by
  obtain ⟨h1, h2, h3, h4, h5⟩ := h
  obtain ⟨a1, a2, a3, a4⟩ := a
  refine ⟨?_, ?_, ?_, ?_, h5⟩
  · rw [a1, a2]; exact h1.cong a4
  · rw [a1]; exact h2
  · rw [a2]; exact h3
  · rw [a3]; exact h4
theorem ok_ {k : Int} (a : 1 ≤ k) (c : k ≤ 16) (d : k ≠ 8) (e : k ≠ 9) : okk k := ⟨a, c, d, e⟩
/-- what is taken off hangs on the sale's row and its cost -/
theorem offz_ag (h : ∀ k, 1 ≤ k → k ≤ 7 → V1 k z = U k z) (ht : t_co V1 (s_fm U z * 6 + s_md U z) = t_co U (s_fm U z * 6 + s_md U z)) (hm : m_co V1 (s_md U z) = m_co U (s_md U z)) : offz K V1 z = offz K U z ∧ netz K V1 z = netz K U z := by
  have e1 : s_mk V1 z = s_mk U z := h 1 (by omega) (by omega)
  have e2 : s_fm V1 z = s_fm U z := h 2 (by omega) (by omega)
  have e3 : s_md V1 z = s_md U z := h 3 (by omega) (by omega)
  have e4 : s_lv V1 z = s_lv U z := h 4 (by omega) (by omega)
  have e5 : s_mo V1 z = s_mo U z := h 5 (by omega) (by omega)
  have e6 : s_mn V1 z = s_mn U z := h 6 (by omega) (by omega)
  have e7 : s_pr V1 z = s_pr U z := h 7 (by omega) (by omega)
  have eo : offz K V1 z = offz K U z := by
    unfold offz c_of
    rw [e1, e2, e3, e4, e5, e6, e7, ht, hm]
  refine ⟨eo, ?_⟩
  unfold netz
  rw [eo, e7]
theorem AG.off (hV : vB V1) (a : AG V1 U) (z0 : 0 ≤ z) (z1 : z < sN V1) : offz K V1 z = offz K U z ∧ netz K V1 z = netz K U z := by
  obtain ⟨a1, a2, a3, a4⟩ := a
  obtain ⟨h1, h2, h3, h4, h5, h6, h7, h8, h9⟩ := sale_in hV z0 z1
  have er : ∀ k, 1 ≤ k → k ≤ 7 → V1 k z = U k z := fun k c d => a4 k z (ok_ c (by omega) (by omega) (by omega)) z0 (by rw [szv_s (by omega)]; omega)
  have e2 : s_fm V1 z = s_fm U z := er 2 (by omega) (by omega)
  have e3 : s_md V1 z = s_md U z := er 3 (by omega) (by omega)
  refine offz_ag er ?_ ?_
  · exact a4 14 _ (ok_ (by omega) (by omega) (by omega) (by omega)) (by omega) (by show _ < 24; omega)
  · exact a4 11 _ (ok_ (by omega) (by omega) (by omega) (by omega)) (by omega) (by rw [szv_m (by omega) (by omega)]; omega)
theorem vs_mN {k y v : Int} (h : ¬ k = 0) : mN (vset V k y v) = mN V := vs_m h
/-- a price is told -/
theorem c_tellPr (hb : kB b) (hN : 500 ≤ N) (hV : vB V) (hE : vE K V) (hG : KG K) (q4 : q ≤ 400) (h : PC b V Lm Am Lf Af K fo q μ) (ho : ON b V μ) {pl p : Int} (p0 : 0 ≤ pl) (p1 : pl < sN V) (hV1 : vB V1) (hE1 : vE K V1) (a : AG V1 (vset V 7 pl p)) : ∃ μ', fX1_tellPrice N b (I_ pl) (I_ p) μ = some ((), μ') ∧ PC b V1 Lm Am Lf Af K fo q μ' ∧ ON b V1 μ' ∧ Fr (fun k _ => b ≤ k ∧ k ≤ b + 28) μ μ' := by
  have hn := hV.1
  unfold vN at hn
  have hs : sN V1 = sN V := a.1.trans (vs_s (by decide))
  have hm : mN V1 = mN V := a.2.1.trans (vs_m (by decide))
  have hc1 : PC b (vset V 7 pl p) Lm Am Lf Af K fo q (stI μ (b + 19) pl.toNat (I_ p)) := by
    have gb : Fr (fun k j => k = b + 19) μ (stI μ (b + 19) pl.toNat (I_ p)) := Fr.rf.stI rfl
    refine ⟨?_, ?_, ?_, ?_, ?_⟩
    · rw [vs_s (by decide), vs_m (by decide)]
      exact h.1.set (k0 := 7) (by unfold okk; omega) p0
    · rw [vs_s (by decide), st_ne (by omega)]; exact h.2.1
    · rw [vs_m (by decide)]; exact h.2.2.1.F gb (fun k j q => by omega)
    · rw [vs_f (by decide)]; exact h.2.2.2.1.F gb (fun k j q => by omega)
    · exact h.2.2.2.2.fr (fun k j a c => by rw [st_ne (by omega)])
  have hc2 := hc1.ag a
  obtain ⟨μ1, x1, x2, x3, x4⟩ := c_work (N := N) hb hN hV1 hG q4 hc2 p0 (by omega)
  refine ⟨μ1, ?_, hc2.wo hb (fun k j _ _ c1 c2 c3 => (x4 k j (by unfold P_wo; omega)).1), fun y y0 y1 => ?_, Fr.tr (Fr.rf.stI ⟨by omega, by omega⟩) (x4.mono (fun k j w => by unfold P_wo at w; omega))⟩
  · unfold fX1_tellPrice
    rw [if_pos hb]
    simp (disch := omega) only [Int.reduceEq, Int.reduceNe, Int.reduceLT, Int.reduceLE, Int.reduceAdd, Int.reduceSub, Int.reduceMul, Int.reduceNeg, Int.zero_add, Int.add_zero, nm_eq, bd_some, bv_some, aI_ok, aL_ok, aS_ok, dv_ok, dw_ok, I_add, I_sub, I_mul, I_neg, I_lt, I_le, I_eq, I_nat, J_add, J_sub, J_mul, J_neg, J_lt, J_le, J_eq, I_l, J_i, I_div, J_div, b2_0, b2_1, b2_nar, nar_0, nar_1, zr_0, zr_1, zr_b2, cmp_eq, cmp_le, cmp_lt, cmp_gt, cmp_ge, mx_I, mn_I, mx_L, mn_L, az_I, if_true, if_false, not_true_eq_false, not_false_eq_true, Bool.false_eq_true, i_0, i_1, i_2, i_3, i_4, i_5, i_6, i_7, i_8, i_9, i_10, i_11, i_12, i_16, i_18, i_20, i_24, i_28, i_29, i_30, i_31, i_32, i_33, i_34, i_35, i_37, i_40, i_41, i_42, i_43, i_45, i_46, i_47, i_48, i_57, i_59, i_63, i_64, i_96, i_97, i_98, i_99, i_100, i_101, i_102, i_103, i_104, i_105, i_106, i_107, i_108, i_109, i_110, i_111, i_112, i_113, i_122, i_200, i_255, i_256, i_257, i_258, i_355, i_400, i_999, i_1000, i_1200, i_5680, i_9999, i_10000, i_99999, j_0, j_1, j_2, j_3, j_4, j_5, j_6, j_9, j_10, j_11, j_98, j_99, j_100, j_999, j_1000, j_9999, j_10000, j_99999, j_1000000, x1]
  · rw [(hE1 y y0 y1).1, (hE1 y y0 y1).2]
    by_cases e : y = pl
    · rw [e]; exact ⟨x2, x3⟩
    · rw [(x4 _ _ (by unfold P_wo; omega)).1, (x4 _ _ (by unfold P_wo; omega)).1, st_ne (by omega), st_ne (by omega)]
      obtain ⟨h1, h2, h3, h4, h5, h6, h7, h8, h9⟩ := sale_in hV y0 (by omega)
      have er : ∀ k, 1 ≤ k → k ≤ 7 → V1 k y = V k y := fun k c d => by
        rw [a.2.2.2 k y (ok_ c (by omega) (by omega) (by omega)) y0 (by rw [szv_s (by omega), vs_s (by decide)]; omega)]
        unfold vset
        exact if_neg (fun w => e w.2)
      have ec := offz_ag (K := K) (z := y) er (by
        show V1 14 _ = V 14 _
        rw [a.2.2.2 14 _ (ok_ (by omega) (by omega) (by omega) (by omega)) (by omega) (by show _ < 24; omega), vset_ne (by decide)]) (by
        show V1 11 _ = V 11 _
        rw [a.2.2.2 11 _ (ok_ (by omega) (by omega) (by omega) (by omega)) (by omega) (by rw [szv_m (by omega) (by omega), vs_m (by decide)]; omega), vset_ne (by decide)])
      rw [ec.1, ec.2, ← (hE y y0 (by omega)).1, ← (hE y y0 (by omega)).2]
      exact ho y y0 (by omega)
/-- a cost is told -/
theorem c_tellCo_l (hb : kB b) (hN : 500 ≤ N) (hV1 : vB V1) (hG : KG K) (q4 : q ≤ 400) {pl : Int} (p0 : 0 ≤ pl) (p1 : pl < 24) : ∀ (d m : Nat) (i : Int) (μ : Mem), d < m → 0 ≤ i → i + d = sN V1 → PC b V1 Lm Am Lf Af K fo q μ → (∀ y, 0 ≤ y → y < sN V1 → (y < i ∨ ¬ s_fm V1 y * 6 + s_md V1 y = pl) → μ.1 (b + 20) y.toNat = I_ (offz K V1 y) ∧ μ.1 (b + 21) y.toNat = I_ (netz K V1 y)) → ∃ μ', fX1_tellCost_9 N m b (I_ pl) (I_ i) μ = some ((), μ') ∧ PC b V1 Lm Am Lf Af K fo q μ' ∧ (∀ y, 0 ≤ y → y < sN V1 → μ'.1 (b + 20) y.toNat = I_ (offz K V1 y) ∧ μ'.1 (b + 21) y.toNat = I_ (netz K V1 y)) ∧ Fr (fun k _ => k = b + 11 ∨ k = b + 20 ∨ k = b + 21) μ μ' := by
  have hn := hV1.1
  unfold vN at hn
  intro d
  induction d with
  | zero =>
    intro m i μ h1 h2 h3 hc hr
    obtain ⟨m, rfl⟩ : ∃ mm, m = mm + 1 := ⟨m - 1, by omega⟩
    have hle : sN V1 ≤ i := by omega
    refine ⟨μ, ?_, hc, fun z a c => hr z a c (Or.inl (by omega)), Fr.rf⟩
    simp (disch := omega) only [fX1_tellCost_9, Int.reduceEq, Int.reduceNe, Int.reduceLT, Int.reduceLE, Int.reduceAdd, Int.reduceSub, Int.reduceMul, Int.reduceNeg, Int.zero_add, Int.add_zero, nm_eq, bd_some, bv_some, aI_ok, aL_ok, aS_ok, dv_ok, dw_ok, I_add, I_sub, I_mul, I_neg, I_lt, I_le, I_eq, I_nat, J_add, J_sub, J_mul, J_neg, J_lt, J_le, J_eq, I_l, J_i, I_div, J_div, b2_0, b2_1, b2_nar, nar_0, nar_1, zr_0, zr_1, zr_b2, cmp_eq, cmp_le, cmp_lt, cmp_gt, cmp_ge, mx_I, mn_I, mx_L, mn_L, az_I, if_true, if_false, not_true_eq_false, not_false_eq_true, Bool.false_eq_true, i_0, i_1, i_2, i_3, i_4, i_5, i_6, i_7, i_8, i_9, i_10, i_11, i_12, i_16, i_18, i_20, i_24, i_28, i_29, i_30, i_31, i_32, i_33, i_34, i_35, i_37, i_40, i_41, i_42, i_43, i_45, i_46, i_47, i_48, i_57, i_59, i_63, i_64, i_96, i_97, i_98, i_99, i_100, i_101, i_102, i_103, i_104, i_105, i_106, i_107, i_108, i_109, i_110, i_111, i_112, i_113, i_122, i_200, i_255, i_256, i_257, i_258, i_355, i_400, i_999, i_1000, i_1200, i_5680, i_9999, i_10000, i_99999, j_0, j_1, j_2, j_3, j_4, j_5, j_6, j_9, j_10, j_11, j_98, j_99, j_100, j_999, j_1000, j_9999, j_10000, j_99999, j_1000000, hc.2.1, hle]
  | succ d ih =>
    intro m i μ h1 h2 h3 hc hr
    obtain ⟨m, rfl⟩ : ∃ mm, m = mm + 1 := ⟨m - 1, by omega⟩
    have hle : ¬ sN V1 ≤ i := by omega
    obtain ⟨e1, e2, e3, e4, e5, e6, e7, e8, e9⟩ := sale_in hV1 h2 (show i < sN V1 by omega)
    have hfm : μ.1 (b + 14) i.toNat = I_ (s_fm V1 i) := hc.1 2 i (ok_ (by omega) (by omega) (by omega) (by omega)) h2 (by rw [szv_s (by omega)]; omega)
    have hmd : μ.1 (b + 15) i.toNat = I_ (s_md V1 i) := hc.1 3 i (ok_ (by omega) (by omega) (by omega) (by omega)) h2 (by rw [szv_s (by omega)]; omega)
    by_cases e : s_fm V1 i * 6 + s_md V1 i = pl
    · obtain ⟨μ1, a1, a2, a3, a4⟩ := c_work (N := N) hb hN hV1 hG q4 hc h2 (by omega)
      have hc1 := hc.wo hb (μ' := μ1) (fun k j _ _ c1 c2 c3 => (a4 k j (by unfold P_wo; omega)).1)
      obtain ⟨μ2, b1, b2', b3, b4⟩ := ih m (i + 1) μ1 (by omega) (by omega) (by omega) hc1 (fun z z0 z1 hz => by
        by_cases e : z = i
        · rw [e]; exact ⟨a2, a3⟩
        · rw [(a4 _ _ (by unfold P_wo; omega)).1, (a4 _ _ (by unfold P_wo; omega)).1]
          exact hr z z0 z1 (by omega))
      refine ⟨μ2, ?_, b2', b3, (a4.mono (fun k j w => by unfold P_wo at w; omega)).tr b4⟩
      simp (disch := omega) only [fX1_tellCost_9, Int.reduceEq, Int.reduceNe, Int.reduceLT, Int.reduceLE, Int.reduceAdd, Int.reduceSub, Int.reduceMul, Int.reduceNeg, Int.zero_add, Int.add_zero, nm_eq, bd_some, bv_some, aI_ok, aL_ok, aS_ok, dv_ok, dw_ok, I_add, I_sub, I_mul, I_neg, I_lt, I_le, I_eq, I_nat, J_add, J_sub, J_mul, J_neg, J_lt, J_le, J_eq, I_l, J_i, I_div, J_div, b2_0, b2_1, b2_nar, nar_0, nar_1, zr_0, zr_1, zr_b2, cmp_eq, cmp_le, cmp_lt, cmp_gt, cmp_ge, mx_I, mn_I, mx_L, mn_L, az_I, if_true, if_false, not_true_eq_false, not_false_eq_true, Bool.false_eq_true, i_0, i_1, i_2, i_3, i_4, i_5, i_6, i_7, i_8, i_9, i_10, i_11, i_12, i_16, i_18, i_20, i_24, i_28, i_29, i_30, i_31, i_32, i_33, i_34, i_35, i_37, i_40, i_41, i_42, i_43, i_45, i_46, i_47, i_48, i_57, i_59, i_63, i_64, i_96, i_97, i_98, i_99, i_100, i_101, i_102, i_103, i_104, i_105, i_106, i_107, i_108, i_109, i_110, i_111, i_112, i_113, i_122, i_200, i_255, i_256, i_257, i_258, i_355, i_400, i_999, i_1000, i_1200, i_5680, i_9999, i_10000, i_99999, j_0, j_1, j_2, j_3, j_4, j_5, j_6, j_9, j_10, j_11, j_98, j_99, j_100, j_999, j_1000, j_9999, j_10000, j_99999, j_1000000, hc.2.1, hle, hfm, hmd, e, a1, b1]
    · obtain ⟨μ2, b1, b2', b3, b4⟩ := ih m (i + 1) μ (by omega) (by omega) (by omega) hc (fun z z0 z1 hz => by
        by_cases e' : z = i
        · rw [e']; exact hr i h2 (by omega) (Or.inr e)
        · exact hr z z0 z1 (by omega))
      refine ⟨μ2, ?_, b2', b3, b4⟩
      simp (disch := omega) only [fX1_tellCost_9, Int.reduceEq, Int.reduceNe, Int.reduceLT, Int.reduceLE, Int.reduceAdd, Int.reduceSub, Int.reduceMul, Int.reduceNeg, Int.zero_add, Int.add_zero, nm_eq, bd_some, bv_some, aI_ok, aL_ok, aS_ok, dv_ok, dw_ok, I_add, I_sub, I_mul, I_neg, I_lt, I_le, I_eq, I_nat, J_add, J_sub, J_mul, J_neg, J_lt, J_le, J_eq, I_l, J_i, I_div, J_div, b2_0, b2_1, b2_nar, nar_0, nar_1, zr_0, zr_1, zr_b2, cmp_eq, cmp_le, cmp_lt, cmp_gt, cmp_ge, mx_I, mn_I, mx_L, mn_L, az_I, if_true, if_false, not_true_eq_false, not_false_eq_true, Bool.false_eq_true, i_0, i_1, i_2, i_3, i_4, i_5, i_6, i_7, i_8, i_9, i_10, i_11, i_12, i_16, i_18, i_20, i_24, i_28, i_29, i_30, i_31, i_32, i_33, i_34, i_35, i_37, i_40, i_41, i_42, i_43, i_45, i_46, i_47, i_48, i_57, i_59, i_63, i_64, i_96, i_97, i_98, i_99, i_100, i_101, i_102, i_103, i_104, i_105, i_106, i_107, i_108, i_109, i_110, i_111, i_112, i_113, i_122, i_200, i_255, i_256, i_257, i_258, i_355, i_400, i_999, i_1000, i_1200, i_5680, i_9999, i_10000, i_99999, j_0, j_1, j_2, j_3, j_4, j_5, j_6, j_9, j_10, j_11, j_98, j_99, j_100, j_999, j_1000, j_9999, j_10000, j_99999, j_1000000, hc.2.1, hle, hfm, hmd, e, b1]
theorem c_tellCo (hb : kB b) (hN : 500 ≤ N) (hV : vB V) (hE : vE K V) (hG : KG K) (q4 : q ≤ 400) (h : PC b V Lm Am Lf Af K fo q μ) (ho : ON b V μ) {pl p : Int} (p0 : 0 ≤ pl) (p1 : pl < 24) (hV1 : vB V1) (hE1 : vE K V1) (a : AG V1 (vset V 14 pl p)) : ∃ μ', fX1_tellCost N b (I_ pl) (I_ p) μ = some ((), μ') ∧ PC b V1 Lm Am Lf Af K fo q μ' ∧ ON b V1 μ' ∧ Fr (fun k _ => b ≤ k ∧ k ≤ b + 28) μ μ' := by
  have hn := hV.1
  unfold vN at hn
  have hs : sN V1 = sN V := a.1.trans (vs_s (by decide))
  have hm : mN V1 = mN V := a.2.1.trans (vs_m (by decide))
  have hc2 := (h.set (k0 := 14) (z0 := pl) (v := p) (by omega) (by omega) p0).ag a
  obtain ⟨μ1, x1, x2, x3, x4⟩ := c_tellCo_l (N := N) hb hN hV1 hG q4 p0 p1 (sN V1).toNat N 0 _ (by omega) (by omega) (by omega) hc2 (fun y y0 y1 hy => by
    rw [st_ne (by omega), st_ne (by omega)]
    obtain ⟨h1, h2, h3, h4, h5, h6, h7, h8, h9⟩ := sale_in hV y0 (by omega)
    have er : ∀ k, 1 ≤ k → k ≤ 7 → V1 k y = V k y := fun k c d => by
      rw [a.2.2.2 k y (ok_ c (by omega) (by omega) (by omega)) y0 (by rw [szv_s (by omega), vs_s (by decide)]; omega)]
      exact vset_ne (by omega)
    have e2 : s_fm V1 y = s_fm V y := er 2 (by omega) (by omega)
    have e3 : s_md V1 y = s_md V y := er 3 (by omega) (by omega)
    rw [e2, e3] at hy
    have ec := offz_ag (K := K) (z := y) er (by
      show V1 14 _ = V 14 _
      rw [a.2.2.2 14 _ (ok_ (by omega) (by omega) (by omega) (by omega)) (by omega) (by show _ < 24; omega), vset_at, if_neg (by omega)]) (by
      show V1 11 _ = V 11 _
      rw [a.2.2.2 11 _ (ok_ (by omega) (by omega) (by omega) (by omega)) (by omega) (by rw [szv_m (by omega) (by omega), vs_m (by decide)]; omega), vset_ne (by decide)])
    rw [ec.1, ec.2, ← (hE y y0 (by omega)).1, ← (hE y y0 (by omega)).2]
    exact ho y y0 (by omega))
  refine ⟨μ1, ?_, x2, fun y y0 y1 => ?_, Fr.tr (Fr.rf.stI ⟨by omega, by omega⟩) (x4.mono (fun k j w => by omega))⟩
  · unfold fX1_tellCost
    rw [if_pos hb]
    have x1' : fX1_tellCost_9 N N b (I_ pl) (I_ 0) (stI μ (b + 26) pl.toNat (I_ p)) = some ((), μ1) := x1
    simp (disch := omega) only [Int.reduceEq, Int.reduceNe, Int.reduceLT, Int.reduceLE, Int.reduceAdd, Int.reduceSub, Int.reduceMul, Int.reduceNeg, Int.zero_add, Int.add_zero, nm_eq, bd_some, bv_some, aI_ok, aL_ok, aS_ok, dv_ok, dw_ok, I_add, I_sub, I_mul, I_neg, I_lt, I_le, I_eq, I_nat, J_add, J_sub, J_mul, J_neg, J_lt, J_le, J_eq, I_l, J_i, I_div, J_div, b2_0, b2_1, b2_nar, nar_0, nar_1, zr_0, zr_1, zr_b2, cmp_eq, cmp_le, cmp_lt, cmp_gt, cmp_ge, mx_I, mn_I, mx_L, mn_L, az_I, if_true, if_false, not_true_eq_false, not_false_eq_true, Bool.false_eq_true, i_0, i_1, i_2, i_3, i_4, i_5, i_6, i_7, i_8, i_9, i_10, i_11, i_12, i_16, i_18, i_20, i_24, i_28, i_29, i_30, i_31, i_32, i_33, i_34, i_35, i_37, i_40, i_41, i_42, i_43, i_45, i_46, i_47, i_48, i_57, i_59, i_63, i_64, i_96, i_97, i_98, i_99, i_100, i_101, i_102, i_103, i_104, i_105, i_106, i_107, i_108, i_109, i_110, i_111, i_112, i_113, i_122, i_200, i_255, i_256, i_257, i_258, i_355, i_400, i_999, i_1000, i_1200, i_5680, i_9999, i_10000, i_99999, j_0, j_1, j_2, j_3, j_4, j_5, j_6, j_9, j_10, j_11, j_98, j_99, j_100, j_999, j_1000, j_9999, j_10000, j_99999, j_1000000, x1']
  · rw [(hE1 y y0 y1).1, (hE1 y y0 y1).2]
    exact x3 y y0 y1
/-- nothing that is taken off changes -/
theorem ON.ag (hV : vB V) (hE : vE K V) (hE1 : vE K V1) (hs : sN V1 ≤ sN V) (h : ON b V μ) (er : ∀ k y, 1 ≤ k → k ≤ 7 → 0 ≤ y → y < sN V1 → V1 k y = V k y) (et : ∀ p, 0 ≤ p → p < 24 → V1 14 p = V 14 p) (em : ∀ m, 0 ≤ m → m < mN V → V1 11 m = V 11 m) (g : ∀ k j, (k = b + 20 ∨ k = b + 21) → μ'.1 k j = μ.1 k j) : ON b V1 μ' := fun y y0 y1 => by
  rw [g _ _ (Or.inl rfl), g _ _ (Or.inr rfl)]
  obtain ⟨h1, h2, h3, h4, h5, h6, h7, h8, h9⟩ := sale_in hV y0 (by omega)
  have ec := offz_ag (K := K) (z := y) (fun k a c => er k y a c y0 y1) (et _ (by omega) (by omega)) (em _ (by omega) (by omega))
  rw [(hE1 y y0 y1).1, (hE1 y y0 y1).2, ec.1, ec.2, ← (hE y y0 (by omega)).1, ← (hE y y0 (by omega)).2]
  exact h y y0 (by omega)
/-! the ring of acts: t = 0 is the latest -/
def rI (nx : Int) (t : Nat) : Nat := ((nx - 1 - t) % 16).toNat
def RG (G : Nat → Vw) (a : Nat) (nx : Int) (μ : Mem) : Prop := μ.1 2 3 = I_ a ∧ μ.1 2 4 = I_ nx ∧ (0 ≤ nx ∧ nx < 16) ∧ a ≤ 16 ∧ ∀ t, t < a → ∃ kn pl ol, μ.1 8 (rI nx t) = I_ kn ∧ μ.1 9 (rI nx t) = I_ pl ∧ μ.1 10 (rI nx t) = I_ ol ∧ UN kn pl ol (G t) (G (t + 1))
theorem RG.fr {G : Nat → Vw} {a : Nat} {nx : Int} (h : RG G a nx μ) (g : ∀ k j, (k = 2 ∨ (8 ≤ k ∧ k ≤ 10)) → μ'.1 k j = μ.1 k j) : RG G a nx μ' := by
  obtain ⟨h1, h2, h3, h4, h5⟩ := h
  refine ⟨by rw [g _ _ (by omega)]; exact h1, by rw [g _ _ (by omega)]; exact h2, h3, h4, fun t ht => ?_⟩
  obtain ⟨kn, pl, ol, x1, x2, x3, x4⟩ := h5 t ht
  exact ⟨kn, pl, ol, by rw [g _ _ (by omega)]; exact x1, by rw [g _ _ (by omega)]; exact x2, by rw [g _ _ (by omega)]; exact x3, x4⟩
def gSh (V1 : Vw) (G : Nat → Vw) (t : Nat) : Vw := match t with | 0 => V1 | t + 1 => G t
theorem c_keep {G : Nat → Vw} {a : Nat} {nx kn pl ol : Int} (h : RG G a nx μ) (hu : UN kn pl ol V1 (G 0)) : ∃ μ', fX0_keep N (I_ kn) (I_ pl) (I_ ol) μ = some ((), μ') ∧ RG (gSh V1 G) (min 16 (a + 1)) ((nx + 1) % 16) μ' ∧ Fr (fun k j => (k = 2 ∧ (j = 3 ∨ j = 4)) ∨ (8 ≤ k ∧ k ≤ 10)) μ μ' := by
  obtain ⟨h1, h2, h3, h4, h5⟩ := h
  have e16 : nx + 1 - (nx + 1) / 16 * 16 = (nx + 1) % 16 := by omega
  have em : ((min 16 (a + 1) : Nat) : Int) = min 16 ((a : Int) + 1) := by omega
  have r0 : rI ((nx + 1) % 16) 0 = nx.toNat := by unfold rI; omega
  refine ⟨stI (stI (stI (stI (stI μ 8 nx.toNat (I_ kn)) 9 nx.toNat (I_ pl)) 10 nx.toNat (I_ ol)) 2 4 (I_ ((nx + 1) % 16))) 2 3 (I_ (min 16 ((a : Int) + 1))), ?_, ⟨?_, ?_, by omega, by omega, fun t ht => ?_⟩, ?_⟩
  · simp (disch := omega) only [fX0_keep, Int.reduceEq, Int.reduceNe, Int.reduceLT, Int.reduceLE, Int.reduceAdd, Int.reduceSub, Int.reduceMul, Int.reduceNeg, Int.zero_add, Int.add_zero, nm_eq, bd_some, bv_some, aI_ok, aL_ok, aS_ok, dv_ok, dw_ok, I_add, I_sub, I_mul, I_neg, I_lt, I_le, I_eq, I_nat, J_add, J_sub, J_mul, J_neg, J_lt, J_le, J_eq, I_l, J_i, I_div, J_div, b2_0, b2_1, b2_nar, nar_0, nar_1, zr_0, zr_1, zr_b2, cmp_eq, cmp_le, cmp_lt, cmp_gt, cmp_ge, mx_I, mn_I, mx_L, mn_L, az_I, if_true, if_false, not_true_eq_false, not_false_eq_true, Bool.false_eq_true, i_0, i_1, i_2, i_3, i_4, i_5, i_6, i_7, i_8, i_9, i_10, i_11, i_12, i_16, i_18, i_20, i_24, i_28, i_29, i_30, i_31, i_32, i_33, i_34, i_35, i_37, i_40, i_41, i_42, i_43, i_45, i_46, i_47, i_48, i_57, i_59, i_63, i_64, i_96, i_97, i_98, i_99, i_100, i_101, i_102, i_103, i_104, i_105, i_106, i_107, i_108, i_109, i_110, i_111, i_112, i_113, i_122, i_200, i_255, i_256, i_257, i_258, i_355, i_400, i_999, i_1000, i_1200, i_5680, i_9999, i_10000, i_99999, j_0, j_1, j_2, j_3, j_4, j_5, j_6, j_9, j_10, j_11, j_98, j_99, j_100, j_999, j_1000, j_9999, j_10000, j_99999, j_1000000, h2, st_I, st_I2, st_L1, st_L2, st_R1, st_R2, Nat.reduceEqDiff, Nat.reduceAdd, and_true, true_and, and_false, false_and, and_self, if_false, if_true, st_ne, h1, e16]
  · rw [at_S, em]
  · simp (disch := omega) only [st_I, st_I2, st_L1, st_L2, st_R1, st_R2, Nat.reduceEqDiff, Nat.reduceAdd, and_true, true_and, and_false, false_and, and_self, if_false, if_true]
  · match t, ht with
    | 0, _ =>
      refine ⟨kn, pl, ol, ?_, ?_, ?_, hu⟩
      · rw [r0, st_ne (by omega), st_ne (by omega), st_ne (by omega), st_ne (by omega), at_S]
      · rw [r0, st_ne (by omega), st_ne (by omega), st_ne (by omega), at_S]
      · rw [r0, st_ne (by omega), st_ne (by omega), at_S]
    | t + 1, ht =>
      obtain ⟨kn', pl', ol', x1, x2, x3, x4⟩ := h5 t (by omega)
      have rt : rI ((nx + 1) % 16) (t + 1) = rI nx t := by unfold rI; omega
      have rn : rI nx t ≠ nx.toNat := by unfold rI; omega
      refine ⟨kn', pl', ol', ?_, ?_, ?_, x4⟩
      · rw [rt, st_ne (by omega), st_ne (by omega), st_ne (by omega), st_ne (by omega), st_I, if_neg (fun w => rn w.2)]; exact x1
      · rw [rt, st_ne (by omega), st_ne (by omega), st_ne (by omega), st_I, if_neg (fun w => rn w.2)]; exact x2
      · rw [rt, st_ne (by omega), st_ne (by omega), st_I, if_neg (fun w => rn w.2)]; exact x3
  · exact ((((Fr.rf.stI (Or.inr ⟨by omega, by omega⟩)).stI (Or.inr ⟨by omega, by omega⟩)).stI (Or.inr ⟨by omega, by omega⟩)).stI (Or.inl ⟨rfl, Or.inr rfl⟩)).stI (Or.inl ⟨rfl, Or.inl rfl⟩)
theorem c_back_ {G : Nat → Vw} {a : Nat} {nx : Int} (hb : kB b) (hN : 500 ≤ N) (hV : vB (G 0)) (hE : vE K (G 0)) (hG : KG K) (q4 : q ≤ 400) (h : PC b (G 0) Lm Am Lf Af K fo q μ) (ho : ON b (G 0) μ) (hr : RG G (a + 1) nx μ) (hV1 : vB (G 1)) (hE1 : vE K (G 1)) : ∃ μ', fX0_takeBack N b μ = some ((), μ') ∧ PC b (G 1) Lm Am Lf Af K fo q μ' ∧ ON b (G 1) μ' ∧ RG (fun t => G (t + 1)) a ((nx + 15) % 16) μ' ∧ Fr (fun k j => (k = 2 ∧ (j = 3 ∨ j = 4)) ∨ (b ≤ k ∧ k ≤ b + 28)) μ μ' := by
  have hn := hV.1
  unfold vN at hn
  obtain ⟨h1, h2, h3, h4, h5⟩ := hr
  obtain ⟨kn, pl, ol, x1, x2, x3, x4⟩ := h5 0 (by omega)
  have r0 : rI nx 0 = ((nx + 15) % 16).toNat := by unfold rI; omega
  rw [r0] at x1 x2 x3
  obtain ⟨ag, k05, p0, b1, b2', b3, b4, b5, b6⟩ := x4
  have e16 : nx + 16 - 1 - (nx + 16 - 1) / 16 * 16 = (nx + 15) % 16 := by omega
  have ea : (((a + 1 : Nat) : Int)) - 1 = a := by omega
  have na : ¬ ((a + 1 : Nat) : Int) = 0 := by omega
  have hgm : Fr (fun k j => k = 2 ∧ (j = 3 ∨ j = 4)) μ (stI (stI μ 2 4 (I_ ((nx + 15) % 16))) 2 3 (I_ (a : Int))) := (Fr.rf.stI ⟨rfl, Or.inr rfl⟩).stI ⟨rfl, Or.inl rfl⟩
  have m3 : (stI (stI μ 2 4 (I_ ((nx + 15) % 16))) 2 3 (I_ (a : Int))).1 2 3 = I_ a := at_S
  have m4 : (stI (stI μ 2 4 (I_ ((nx + 15) % 16))) 2 3 (I_ (a : Int))).1 2 4 = I_ ((nx + 15) % 16) := by simp (disch := omega) only [st_I, st_I2, st_L1, st_L2, st_R1, st_R2, Nat.reduceEqDiff, Nat.reduceAdd, and_true, true_and, and_false, false_and, and_self, if_false, if_true]
  have m8 : (stI (stI μ 2 4 (I_ ((nx + 15) % 16))) 2 3 (I_ (a : Int))).1 8 ((nx + 15) % 16).toNat = I_ kn := by rw [st_ne (by omega), st_ne (by omega)]; exact x1
  have m9 : (stI (stI μ 2 4 (I_ ((nx + 15) % 16))) 2 3 (I_ (a : Int))).1 9 ((nx + 15) % 16).toNat = I_ pl := by rw [st_ne (by omega), st_ne (by omega)]; exact x2
  have m10 : (stI (stI μ 2 4 (I_ ((nx + 15) % 16))) 2 3 (I_ (a : Int))).1 10 ((nx + 15) % 16).toNat = I_ ol := by rw [st_ne (by omega), st_ne (by omega)]; exact x3
  have hc0 : PC b (G 0) Lm Am Lf Af K fo q (stI (stI μ 2 4 (I_ ((nx + 15) % 16))) 2 3 (I_ (a : Int))) := h.fr (fun k j c d => (hgm k j (by rcases hb with e | e <;> omega)).1)
  have ho0 : ON b (G 0) (stI (stI μ 2 4 (I_ ((nx + 15) % 16))) 2 3 (I_ (a : Int))) := fun y y0 y1 => by
    rw [(hgm _ _ (by rcases hb with e | e <;> omega)).1, (hgm _ _ (by rcases hb with e | e <;> omega)).1]; exact ho y y0 y1
  have hrg : ∀ μ' : Mem, Fr (fun k _ => b ≤ k ∧ k ≤ b + 28) (stI (stI μ 2 4 (I_ ((nx + 15) % 16))) 2 3 (I_ (a : Int))) μ' → RG (fun t => G (t + 1)) a ((nx + 15) % 16) μ' := fun μ' g => by
    have g' : ∀ k j, (k = 2 ∨ (8 ≤ k ∧ k ≤ 10)) → μ'.1 k j = (stI (stI μ 2 4 (I_ ((nx + 15) % 16))) 2 3 (I_ (a : Int))).1 k j := fun k j hk => (g k j (by rcases hb with e | e <;> omega)).1
    refine RG.fr (μ := stI (stI μ 2 4 (I_ ((nx + 15) % 16))) 2 3 (I_ (a : Int))) ⟨m3, m4, by omega, by omega, fun t ht => ?_⟩ g'
    obtain ⟨kn', pl', ol', y1, y2, y3, y4⟩ := h5 (t + 1) (by omega)
    have rt : rI ((nx + 15) % 16) t = rI nx (t + 1) := by unfold rI; omega
    rw [rt]
    exact ⟨kn', pl', ol', by rw [st_ne (by omega), st_ne (by omega)]; exact y1, by rw [st_ne (by omega), st_ne (by omega)]; exact y2, by rw [st_ne (by omega), st_ne (by omega)]; exact y3, y4⟩
  have fin : ∀ μ' : Mem, Fr (fun k _ => b ≤ k ∧ k ≤ b + 28) (stI (stI μ 2 4 (I_ ((nx + 15) % 16))) 2 3 (I_ (a : Int))) μ' → Fr (fun k j => (k = 2 ∧ (j = 3 ∨ j = 4)) ∨ (b ≤ k ∧ k ≤ b + 28)) μ μ' := fun μ' g => (hgm.mono (fun k j w => Or.inl w)).tr (g.mono (fun k j w => Or.inr w))
  have ex : I_ nx + (16 : Int32) - 1 - (I_ nx + 16 - 1) / 16 * 16 = I_ ((nx + 15) % 16) := by
    simp (disch := omega) only [Int.reduceEq, Int.reduceNe, Int.reduceLT, Int.reduceLE, Int.reduceAdd, Int.reduceSub, Int.reduceMul, Int.reduceNeg, Int.zero_add, Int.add_zero, nm_eq, bd_some, bv_some, aI_ok, aL_ok, aS_ok, dv_ok, dw_ok, I_add, I_sub, I_mul, I_neg, I_lt, I_le, I_eq, I_nat, J_add, J_sub, J_mul, J_neg, J_lt, J_le, J_eq, I_l, J_i, I_div, J_div, b2_0, b2_1, b2_nar, nar_0, nar_1, zr_0, zr_1, zr_b2, cmp_eq, cmp_le, cmp_lt, cmp_gt, cmp_ge, mx_I, mn_I, mx_L, mn_L, az_I, if_true, if_false, not_true_eq_false, not_false_eq_true, Bool.false_eq_true, i_0, i_1, i_2, i_3, i_4, i_5, i_6, i_7, i_8, i_9, i_10, i_11, i_12, i_16, i_18, i_20, i_24, i_28, i_29, i_30, i_31, i_32, i_33, i_34, i_35, i_37, i_40, i_41, i_42, i_43, i_45, i_46, i_47, i_48, i_57, i_59, i_63, i_64, i_96, i_97, i_98, i_99, i_100, i_101, i_102, i_103, i_104, i_105, i_106, i_107, i_108, i_109, i_110, i_111, i_112, i_113, i_122, i_200, i_255, i_256, i_257, i_258, i_355, i_400, i_999, i_1000, i_1200, i_5680, i_9999, i_10000, i_99999, j_0, j_1, j_2, j_3, j_4, j_5, j_6, j_9, j_10, j_11, j_98, j_99, j_100, j_999, j_1000, j_9999, j_10000, j_99999, j_1000000, e16]
  have ey : I_ ((a + 1 : Nat) : Int) - (1 : Int32) = I_ (a : Int) := by
    rw [i_1, I_sub, ea]
  have na' : ¬ I_ ((a + 1 : Nat) : Int) = (0 : Int32) := by
    rw [i_0, I_eq (by omega) (by omega) (by omega) (by omega)]
    exact na
  have m23 : (stI μ 2 4 (I_ ((nx + 15) % 16))).1 2 3 = I_ ((a + 1 : Nat) : Int) := by
    rw [st_I, if_neg (by decide)]; exact h1
  have etb : fX0_takeBack N b μ = (if I_ kn = (0 : Int32) then nm (stI (stI (stI μ 2 4 (I_ ((nx + 15) % 16))) 2 3 (I_ (a : Int))) (b + 12) 10 (I_ pl)) fun μ => some ((), μ) else if I_ kn = (1 : Int32) then aS 40 (I_ pl) <| nm (stI (stI (stI μ 2 4 (I_ ((nx + 15) % 16))) 2 3 (I_ (a : Int))) (b + 22) (I_ pl).toNatClampNeg (vp_nar .boolean (1 : Int32))) fun μ => some ((), μ) else if I_ kn = (2 : Int32) then bv (fX1_tellPrice N b (I_ pl) (I_ ol) (stI (stI μ 2 4 (I_ ((nx + 15) % 16))) 2 3 (I_ (a : Int)))) fun μ => some ((), μ) else if I_ kn = (3 : Int32) then bv (fX1_tellCost N b (I_ pl) (I_ ol) (stI (stI μ 2 4 (I_ ((nx + 15) % 16))) 2 3 (I_ (a : Int)))) fun μ => some ((), μ) else if I_ kn = (4 : Int32) then aS 6 (I_ pl) <| nm (stI (stI (stI μ 2 4 (I_ ((nx + 15) % 16))) 2 3 (I_ (a : Int))) (b + 28) (I_ pl).toNatClampNeg (I_ ol)) fun μ => some ((), μ) else (if I_ ol = 0 then aS 4 (I_ pl) <| nm (stI (stI (stI μ 2 4 (I_ ((nx + 15) % 16))) 2 3 (I_ (a : Int))) (b + 27) (I_ pl).toNatClampNeg (vp_nar .boolean (0 : Int32))) fun μ => some ((), μ) else aS 4 (I_ pl) <| nm (stI (stI (stI μ 2 4 (I_ ((nx + 15) % 16))) 2 3 (I_ (a : Int))) (b + 27) (I_ pl).toNatClampNeg (vp_nar .boolean (1 : Int32))) fun μ => some ((), μ))) := by
    unfold fX0_takeBack
    rw [if_pos hb, nm_eq, h1, if_neg na', nm_eq, h2, nm_eq, ex, nm_eq, nm_eq, m23, nm_eq, ey, nm_eq, nm_eq, m4, aI_ok (by omega) (by omega) (by omega), m9, nm_eq, aI_ok (by omega) (by omega) (by omega), m8]
    simp only [nm_eq]
    rw [aI_ok (by omega) (by omega) (by omega), aI_ok (by omega) (by omega) (by omega), aI_ok (by omega) (by omega) (by omega), aI_ok (by omega) (by omega) (by omega), m10]
  have kc : kn = 0 ∨ kn = 1 ∨ kn = 2 ∨ kn = 3 ∨ kn = 4 ∨ kn = 5 := by omega
  rcases kc with e | e | e | e | e | e
  · subst e
    have eu : un 0 pl ol (G 0) = vset (G 0) 0 0 pl := rfl
    rw [eu] at ag
    have s1 : sN (G 1) = pl := ag.1.trans (by show vset (G 0) 0 0 pl 0 0 = pl; rw [vset_at, if_pos rfl])
    have sm : mN (G 1) = mN (G 0) := ag.2.1.trans (by show vset (G 0) 0 0 pl 0 1 = _; rw [vset_at, if_neg (by decide)]; rfl)
    have sf : fN (G 1) = fN (G 0) := ag.2.2.1.trans (by show vset (G 0) 0 0 pl 0 2 = _; rw [vset_at, if_neg (by decide)]; rfl)
    have su : sN (vset (G 0) 0 0 pl) = pl := by show vset (G 0) 0 0 pl 0 0 = pl; rw [vset_at, if_pos rfl]
    have smu : mN (vset (G 0) 0 0 pl) = mN (G 0) := by show vset (G 0) 0 0 pl 0 1 = _; rw [vset_at, if_neg (by decide)]; rfl
    have lt := b1 (by omega)
    have ar : ∀ k z, okk k → 0 ≤ z → z < szv pl (mN (G 0)) k → G 1 k z = G 0 k z := fun k z hk z0 z1 => by
      rw [ag.2.2.2 k z hk z0 (by rw [su, smu]; exact z1)]
      exact vset_ne (by unfold okk at hk; omega)
    have g : Fr (fun k _ => b ≤ k ∧ k ≤ b + 28) (stI (stI μ 2 4 (I_ ((nx + 15) % 16))) 2 3 (I_ (a : Int))) (stI (stI (stI μ 2 4 (I_ ((nx + 15) % 16))) 2 3 (I_ (a : Int))) (b + 12) 10 (I_ pl)) := Fr.rf.stI ⟨by omega, by omega⟩
    have g12 : Fr (fun k j => k = b + 12) (stI (stI μ 2 4 (I_ ((nx + 15) % 16))) 2 3 (I_ (a : Int))) (stI (stI (stI μ 2 4 (I_ ((nx + 15) % 16))) 2 3 (I_ (a : Int))) (b + 12) 10 (I_ pl)) := Fr.rf.stI rfl
    refine ⟨_, ?_, ⟨?_, ?_, ?_, ?_, ?_⟩, ?_, hrg _ g, fin _ g⟩
    · rw [etb, if_pos (show I_ 0 = 0 from rfl)]
      simp (disch := omega) only [Int.reduceEq, Int.reduceNe, Int.reduceLT, Int.reduceLE, Int.reduceAdd, Int.reduceSub, Int.reduceMul, Int.reduceNeg, Int.zero_add, Int.add_zero, nm_eq, bd_some, bv_some, aI_ok, aL_ok, aS_ok, dv_ok, dw_ok, I_add, I_sub, I_mul, I_neg, I_lt, I_le, I_eq, I_nat, J_add, J_sub, J_mul, J_neg, J_lt, J_le, J_eq, I_l, J_i, I_div, J_div, b2_0, b2_1, b2_nar, nar_0, nar_1, zr_0, zr_1, zr_b2, cmp_eq, cmp_le, cmp_lt, cmp_gt, cmp_ge, mx_I, mn_I, mx_L, mn_L, az_I, if_true, if_false, not_true_eq_false, not_false_eq_true, Bool.false_eq_true, i_0, i_1, i_2, i_3, i_4, i_5, i_6, i_7, i_8, i_9, i_10, i_11, i_12, i_16, i_18, i_20, i_24, i_28, i_29, i_30, i_31, i_32, i_33, i_34, i_35, i_37, i_40, i_41, i_42, i_43, i_45, i_46, i_47, i_48, i_57, i_59, i_63, i_64, i_96, i_97, i_98, i_99, i_100, i_101, i_102, i_103, i_104, i_105, i_106, i_107, i_108, i_109, i_110, i_111, i_112, i_113, i_122, i_200, i_255, i_256, i_257, i_258, i_355, i_400, i_999, i_1000, i_1200, i_5680, i_9999, i_10000, i_99999, j_0, j_1, j_2, j_3, j_4, j_5, j_6, j_9, j_10, j_11, j_98, j_99, j_100, j_999, j_1000, j_9999, j_10000, j_99999, j_1000000]
    · rw [s1, sm]
      intro k z hk z0 z1
      rw [ar k z hk z0 z1, (g12 _ _ (by unfold okk at hk; omega)).1]
      refine hc0.1 k z hk z0 ?_
      unfold szv at z1 ⊢
      by_cases k10 : k ≤ 10
      · rw [if_pos k10] at z1 ⊢; omega
      · rw [if_neg k10] at z1 ⊢; exact z1
    · rw [s1]; exact at_S
    · rw [sm]; exact hc0.2.2.1.F g12 (fun k j w => by omega)
    · rw [sf]; exact hc0.2.2.2.1.F g12 (fun k j w => by omega)
    · exact hc0.2.2.2.2.fr (fun k j c d => (g12 k j (by omega)).1)
    · exact ON.ag hV hE hE1 (by omega) ho0 (fun k y c d y0 y1 => ar k y (ok_ c (by omega) (by omega) (by omega)) y0 (by rw [szv_s (by omega)]; omega)) (fun p c d => ar 14 p (ok_ (by omega) (by omega) (by omega) (by omega)) c d) (fun m c d => ar 11 m (ok_ (by omega) (by omega) (by omega) (by omega)) c (by rw [szv_m (by omega) (by omega)]; exact d)) (fun k j w => (g12 k j (by omega)).1)
  · subst e
    have eu : un 1 pl ol (G 0) = vset (G 0) 10 pl 1 := rfl
    rw [eu] at ag
    have lt := b1 (by omega)
    have hs : sN (G 1) = sN (G 0) := ag.1.trans (vs_s (by decide))
    have g : Fr (fun k _ => b ≤ k ∧ k ≤ b + 28) (stI (stI μ 2 4 (I_ ((nx + 15) % 16))) 2 3 (I_ (a : Int))) (stI (stI (stI μ 2 4 (I_ ((nx + 15) % 16))) 2 3 (I_ (a : Int))) (b + 22) pl.toNat (I_ 1)) := Fr.rf.stI ⟨by omega, by omega⟩
    have g22 : Fr (fun k j => k = b + 22) (stI (stI μ 2 4 (I_ ((nx + 15) % 16))) 2 3 (I_ (a : Int))) (stI (stI (stI μ 2 4 (I_ ((nx + 15) % 16))) 2 3 (I_ (a : Int))) (b + 22) pl.toNat (I_ 1)) := Fr.rf.stI rfl
    have hcs : PC b (vset (G 0) 10 pl 1) Lm Am Lf Af K fo q (stI (stI (stI μ 2 4 (I_ ((nx + 15) % 16))) 2 3 (I_ (a : Int))) (b + 22) pl.toNat (I_ 1)) := by
      refine ⟨?_, ?_, ?_, ?_, ?_⟩
      · rw [vs_s (by decide), vs_m (by decide)]
        exact hc0.1.set (k0 := 10) (by unfold okk; omega) p0
      · rw [vs_s (by decide), (g22 _ _ (by omega)).1]; exact hc0.2.1
      · rw [vs_m (by decide)]; exact hc0.2.2.1.F g22 (fun k j w => by omega)
      · rw [vs_f (by decide)]; exact hc0.2.2.2.1.F g22 (fun k j w => by omega)
      · exact hc0.2.2.2.2.fr (fun k j c d => (g22 k j (by omega)).1)
    refine ⟨_, ?_, hcs.ag ag, ?_, hrg _ g, fin _ g⟩
    · rw [etb, if_neg (by decide), if_pos (show I_ 1 = 1 from rfl)]
      simp (disch := omega) only [Int.reduceEq, Int.reduceNe, Int.reduceLT, Int.reduceLE, Int.reduceAdd, Int.reduceSub, Int.reduceMul, Int.reduceNeg, Int.zero_add, Int.add_zero, nm_eq, bd_some, bv_some, aI_ok, aL_ok, aS_ok, dv_ok, dw_ok, I_add, I_sub, I_mul, I_neg, I_lt, I_le, I_eq, I_nat, J_add, J_sub, J_mul, J_neg, J_lt, J_le, J_eq, I_l, J_i, I_div, J_div, b2_0, b2_1, b2_nar, nar_0, nar_1, zr_0, zr_1, zr_b2, cmp_eq, cmp_le, cmp_lt, cmp_gt, cmp_ge, mx_I, mn_I, mx_L, mn_L, az_I, if_true, if_false, not_true_eq_false, not_false_eq_true, Bool.false_eq_true, i_0, i_1, i_2, i_3, i_4, i_5, i_6, i_7, i_8, i_9, i_10, i_11, i_12, i_16, i_18, i_20, i_24, i_28, i_29, i_30, i_31, i_32, i_33, i_34, i_35, i_37, i_40, i_41, i_42, i_43, i_45, i_46, i_47, i_48, i_57, i_59, i_63, i_64, i_96, i_97, i_98, i_99, i_100, i_101, i_102, i_103, i_104, i_105, i_106, i_107, i_108, i_109, i_110, i_111, i_112, i_113, i_122, i_200, i_255, i_256, i_257, i_258, i_355, i_400, i_999, i_1000, i_1200, i_5680, i_9999, i_10000, i_99999, j_0, j_1, j_2, j_3, j_4, j_5, j_6, j_9, j_10, j_11, j_98, j_99, j_100, j_999, j_1000, j_9999, j_10000, j_99999, j_1000000]
    · exact ON.ag hV hE hE1 (by omega) ho0 (fun k y c d y0 y1 => by rw [ag.2.2.2 k y (ok_ c (by omega) (by omega) (by omega)) y0 (by rw [szv_s (by omega), vs_s (by decide)]; omega)]; exact vset_ne (by omega)) (fun p c d => by rw [ag.2.2.2 14 p (ok_ (by omega) (by omega) (by omega) (by omega)) c d]; exact vset_ne (by decide)) (fun m c d => by rw [ag.2.2.2 11 m (ok_ (by omega) (by omega) (by omega) (by omega)) c (by rw [szv_m (by omega) (by omega), vs_m (by decide)]; exact d)]; exact vset_ne (by decide)) (fun k j w => (g22 k j (by omega)).1)
  · subst e
    have eu : un 2 pl ol (G 0) = vset (G 0) 7 pl ol := rfl
    rw [eu] at ag
    have lt := b1 (by omega)
    obtain ⟨μ1, y1, y2, y3, y4⟩ := c_tellPr (N := N) hb hN hV hE hG q4 hc0 ho0 p0 lt hV1 hE1 ag
    refine ⟨μ1, ?_, y2, y3, hrg _ y4, fin _ y4⟩
    rw [etb, if_neg (by decide), if_neg (by decide), if_pos (show I_ 2 = 2 from rfl)]
    simp (disch := omega) only [Int.reduceEq, Int.reduceNe, Int.reduceLT, Int.reduceLE, Int.reduceAdd, Int.reduceSub, Int.reduceMul, Int.reduceNeg, Int.zero_add, Int.add_zero, nm_eq, bd_some, bv_some, aI_ok, aL_ok, aS_ok, dv_ok, dw_ok, I_add, I_sub, I_mul, I_neg, I_lt, I_le, I_eq, I_nat, J_add, J_sub, J_mul, J_neg, J_lt, J_le, J_eq, I_l, J_i, I_div, J_div, b2_0, b2_1, b2_nar, nar_0, nar_1, zr_0, zr_1, zr_b2, cmp_eq, cmp_le, cmp_lt, cmp_gt, cmp_ge, mx_I, mn_I, mx_L, mn_L, az_I, if_true, if_false, not_true_eq_false, not_false_eq_true, Bool.false_eq_true, i_0, i_1, i_2, i_3, i_4, i_5, i_6, i_7, i_8, i_9, i_10, i_11, i_12, i_16, i_18, i_20, i_24, i_28, i_29, i_30, i_31, i_32, i_33, i_34, i_35, i_37, i_40, i_41, i_42, i_43, i_45, i_46, i_47, i_48, i_57, i_59, i_63, i_64, i_96, i_97, i_98, i_99, i_100, i_101, i_102, i_103, i_104, i_105, i_106, i_107, i_108, i_109, i_110, i_111, i_112, i_113, i_122, i_200, i_255, i_256, i_257, i_258, i_355, i_400, i_999, i_1000, i_1200, i_5680, i_9999, i_10000, i_99999, j_0, j_1, j_2, j_3, j_4, j_5, j_6, j_9, j_10, j_11, j_98, j_99, j_100, j_999, j_1000, j_9999, j_10000, j_99999, j_1000000, y1]
  · subst e
    have eu : un 3 pl ol (G 0) = vset (G 0) 14 pl ol := rfl
    rw [eu] at ag
    have lt := b2' (by omega)
    obtain ⟨μ1, y1, y2, y3, y4⟩ := c_tellCo (N := N) hb hN hV hE hG q4 hc0 ho0 p0 lt hV1 hE1 ag
    refine ⟨μ1, ?_, y2, y3, hrg _ y4, fin _ y4⟩
    rw [etb, if_neg (by decide), if_neg (by decide), if_neg (by decide), if_pos (show I_ 3 = 3 from rfl)]
    simp (disch := omega) only [Int.reduceEq, Int.reduceNe, Int.reduceLT, Int.reduceLE, Int.reduceAdd, Int.reduceSub, Int.reduceMul, Int.reduceNeg, Int.zero_add, Int.add_zero, nm_eq, bd_some, bv_some, aI_ok, aL_ok, aS_ok, dv_ok, dw_ok, I_add, I_sub, I_mul, I_neg, I_lt, I_le, I_eq, I_nat, J_add, J_sub, J_mul, J_neg, J_lt, J_le, J_eq, I_l, J_i, I_div, J_div, b2_0, b2_1, b2_nar, nar_0, nar_1, zr_0, zr_1, zr_b2, cmp_eq, cmp_le, cmp_lt, cmp_gt, cmp_ge, mx_I, mn_I, mx_L, mn_L, az_I, if_true, if_false, not_true_eq_false, not_false_eq_true, Bool.false_eq_true, i_0, i_1, i_2, i_3, i_4, i_5, i_6, i_7, i_8, i_9, i_10, i_11, i_12, i_16, i_18, i_20, i_24, i_28, i_29, i_30, i_31, i_32, i_33, i_34, i_35, i_37, i_40, i_41, i_42, i_43, i_45, i_46, i_47, i_48, i_57, i_59, i_63, i_64, i_96, i_97, i_98, i_99, i_100, i_101, i_102, i_103, i_104, i_105, i_106, i_107, i_108, i_109, i_110, i_111, i_112, i_113, i_122, i_200, i_255, i_256, i_257, i_258, i_355, i_400, i_999, i_1000, i_1200, i_5680, i_9999, i_10000, i_99999, j_0, j_1, j_2, j_3, j_4, j_5, j_6, j_9, j_10, j_11, j_98, j_99, j_100, j_999, j_1000, j_9999, j_10000, j_99999, j_1000000, y1]
  · subst e
    have eu : un 4 pl ol (G 0) = vset (G 0) 16 pl ol := rfl
    rw [eu] at ag
    have lt := b3 (by omega)
    have hs : sN (G 1) = sN (G 0) := ag.1.trans (vs_s (by decide))
    have g : Fr (fun k _ => b ≤ k ∧ k ≤ b + 28) (stI (stI μ 2 4 (I_ ((nx + 15) % 16))) 2 3 (I_ (a : Int))) (stI (stI (stI μ 2 4 (I_ ((nx + 15) % 16))) 2 3 (I_ (a : Int))) (b + 28) pl.toNat (I_ ol)) := Fr.rf.stI ⟨by omega, by omega⟩
    have g22 : Fr (fun k j => k = b + 28) (stI (stI μ 2 4 (I_ ((nx + 15) % 16))) 2 3 (I_ (a : Int))) (stI (stI (stI μ 2 4 (I_ ((nx + 15) % 16))) 2 3 (I_ (a : Int))) (b + 28) pl.toNat (I_ ol)) := Fr.rf.stI rfl
    refine ⟨_, ?_, (hc0.set (k0 := 16) (by omega) (by omega) p0).ag ag, ?_, hrg _ g, fin _ g⟩
    · rw [etb, if_neg (by decide), if_neg (by decide), if_neg (by decide), if_neg (by decide), if_pos (show I_ 4 = 4 from rfl)]
      simp (disch := omega) only [Int.reduceEq, Int.reduceNe, Int.reduceLT, Int.reduceLE, Int.reduceAdd, Int.reduceSub, Int.reduceMul, Int.reduceNeg, Int.zero_add, Int.add_zero, nm_eq, bd_some, bv_some, aI_ok, aL_ok, aS_ok, dv_ok, dw_ok, I_add, I_sub, I_mul, I_neg, I_lt, I_le, I_eq, I_nat, J_add, J_sub, J_mul, J_neg, J_lt, J_le, J_eq, I_l, J_i, I_div, J_div, b2_0, b2_1, b2_nar, nar_0, nar_1, zr_0, zr_1, zr_b2, cmp_eq, cmp_le, cmp_lt, cmp_gt, cmp_ge, mx_I, mn_I, mx_L, mn_L, az_I, if_true, if_false, not_true_eq_false, not_false_eq_true, Bool.false_eq_true, i_0, i_1, i_2, i_3, i_4, i_5, i_6, i_7, i_8, i_9, i_10, i_11, i_12, i_16, i_18, i_20, i_24, i_28, i_29, i_30, i_31, i_32, i_33, i_34, i_35, i_37, i_40, i_41, i_42, i_43, i_45, i_46, i_47, i_48, i_57, i_59, i_63, i_64, i_96, i_97, i_98, i_99, i_100, i_101, i_102, i_103, i_104, i_105, i_106, i_107, i_108, i_109, i_110, i_111, i_112, i_113, i_122, i_200, i_255, i_256, i_257, i_258, i_355, i_400, i_999, i_1000, i_1200, i_5680, i_9999, i_10000, i_99999, j_0, j_1, j_2, j_3, j_4, j_5, j_6, j_9, j_10, j_11, j_98, j_99, j_100, j_999, j_1000, j_9999, j_10000, j_99999, j_1000000]
      rfl
    · exact ON.ag hV hE hE1 (by omega) ho0 (fun k y c d y0 y1 => by rw [ag.2.2.2 k y (ok_ c (by omega) (by omega) (by omega)) y0 (by rw [szv_s (by omega), vs_s (by decide)]; omega)]; exact vset_ne (by omega)) (fun p c d => by rw [ag.2.2.2 14 p (ok_ (by omega) (by omega) (by omega) (by omega)) c d]; exact vset_ne (by decide)) (fun m c d => by rw [ag.2.2.2 11 m (ok_ (by omega) (by omega) (by omega) (by omega)) c (by rw [szv_m (by omega) (by omega), vs_m (by decide)]; exact d)]; exact vset_ne (by decide)) (fun k j w => (g22 k j (by omega)).1)
  · subst e
    have eu : un 5 pl ol (G 0) = vset (G 0) 15 pl ol := rfl
    rw [eu] at ag
    have lt := b4 (by omega)
    have l1 := b6 (by omega)
    have hs : sN (G 1) = sN (G 0) := ag.1.trans (vs_s (by decide))
    have g : Fr (fun k _ => b ≤ k ∧ k ≤ b + 28) (stI (stI μ 2 4 (I_ ((nx + 15) % 16))) 2 3 (I_ (a : Int))) (stI (stI (stI μ 2 4 (I_ ((nx + 15) % 16))) 2 3 (I_ (a : Int))) (b + 27) pl.toNat (I_ ol)) := Fr.rf.stI ⟨by omega, by omega⟩
    have g22 : Fr (fun k j => k = b + 27) (stI (stI μ 2 4 (I_ ((nx + 15) % 16))) 2 3 (I_ (a : Int))) (stI (stI (stI μ 2 4 (I_ ((nx + 15) % 16))) 2 3 (I_ (a : Int))) (b + 27) pl.toNat (I_ ol)) := Fr.rf.stI rfl
    refine ⟨_, ?_, (hc0.set (k0 := 15) (by omega) (by omega) p0).ag ag, ?_, hrg _ g, fin _ g⟩
    · rw [etb, if_neg (by decide), if_neg (by decide), if_neg (by decide), if_neg (by decide), if_neg (by decide)]
      have oc : ol = 0 ∨ ol = 1 := by omega
      rcases oc with e | e
      · subst e
        simp (disch := omega) only [Int.reduceEq, Int.reduceNe, Int.reduceLT, Int.reduceLE, Int.reduceAdd, Int.reduceSub, Int.reduceMul, Int.reduceNeg, Int.zero_add, Int.add_zero, nm_eq, bd_some, bv_some, aI_ok, aL_ok, aS_ok, dv_ok, dw_ok, I_add, I_sub, I_mul, I_neg, I_lt, I_le, I_eq, I_nat, J_add, J_sub, J_mul, J_neg, J_lt, J_le, J_eq, I_l, J_i, I_div, J_div, b2_0, b2_1, b2_nar, nar_0, nar_1, zr_0, zr_1, zr_b2, cmp_eq, cmp_le, cmp_lt, cmp_gt, cmp_ge, mx_I, mn_I, mx_L, mn_L, az_I, if_true, if_false, not_true_eq_false, not_false_eq_true, Bool.false_eq_true, i_0, i_1, i_2, i_3, i_4, i_5, i_6, i_7, i_8, i_9, i_10, i_11, i_12, i_16, i_18, i_20, i_24, i_28, i_29, i_30, i_31, i_32, i_33, i_34, i_35, i_37, i_40, i_41, i_42, i_43, i_45, i_46, i_47, i_48, i_57, i_59, i_63, i_64, i_96, i_97, i_98, i_99, i_100, i_101, i_102, i_103, i_104, i_105, i_106, i_107, i_108, i_109, i_110, i_111, i_112, i_113, i_122, i_200, i_255, i_256, i_257, i_258, i_355, i_400, i_999, i_1000, i_1200, i_5680, i_9999, i_10000, i_99999, j_0, j_1, j_2, j_3, j_4, j_5, j_6, j_9, j_10, j_11, j_98, j_99, j_100, j_999, j_1000, j_9999, j_10000, j_99999, j_1000000]
        rfl
      · subst e
        simp (disch := omega) only [Int.reduceEq, Int.reduceNe, Int.reduceLT, Int.reduceLE, Int.reduceAdd, Int.reduceSub, Int.reduceMul, Int.reduceNeg, Int.zero_add, Int.add_zero, nm_eq, bd_some, bv_some, aI_ok, aL_ok, aS_ok, dv_ok, dw_ok, I_add, I_sub, I_mul, I_neg, I_lt, I_le, I_eq, I_nat, J_add, J_sub, J_mul, J_neg, J_lt, J_le, J_eq, I_l, J_i, I_div, J_div, b2_0, b2_1, b2_nar, nar_0, nar_1, zr_0, zr_1, zr_b2, cmp_eq, cmp_le, cmp_lt, cmp_gt, cmp_ge, mx_I, mn_I, mx_L, mn_L, az_I, if_true, if_false, not_true_eq_false, not_false_eq_true, Bool.false_eq_true, i_0, i_1, i_2, i_3, i_4, i_5, i_6, i_7, i_8, i_9, i_10, i_11, i_12, i_16, i_18, i_20, i_24, i_28, i_29, i_30, i_31, i_32, i_33, i_34, i_35, i_37, i_40, i_41, i_42, i_43, i_45, i_46, i_47, i_48, i_57, i_59, i_63, i_64, i_96, i_97, i_98, i_99, i_100, i_101, i_102, i_103, i_104, i_105, i_106, i_107, i_108, i_109, i_110, i_111, i_112, i_113, i_122, i_200, i_255, i_256, i_257, i_258, i_355, i_400, i_999, i_1000, i_1200, i_5680, i_9999, i_10000, i_99999, j_0, j_1, j_2, j_3, j_4, j_5, j_6, j_9, j_10, j_11, j_98, j_99, j_100, j_999, j_1000, j_9999, j_10000, j_99999, j_1000000]
        rfl
    · exact ON.ag hV hE hE1 (by omega) ho0 (fun k y c d y0 y1 => by rw [ag.2.2.2 k y (ok_ c (by omega) (by omega) (by omega)) y0 (by rw [szv_s (by omega), vs_s (by decide)]; omega)]; exact vset_ne (by omega)) (fun p c d => by rw [ag.2.2.2 14 p (ok_ (by omega) (by omega) (by omega) (by omega)) c d]; exact vset_ne (by decide)) (fun m c d => by rw [ag.2.2.2 11 m (ok_ (by omega) (by omega) (by omega) (by omega)) c (by rw [szv_m (by omega) (by omega), vs_m (by decide)]; exact d)]; exact vset_ne (by decide)) (fun k j w => (g22 k j (by omega)).1)
end
