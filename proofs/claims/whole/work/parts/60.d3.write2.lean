/-! case 37: the report, both sides. -/
section
variable {N b : Nat} {μ μ0 ν ν0 : Mem} {V : Vw} {p x L : Int} {w : Int} {W A : Int → Int}
theorem c_w123 (hN : 500 ≤ N) {ng : Int} (p0 : 0 ≤ p) (p1 : p < 4) (hng : μ0.1 27 p.toNat = I_ ng) (n0 : 0 ≤ ng) (n1 : ng ≤ 1) (h : cWd μ0 w W μ) (w0 : 0 ≤ w) (w1 : w < 40) : ∃ μ', fX10_write_123 N (I_ p) μ = some (.inl (I_ (if ng = 0 then w else w + 11)), μ') ∧ cWd μ0 (if ng = 0 then w else w + 11) (if ng = 0 then W else wpx W w (wch 29)) μ' := by
  have e27 : μ.1 27 p.toNat = I_ ng := by rw [(h.1 27 _ (by unfold P_wc; omega)).1]; exact hng
  by_cases q : ng = 0
  · rw [if_pos q, if_pos q]
    refine ⟨μ, ?_, h⟩
    simp (disch := omega) only [fX10_write_123, Int.reduceEq, Int.reduceNe, Int.reduceLT, Int.reduceLE, Int.reduceAdd, Int.reduceSub, Int.reduceMul, Int.reduceNeg, Int.zero_add, Int.add_zero, nm_eq, bd_some, bv_some, aI_ok, aL_ok, aS_ok, dv_ok, dw_ok, I_add, I_sub, I_mul, I_neg, I_lt, I_le, I_eq, I_nat, J_add, J_sub, J_mul, J_neg, J_lt, J_le, J_eq, I_l, J_i, I_div, J_div, b2_0, b2_1, b2_nar, nar_0, nar_1, zr_0, zr_1, zr_b2, cmp_eq, cmp_le, cmp_lt, cmp_gt, cmp_ge, mx_I, mn_I, mx_L, mn_L, az_I, if_true, if_false, not_true_eq_false, not_false_eq_true, Bool.false_eq_true, i_0, i_1, i_2, i_3, i_4, i_5, i_6, i_7, i_8, i_9, i_10, i_11, i_12, i_16, i_18, i_20, i_24, i_28, i_29, i_30, i_31, i_32, i_33, i_34, i_35, i_37, i_40, i_41, i_42, i_43, i_45, i_46, i_47, i_48, i_57, i_59, i_63, i_64, i_96, i_97, i_98, i_99, i_100, i_101, i_102, i_103, i_104, i_105, i_106, i_107, i_108, i_109, i_110, i_111, i_112, i_113, i_122, i_200, i_255, i_256, i_257, i_258, i_355, i_400, i_999, i_1000, i_1200, i_5680, i_9999, i_10000, i_99999, j_0, j_1, j_2, j_3, j_4, j_5, j_6, j_9, j_10, j_11, j_98, j_99, j_100, j_999, j_1000, j_9999, j_10000, j_99999, j_1000000, e27, q, h.2.1]
  · rw [if_neg q, if_neg q]
    obtain ⟨μ1, a1, g1⟩ := c_text (N := N) (t := 29) (Or.inr rfl) hN h w0 w1
    have el : ((lw_ 29 : Nat) : Int) = 11 := rfl
    rw [el] at g1
    refine ⟨μ1, ?_, g1⟩
    simp (disch := omega) only [fX10_write_123, Int.reduceEq, Int.reduceNe, Int.reduceLT, Int.reduceLE, Int.reduceAdd, Int.reduceSub, Int.reduceMul, Int.reduceNeg, Int.zero_add, Int.add_zero, nm_eq, bd_some, bv_some, aI_ok, aL_ok, aS_ok, dv_ok, dw_ok, I_add, I_sub, I_mul, I_neg, I_lt, I_le, I_eq, I_nat, J_add, J_sub, J_mul, J_neg, J_lt, J_le, J_eq, I_l, J_i, I_div, J_div, b2_0, b2_1, b2_nar, nar_0, nar_1, zr_0, zr_1, zr_b2, cmp_eq, cmp_le, cmp_lt, cmp_gt, cmp_ge, mx_I, mn_I, mx_L, mn_L, az_I, if_true, if_false, not_true_eq_false, not_false_eq_true, Bool.false_eq_true, i_0, i_1, i_2, i_3, i_4, i_5, i_6, i_7, i_8, i_9, i_10, i_11, i_12, i_16, i_18, i_20, i_24, i_28, i_29, i_30, i_31, i_32, i_33, i_34, i_35, i_37, i_40, i_41, i_42, i_43, i_45, i_46, i_47, i_48, i_57, i_59, i_63, i_64, i_96, i_97, i_98, i_99, i_100, i_101, i_102, i_103, i_104, i_105, i_106, i_107, i_108, i_109, i_110, i_111, i_112, i_113, i_122, i_200, i_255, i_256, i_257, i_258, i_355, i_400, i_999, i_1000, i_1200, i_5680, i_9999, i_10000, i_99999, j_0, j_1, j_2, j_3, j_4, j_5, j_6, j_9, j_10, j_11, j_98, j_99, j_100, j_999, j_1000, j_9999, j_10000, j_99999, j_1000000, e27, q, a1, g1.2.1]
theorem c_w67 (hN : 500 ≤ N) {si ng : Int} (hb : kB b) (h06 : μ0.2.2 0 6 = b) (p0 : 0 ≤ p) (p1 : p < 4) (hx : μ0.1 26 p.toNat = I_ x) (x0 : 0 ≤ x) (x1 : x ≤ 99999) (hsi : μ0.1 (b + 27) p.toNat = I_ si) (s0 : 0 ≤ si) (s1 : si ≤ 1) (hng : μ0.1 27 p.toNat = I_ ng) (n0 : 0 ≤ ng) (n1 : ng ≤ 1) (h : cWd μ0 L A μ) (L0 : 0 ≤ L) (L1 : L ≤ 6) : ∃ μ', fX10_write_67 N (I_ p) μ = some (.inl (I_ (wL5 L x si ng)), μ') ∧ cWd μ0 (wL5 L x si ng) (wW5 A L x si ng) μ' := by
  have hk := wnk_in (x := x)
  have hb1 : 32 ≤ b ∧ b + 28 ≤ 89 := by rcases hb with e | e <;> omega
  obtain ⟨μ1, a1, g1⟩ := c_ad (N := N) (x := 32) h L0 (by omega) (by omega) (by omega)
  have e26 : μ1.1 26 p.toNat = I_ x := by rw [(g1.1 26 _ (by unfold P_wc; omega)).1]; exact hx
  obtain ⟨μ2, a2, g2⟩ := c_nm (N := N) hN x0 x1 g1 (by omega) (by omega)
  obtain ⟨μ3, a3, g3⟩ := c_ad (N := N) (x := 37) g2 (by omega) (by omega) (by omega) (by omega)
  have g3' : cWd μ0 (wL3 L x) (wW3 A L x) μ3 := g3
  have hw3 : 0 ≤ wL3 L x ∧ wL3 L x < 20 := by unfold wL3; omega
  have e06 : μ3.2.2 0 6 = b := by rw [(g3.1 0 6 (by unfold P_wc; omega)).2.2]; exact h06
  have esi : μ3.1 (b + 27) p.toNat = I_ si := by rw [(g3.1 (b + 27) _ (by unfold P_wc; omega)).1]; exact hsi
  by_cases q : si = 0
  · have e1 : wL4 L x si = wL3 L x := if_pos q
    have e2 : wW4 A L x si = wW3 A L x := if_pos q
    obtain ⟨μ4, a4, g4⟩ := c_w123 (N := N) hN p0 p1 hng n0 n1 g3' (by omega) (by omega)
    refine ⟨μ4, ?_, ?_⟩
    · unfold wL5
      rw [e1, ← a4]
      simp (disch := omega) only [fX10_write_67, Int.reduceEq, Int.reduceNe, Int.reduceLT, Int.reduceLE, Int.reduceAdd, Int.reduceSub, Int.reduceMul, Int.reduceNeg, Int.zero_add, Int.add_zero, nm_eq, bd_some, bv_some, aI_ok, aL_ok, aS_ok, dv_ok, dw_ok, I_add, I_sub, I_mul, I_neg, I_lt, I_le, I_eq, I_nat, J_add, J_sub, J_mul, J_neg, J_lt, J_le, J_eq, I_l, J_i, I_div, J_div, b2_0, b2_1, b2_nar, nar_0, nar_1, zr_0, zr_1, zr_b2, cmp_eq, cmp_le, cmp_lt, cmp_gt, cmp_ge, mx_I, mn_I, mx_L, mn_L, az_I, if_true, if_false, not_true_eq_false, not_false_eq_true, Bool.false_eq_true, i_0, i_1, i_2, i_3, i_4, i_5, i_6, i_7, i_8, i_9, i_10, i_11, i_12, i_16, i_18, i_20, i_24, i_28, i_29, i_30, i_31, i_32, i_33, i_34, i_35, i_37, i_40, i_41, i_42, i_43, i_45, i_46, i_47, i_48, i_57, i_59, i_63, i_64, i_96, i_97, i_98, i_99, i_100, i_101, i_102, i_103, i_104, i_105, i_106, i_107, i_108, i_109, i_110, i_111, i_112, i_113, i_122, i_200, i_255, i_256, i_257, i_258, i_355, i_400, i_999, i_1000, i_1200, i_5680, i_9999, i_10000, i_99999, j_0, j_1, j_2, j_3, j_4, j_5, j_6, j_9, j_10, j_11, j_98, j_99, j_100, j_999, j_1000, j_9999, j_10000, j_99999, j_1000000, a1, e26, a2, a3, e06, gB_k hb, esi, q]
    · unfold wL5 wW5
      rw [e1, e2]
      exact g4
  · have e1 : wL4 L x si = wL3 L x + 7 := if_neg q
    have e2 : wW4 A L x si = wpx (wW3 A L x) (wL3 L x) (wch 28) := if_neg q
    obtain ⟨μ5, a5, g5⟩ := c_text (N := N) (t := 28) (Or.inl rfl) hN g3' (by omega) (by omega)
    have el : ((lw_ 28 : Nat) : Int) = 7 := rfl
    rw [el] at g5
    obtain ⟨μ4, a4, g4⟩ := c_w123 (N := N) hN p0 p1 hng n0 n1 g5 (by omega) (by omega)
    refine ⟨μ4, ?_, ?_⟩
    · unfold wL5
      rw [e1, ← a4]
      simp (disch := omega) only [fX10_write_67, Int.reduceEq, Int.reduceNe, Int.reduceLT, Int.reduceLE, Int.reduceAdd, Int.reduceSub, Int.reduceMul, Int.reduceNeg, Int.zero_add, Int.add_zero, nm_eq, bd_some, bv_some, aI_ok, aL_ok, aS_ok, dv_ok, dw_ok, I_add, I_sub, I_mul, I_neg, I_lt, I_le, I_eq, I_nat, J_add, J_sub, J_mul, J_neg, J_lt, J_le, J_eq, I_l, J_i, I_div, J_div, b2_0, b2_1, b2_nar, nar_0, nar_1, zr_0, zr_1, zr_b2, cmp_eq, cmp_le, cmp_lt, cmp_gt, cmp_ge, mx_I, mn_I, mx_L, mn_L, az_I, if_true, if_false, not_true_eq_false, not_false_eq_true, Bool.false_eq_true, i_0, i_1, i_2, i_3, i_4, i_5, i_6, i_7, i_8, i_9, i_10, i_11, i_12, i_16, i_18, i_20, i_24, i_28, i_29, i_30, i_31, i_32, i_33, i_34, i_35, i_37, i_40, i_41, i_42, i_43, i_45, i_46, i_47, i_48, i_57, i_59, i_63, i_64, i_96, i_97, i_98, i_99, i_100, i_101, i_102, i_103, i_104, i_105, i_106, i_107, i_108, i_109, i_110, i_111, i_112, i_113, i_122, i_200, i_255, i_256, i_257, i_258, i_355, i_400, i_999, i_1000, i_1200, i_5680, i_9999, i_10000, i_99999, j_0, j_1, j_2, j_3, j_4, j_5, j_6, j_9, j_10, j_11, j_98, j_99, j_100, j_999, j_1000, j_9999, j_10000, j_99999, j_1000000, a1, e26, a2, a3, e06, gB_k hb, esi, q, a5]
    · unfold wL5 wW5
      rw [e1, e2]
      exact g4
theorem c_w26 {c : Int} {Lf : Int → Int} {Af : Int → Int → Int} (hb : kB b) (h06 : μ0.2.2 0 6 = b) (hNV : NV c Lf Af) (hNC : NC (b + 4) c Lf Af μ0) (p0 : 0 ≤ p) (p1 : p < c) {k67 : Mem → Option ((Int32 ⊕ Nat) × Mem)} (hk : ∀ μ, fX10_write_67 N (I_ p) μ = k67 μ) : ∀ (d n : Nat) (i : Int) (μ : Mem), d < n → 0 ≤ i → i + d = Lf p → cWd μ0 i (Af p) μ → ∃ μ', fX10_write_26 N n (I_ p) (I_ i) μ = k67 μ' ∧ cWd μ0 (Lf p) (Af p) μ' := by
  have hb1 : 32 ≤ b ∧ b + 28 ≤ 89 := by rcases hb with e | e <;> omega
  have kN4 : kN (b + 4) := by unfold kN; rcases hb with e | e <;> omega
  have hc := hNV.2.1
  have hv := hNV.2.2 p p0 p1
  intro d
  induction d with
  | zero =>
    intro n i μ h1 h2 h3 h
    obtain ⟨n, rfl⟩ : ∃ mm, n = mm + 1 := ⟨n - 1, by omega⟩
    have e06 : μ.2.2 0 6 = b := by rw [(h.1 0 6 (by unfold P_wc; omega)).2.2]; exact h06
    have eL : μ.1 (b + 6) p.toNat = I_ (Lf p) := by rw [(h.1 (b + 6) _ (by unfold P_wc; omega)).1]; exact (hNC.2 p p0 p1).1
    have hle : Lf p ≤ i := by omega
    refine ⟨μ, ?_, by rw [show Lf p = i by omega]; exact h⟩
    simp (disch := omega) only [fX10_write_26, Int.reduceEq, Int.reduceNe, Int.reduceLT, Int.reduceLE, Int.reduceAdd, Int.reduceSub, Int.reduceMul, Int.reduceNeg, Int.zero_add, Int.add_zero, nm_eq, bd_some, bv_some, aI_ok, aL_ok, aS_ok, dv_ok, dw_ok, I_add, I_sub, I_mul, I_neg, I_lt, I_le, I_eq, I_nat, J_add, J_sub, J_mul, J_neg, J_lt, J_le, J_eq, I_l, J_i, I_div, J_div, b2_0, b2_1, b2_nar, nar_0, nar_1, zr_0, zr_1, zr_b2, cmp_eq, cmp_le, cmp_lt, cmp_gt, cmp_ge, mx_I, mn_I, mx_L, mn_L, az_I, if_true, if_false, not_true_eq_false, not_false_eq_true, Bool.false_eq_true, i_0, i_1, i_2, i_3, i_4, i_5, i_6, i_7, i_8, i_9, i_10, i_11, i_12, i_16, i_18, i_20, i_24, i_28, i_29, i_30, i_31, i_32, i_33, i_34, i_35, i_37, i_40, i_41, i_42, i_43, i_45, i_46, i_47, i_48, i_57, i_59, i_63, i_64, i_96, i_97, i_98, i_99, i_100, i_101, i_102, i_103, i_104, i_105, i_106, i_107, i_108, i_109, i_110, i_111, i_112, i_113, i_122, i_200, i_255, i_256, i_257, i_258, i_355, i_400, i_999, i_1000, i_1200, i_5680, i_9999, i_10000, i_99999, j_0, j_1, j_2, j_3, j_4, j_5, j_6, j_9, j_10, j_11, j_98, j_99, j_100, j_999, j_1000, j_9999, j_10000, j_99999, j_1000000, e06, gB_k hb, eL, hle, hk]
  | succ d ih =>
    intro n i μ h1 h2 h3 h
    obtain ⟨n, rfl⟩ : ∃ mm, n = mm + 1 := ⟨n - 1, by omega⟩
    have e06 : μ.2.2 0 6 = b := by rw [(h.1 0 6 (by unfold P_wc; omega)).2.2]; exact h06
    have eL : μ.1 (b + 6) p.toNat = I_ (Lf p) := by rw [(h.1 (b + 6) _ (by unfold P_wc; omega)).1]; exact (hNC.2 p p0 p1).1
    have hle : ¬ Lf p ≤ i := by omega
    have hNC' : NC (b + 4) c Lf Af μ := hNC.F h.1 (fun k j q => by unfold P_wc at q; omega)
    have cl := c_letter (N := N) (k := i) kN4 hNV hNC' p0 p1 (by omega) (by omega)
    rw [if_pos ⟨h2, by omega⟩] at cl
    have hl := hv.2.1 i.toNat (by omega)
    rw [show ((i.toNat : Nat) : Int) = i by omega] at hl
    obtain ⟨μ1, a1, g1⟩ := c_ad0 (N := N) h h2 (by omega) (by omega) (by omega)
    obtain ⟨μ2, a2, g2⟩ := ih n (i + 1) μ1 (by omega) (by omega) (by omega) g1
    refine ⟨μ2, ?_, g2⟩
    generalize Af p i = y at cl a1
    simp (disch := omega) only [fX10_write_26, Int.reduceEq, Int.reduceNe, Int.reduceLT, Int.reduceLE, Int.reduceAdd, Int.reduceSub, Int.reduceMul, Int.reduceNeg, Int.zero_add, Int.add_zero, nm_eq, bd_some, bv_some, aI_ok, aL_ok, aS_ok, dv_ok, dw_ok, I_add, I_sub, I_mul, I_neg, I_lt, I_le, I_eq, I_nat, J_add, J_sub, J_mul, J_neg, J_lt, J_le, J_eq, I_l, J_i, I_div, J_div, b2_0, b2_1, b2_nar, nar_0, nar_1, zr_0, zr_1, zr_b2, cmp_eq, cmp_le, cmp_lt, cmp_gt, cmp_ge, mx_I, mn_I, mx_L, mn_L, az_I, if_true, if_false, not_true_eq_false, not_false_eq_true, Bool.false_eq_true, i_0, i_1, i_2, i_3, i_4, i_5, i_6, i_7, i_8, i_9, i_10, i_11, i_12, i_16, i_18, i_20, i_24, i_28, i_29, i_30, i_31, i_32, i_33, i_34, i_35, i_37, i_40, i_41, i_42, i_43, i_45, i_46, i_47, i_48, i_57, i_59, i_63, i_64, i_96, i_97, i_98, i_99, i_100, i_101, i_102, i_103, i_104, i_105, i_106, i_107, i_108, i_109, i_110, i_111, i_112, i_113, i_122, i_200, i_255, i_256, i_257, i_258, i_355, i_400, i_999, i_1000, i_1200, i_5680, i_9999, i_10000, i_99999, j_0, j_1, j_2, j_3, j_4, j_5, j_6, j_9, j_10, j_11, j_98, j_99, j_100, j_999, j_1000, j_9999, j_10000, j_99999, j_1000000, e06, gB_k hb, eL, hle, cl, a1, a2]
theorem c_wrt {q : Int} {Lm Lf : Int → Int} {Am Af : Int → Int → Int} {K : Int → List Int} {fo : Int → Int} (hN : 20000 ≤ N) (hV : vB V) (hK : CK b V μ) (hNV : NV (fN V) Lf Af) (hPC : PC b V Lm Am Lf Af K fo q μ) (p0 : 0 ≤ p) (p1 : p < fN V) : ∃ μ1 μ', fX10_write N (I_ p) μ = some (.inl (I_ (wL5 (Lf p) (x_du V p) (s_si V p) (b2 (p_ng V p)))), μ') ∧ Fr P_du μ μ1 ∧ cWd (stI μ1 6 1 (I_ 0)) (wL5 (Lf p) (x_du V p) (s_si V p) (b2 (p_ng V p))) (wW5 (Af p) (Lf p) (x_du V p) (s_si V p) (b2 (p_ng V p))) μ' := by
  have hn := hV.1
  unfold vN at hn
  have hb := hK.1.1
  have hb1 : 32 ≤ b ∧ b + 28 ≤ 89 := by rcases hb with e | e <;> omega
  obtain ⟨μ1, c1, c2, c3⟩ := c_as (N := N) hV (by omega) hK.1
  have hK1 := hK.du c2
  have hd := (c3.2 p p0 p1).2.2.2
  have hg := (c3.1 p p0 p1).2
  have hx := x_du_in (V := V) (f := p)
  have hs := hV.2.2.2.2 p p0 (by omega)
  have hL := (hNV.2.2 p p0 p1).1
  have hb2 : 0 ≤ b2 (p_ng V p) ∧ b2 (p_ng V p) ≤ 1 := by unfold b2; split <;> omega
  have f0 : Fr (fun k j => k = 6 ∧ j = 1) μ1 (stI μ1 6 1 (I_ 0)) := Fr.rf.stI ⟨rfl, rfl⟩
  have h06 : (stI μ1 6 1 (I_ 0)).2.2 0 6 = b := hK1.2
  have hNC : NC (b + 4) (fN V) Lf Af (stI μ1 6 1 (I_ 0)) := (hPC.2.2.2.1.F c2 (fun k j q => by unfold P_du at q; omega)).F f0 (fun k j q => by omega)
  have e26 : (stI μ1 6 1 (I_ 0)).1 26 p.toNat = I_ (x_du V p) := by rw [st_ne (by omega)]; exact hd
  have e27 : (stI μ1 6 1 (I_ 0)).1 27 p.toNat = I_ (b2 (p_ng V p)) := by rw [st_ne (by omega)]; exact hg
  have esi : (stI μ1 6 1 (I_ 0)).1 (b + 27) p.toNat = I_ (s_si V p) := by rw [st_ne (by omega)]; exact CB_si hK1.1 p0 (by omega)
  have hst : cWd (stI μ1 6 1 (I_ 0)) 0 (Af p) (stI μ1 6 1 (I_ 0)) := ⟨Fr.rf, at_S, fun j j0 j1 => by omega⟩
  obtain ⟨μ2, a2, g2⟩ := c_w26 (N := N) hb h06 hNV hNC p0 p1 (fun _ => rfl) (Lf p).toNat N 0 _ (by omega) (by omega) (by omega) hst
  obtain ⟨μ3, a3, g3⟩ := c_w67 (N := N) (by omega) hb h06 p0 (by omega) e26 hx.1 hx.2 esi (by omega) (by omega) e27 hb2.1 hb2.2 g2 (by omega) (by omega)
  refine ⟨μ1, μ3, ?_, c2, g3⟩
  rw [← a3, ← a2]
  simp (disch := omega) only [fX10_write, Int.reduceEq, Int.reduceNe, Int.reduceLT, Int.reduceLE, Int.reduceAdd, Int.reduceSub, Int.reduceMul, Int.reduceNeg, Int.zero_add, Int.add_zero, nm_eq, bd_some, bv_some, aI_ok, aL_ok, aS_ok, dv_ok, dw_ok, I_add, I_sub, I_mul, I_neg, I_lt, I_le, I_eq, I_nat, J_add, J_sub, J_mul, J_neg, J_lt, J_le, J_eq, I_l, J_i, I_div, J_div, b2_0, b2_1, b2_nar, nar_0, nar_1, zr_0, zr_1, zr_b2, cmp_eq, cmp_le, cmp_lt, cmp_gt, cmp_ge, mx_I, mn_I, mx_L, mn_L, az_I, if_true, if_false, not_true_eq_false, not_false_eq_true, Bool.false_eq_true, i_0, i_1, i_2, i_3, i_4, i_5, i_6, i_7, i_8, i_9, i_10, i_11, i_12, i_16, i_18, i_20, i_24, i_28, i_29, i_30, i_31, i_32, i_33, i_34, i_35, i_37, i_40, i_41, i_42, i_43, i_45, i_46, i_47, i_48, i_57, i_59, i_63, i_64, i_96, i_97, i_98, i_99, i_100, i_101, i_102, i_103, i_104, i_105, i_106, i_107, i_108, i_109, i_110, i_111, i_112, i_113, i_122, i_200, i_255, i_256, i_257, i_258, i_355, i_400, i_999, i_1000, i_1200, i_5680, i_9999, i_10000, i_99999, j_0, j_1, j_2, j_3, j_4, j_5, j_6, j_9, j_10, j_11, j_98, j_99, j_100, j_999, j_1000, j_9999, j_10000, j_99999, j_1000000, c_needF_y hV hK p0 p1, bx_l, hK.2, gB_k hb, c1]
/-! the reference -/
theorem r_w138 (hN : 500 ≤ N) (hV : vB V) (hR : RB V ν0) (p0 : 0 ≤ p) (p1 : p < 4) (h : rWd ν0 w W ν) (w0 : 0 ≤ w) (w1 : w < 40) : ∃ ν', fX11_write_138 N (I_ p) ν = some (I_ (if b2 (p_ng V p) = 0 then w else w + 11), ν') ∧ rWd ν0 (if b2 (p_ng V p) = 0 then w else w + 11) (if b2 (p_ng V p) = 0 then W else wpx W w (wch 29)) ν' := by
  have hR' : RB V ν := hR.F h.1 (fun k j q => by unfold P_rb at q; unfold P_wr; omega)
  have ha := r_ng (N := N) (f := p) hV (by omega) hR' p0 p1
  have hb2 : 0 ≤ b2 (p_ng V p) ∧ b2 (p_ng V p) ≤ 1 := by unfold b2; split <;> omega
  generalize b2 (p_ng V p) = ng at *
  by_cases q : ng = 0
  · rw [if_pos q, if_pos q]
    refine ⟨ν, ?_, h⟩
    simp (disch := omega) only [fX11_write_138, Int.reduceEq, Int.reduceNe, Int.reduceLT, Int.reduceLE, Int.reduceAdd, Int.reduceSub, Int.reduceMul, Int.reduceNeg, Int.zero_add, Int.add_zero, nm_eq, bd_some, bv_some, aI_ok, aL_ok, aS_ok, dv_ok, dw_ok, I_add, I_sub, I_mul, I_neg, I_lt, I_le, I_eq, I_nat, J_add, J_sub, J_mul, J_neg, J_lt, J_le, J_eq, I_l, J_i, I_div, J_div, b2_0, b2_1, b2_nar, nar_0, nar_1, zr_0, zr_1, zr_b2, cmp_eq, cmp_le, cmp_lt, cmp_gt, cmp_ge, mx_I, mn_I, mx_L, mn_L, az_I, if_true, if_false, not_true_eq_false, not_false_eq_true, Bool.false_eq_true, i_0, i_1, i_2, i_3, i_4, i_5, i_6, i_7, i_8, i_9, i_10, i_11, i_12, i_16, i_18, i_20, i_24, i_28, i_29, i_30, i_31, i_32, i_33, i_34, i_35, i_37, i_40, i_41, i_42, i_43, i_45, i_46, i_47, i_48, i_57, i_59, i_63, i_64, i_96, i_97, i_98, i_99, i_100, i_101, i_102, i_103, i_104, i_105, i_106, i_107, i_108, i_109, i_110, i_111, i_112, i_113, i_122, i_200, i_255, i_256, i_257, i_258, i_355, i_400, i_999, i_1000, i_1200, i_5680, i_9999, i_10000, i_99999, j_0, j_1, j_2, j_3, j_4, j_5, j_6, j_9, j_10, j_11, j_98, j_99, j_100, j_999, j_1000, j_9999, j_10000, j_99999, j_1000000, ha, q, h.2.1]
  · rw [if_neg q, if_neg q]
    obtain ⟨ν1, a1, g1⟩ := r_text (N := N) (t := 29) (Or.inr rfl) hN h w0 w1
    have el : ((lw_ 29 : Nat) : Int) = 11 := rfl
    rw [el] at g1
    refine ⟨ν1, ?_, g1⟩
    simp (disch := omega) only [fX11_write_138, Int.reduceEq, Int.reduceNe, Int.reduceLT, Int.reduceLE, Int.reduceAdd, Int.reduceSub, Int.reduceMul, Int.reduceNeg, Int.zero_add, Int.add_zero, nm_eq, bd_some, bv_some, aI_ok, aL_ok, aS_ok, dv_ok, dw_ok, I_add, I_sub, I_mul, I_neg, I_lt, I_le, I_eq, I_nat, J_add, J_sub, J_mul, J_neg, J_lt, J_le, J_eq, I_l, J_i, I_div, J_div, b2_0, b2_1, b2_nar, nar_0, nar_1, zr_0, zr_1, zr_b2, cmp_eq, cmp_le, cmp_lt, cmp_gt, cmp_ge, mx_I, mn_I, mx_L, mn_L, az_I, if_true, if_false, not_true_eq_false, not_false_eq_true, Bool.false_eq_true, i_0, i_1, i_2, i_3, i_4, i_5, i_6, i_7, i_8, i_9, i_10, i_11, i_12, i_16, i_18, i_20, i_24, i_28, i_29, i_30, i_31, i_32, i_33, i_34, i_35, i_37, i_40, i_41, i_42, i_43, i_45, i_46, i_47, i_48, i_57, i_59, i_63, i_64, i_96, i_97, i_98, i_99, i_100, i_101, i_102, i_103, i_104, i_105, i_106, i_107, i_108, i_109, i_110, i_111, i_112, i_113, i_122, i_200, i_255, i_256, i_257, i_258, i_355, i_400, i_999, i_1000, i_1200, i_5680, i_9999, i_10000, i_99999, j_0, j_1, j_2, j_3, j_4, j_5, j_6, j_9, j_10, j_11, j_98, j_99, j_100, j_999, j_1000, j_9999, j_10000, j_99999, j_1000000, ha, q, a1, g1.2.1]
theorem r_w72 (hN : 500 ≤ N) (hV : vB V) (hR : RB V ν0) (p0 : 0 ≤ p) (p1 : p < 4) (x0 : 0 ≤ x) (x1 : x ≤ 99999) (h : rWd ν0 L A ν) (L0 : 0 ≤ L) (L1 : L ≤ 6) : ∃ ν', fX11_write_72 N (I_ p) (I_ x) ν = some (I_ (wL5 L x (s_si V p) (b2 (p_ng V p))), ν') ∧ rWd ν0 (wL5 L x (s_si V p) (b2 (p_ng V p))) (wW5 A L x (s_si V p) (b2 (p_ng V p))) ν' := by
  have hk := wnk_in (x := x)
  have hs := hV.2.2.2.2 p p0 p1
  obtain ⟨ν1, a1, g1⟩ := r_ad (N := N) (x := 32) h L0 (by omega)
  obtain ⟨ν2, a2, g2⟩ := r_nd (N := N) hN x0 x1 g1 (by omega) (by omega)
  obtain ⟨ν3, a3, g3⟩ := r_ad (N := N) (x := 46) g2 (by omega) (by omega)
  obtain ⟨ν4, a4, g4⟩ := r_ad (N := N) (x := dgt x 10) g3 (by omega) (by omega)
  obtain ⟨ν5, a5, g5⟩ := r_ad (N := N) (x := dgt x 1) g4 (by omega) (by omega)
  obtain ⟨ν6, a6, g6⟩ := r_ad (N := N) (x := 37) g5 (by omega) (by omega)
  have e1 : dgt x 10 = 48 + (x / 10 - x / 10 / 10 * 10) := rfl
  have e2 : dgt x 1 = 48 + (x - x / 10 * 10) := by unfold dgt; omega
  rw [e1] at a4
  rw [e2] at a5
  have g6' : rWd ν0 (wL3 L x) (wW3 A L x) ν6 := g6
  have hw3 : 0 ≤ wL3 L x ∧ wL3 L x < 20 := by unfold wL3; omega
  have hR' : RB V ν6 := hR.F g6.1 (fun k j q => by unfold P_rb at q; unfold P_wr; omega)
  have ha := r_isSil (N := N) (f := p) hV hR' p0 p1
  by_cases q : s_si V p = 0
  · have e1 : wL4 L x (s_si V p) = wL3 L x := if_pos q
    have e2 : wW4 A L x (s_si V p) = wW3 A L x := if_pos q
    have q1 : ¬ s_si V p = 1 := by omega
    rw [b2_f q1] at ha
    obtain ⟨ν7, a7, g7⟩ := r_w138 (N := N) hN hV hR p0 p1 g6' (by omega) (by omega)
    refine ⟨ν7, ?_, ?_⟩
    · unfold wL5
      rw [e1, ← a7]
      simp (disch := omega) only [fX11_write_72, Int.reduceEq, Int.reduceNe, Int.reduceLT, Int.reduceLE, Int.reduceAdd, Int.reduceSub, Int.reduceMul, Int.reduceNeg, Int.zero_add, Int.add_zero, nm_eq, bd_some, bv_some, aI_ok, aL_ok, aS_ok, dv_ok, dw_ok, I_add, I_sub, I_mul, I_neg, I_lt, I_le, I_eq, I_nat, J_add, J_sub, J_mul, J_neg, J_lt, J_le, J_eq, I_l, J_i, I_div, J_div, b2_0, b2_1, b2_nar, nar_0, nar_1, zr_0, zr_1, zr_b2, cmp_eq, cmp_le, cmp_lt, cmp_gt, cmp_ge, mx_I, mn_I, mx_L, mn_L, az_I, if_true, if_false, not_true_eq_false, not_false_eq_true, Bool.false_eq_true, i_0, i_1, i_2, i_3, i_4, i_5, i_6, i_7, i_8, i_9, i_10, i_11, i_12, i_16, i_18, i_20, i_24, i_28, i_29, i_30, i_31, i_32, i_33, i_34, i_35, i_37, i_40, i_41, i_42, i_43, i_45, i_46, i_47, i_48, i_57, i_59, i_63, i_64, i_96, i_97, i_98, i_99, i_100, i_101, i_102, i_103, i_104, i_105, i_106, i_107, i_108, i_109, i_110, i_111, i_112, i_113, i_122, i_200, i_255, i_256, i_257, i_258, i_355, i_400, i_999, i_1000, i_1200, i_5680, i_9999, i_10000, i_99999, j_0, j_1, j_2, j_3, j_4, j_5, j_6, j_9, j_10, j_11, j_98, j_99, j_100, j_999, j_1000, j_9999, j_10000, j_99999, j_1000000, a1, a2, a3, a4, a5, a6, ha]
    · unfold wL5 wW5
      rw [e1, e2]
      exact g7
  · have e1 : wL4 L x (s_si V p) = wL3 L x + 7 := if_neg q
    have e2 : wW4 A L x (s_si V p) = wpx (wW3 A L x) (wL3 L x) (wch 28) := if_neg q
    have q1 : s_si V p = 1 := by omega
    rw [b2_t q1] at ha
    obtain ⟨ν8, a8, g8⟩ := r_text (N := N) (t := 28) (Or.inl rfl) hN g6' (by omega) (by omega)
    have el : ((lw_ 28 : Nat) : Int) = 7 := rfl
    rw [el] at g8
    obtain ⟨ν7, a7, g7⟩ := r_w138 (N := N) hN hV hR p0 p1 g8 (by omega) (by omega)
    refine ⟨ν7, ?_, ?_⟩
    · unfold wL5
      rw [e1, ← a7]
      simp (disch := omega) only [fX11_write_72, Int.reduceEq, Int.reduceNe, Int.reduceLT, Int.reduceLE, Int.reduceAdd, Int.reduceSub, Int.reduceMul, Int.reduceNeg, Int.zero_add, Int.add_zero, nm_eq, bd_some, bv_some, aI_ok, aL_ok, aS_ok, dv_ok, dw_ok, I_add, I_sub, I_mul, I_neg, I_lt, I_le, I_eq, I_nat, J_add, J_sub, J_mul, J_neg, J_lt, J_le, J_eq, I_l, J_i, I_div, J_div, b2_0, b2_1, b2_nar, nar_0, nar_1, zr_0, zr_1, zr_b2, cmp_eq, cmp_le, cmp_lt, cmp_gt, cmp_ge, mx_I, mn_I, mx_L, mn_L, az_I, if_true, if_false, not_true_eq_false, not_false_eq_true, Bool.false_eq_true, i_0, i_1, i_2, i_3, i_4, i_5, i_6, i_7, i_8, i_9, i_10, i_11, i_12, i_16, i_18, i_20, i_24, i_28, i_29, i_30, i_31, i_32, i_33, i_34, i_35, i_37, i_40, i_41, i_42, i_43, i_45, i_46, i_47, i_48, i_57, i_59, i_63, i_64, i_96, i_97, i_98, i_99, i_100, i_101, i_102, i_103, i_104, i_105, i_106, i_107, i_108, i_109, i_110, i_111, i_112, i_113, i_122, i_200, i_255, i_256, i_257, i_258, i_355, i_400, i_999, i_1000, i_1200, i_5680, i_9999, i_10000, i_99999, j_0, j_1, j_2, j_3, j_4, j_5, j_6, j_9, j_10, j_11, j_98, j_99, j_100, j_999, j_1000, j_9999, j_10000, j_99999, j_1000000, a1, a2, a3, a4, a5, a6, ha, a8]
    · unfold wL5 wW5
      rw [e1, e2]
      exact g7
theorem r_w39 {c : Int → Int} {d0 : Nat} (hN : 500 ≤ N) (p0 : 0 ≤ p) (p1 : p < 4) (hl : lets c d0) (d1 : 1 ≤ d0) (d6 : d0 ≤ 6) (hnm : ν0.1 5 p.toNat = I_ (pk c d0)) {k72 : Mem → Option (Int32 × Mem)} (hk : ∀ ν, fX11_write_72 N (I_ p) (I_ x) ν = k72 ν) : ∀ (d n : Nat) (i : Int) (ν : Mem), d < n → 0 ≤ i → i + d = d0 → rWd ν0 i c ν → ∃ ν', fX11_write_39 N n (I_ p) (I_ x) (I_ i) ν = k72 ν' ∧ rWd ν0 d0 c ν' := by
  have lo : ∀ ν : Mem, fX11_lettersOf N (I_ (pk c d0)) ν = some (I_ (d0 : Int), ν) := fun ν => by
    have lo := pk_lo (N := N) (ν := ν) d0 N 0 (by omega) d6 hl
    unfold fX11_lettersOf
    rw [i_0, lo]
    congr 3
    omega
  intro d
  induction d with
  | zero =>
    intro n i ν h1 h2 h3 h
    obtain ⟨n, rfl⟩ : ∃ mm, n = mm + 1 := ⟨n - 1, by omega⟩
    have eN : ν.1 5 p.toNat = I_ (pk c d0) := by rw [(h.1 5 _ (by unfold P_wr; omega)).1]; exact hnm
    have hle : (d0 : Int) ≤ i := by omega
    refine ⟨ν, ?_, by rw [show (d0 : Int) = i by omega]; exact h⟩
    simp (disch := omega) only [fX11_write_39, Int.reduceEq, Int.reduceNe, Int.reduceLT, Int.reduceLE, Int.reduceAdd, Int.reduceSub, Int.reduceMul, Int.reduceNeg, Int.zero_add, Int.add_zero, nm_eq, bd_some, bv_some, aI_ok, aL_ok, aS_ok, dv_ok, dw_ok, I_add, I_sub, I_mul, I_neg, I_lt, I_le, I_eq, I_nat, J_add, J_sub, J_mul, J_neg, J_lt, J_le, J_eq, I_l, J_i, I_div, J_div, b2_0, b2_1, b2_nar, nar_0, nar_1, zr_0, zr_1, zr_b2, cmp_eq, cmp_le, cmp_lt, cmp_gt, cmp_ge, mx_I, mn_I, mx_L, mn_L, az_I, if_true, if_false, not_true_eq_false, not_false_eq_true, Bool.false_eq_true, i_0, i_1, i_2, i_3, i_4, i_5, i_6, i_7, i_8, i_9, i_10, i_11, i_12, i_16, i_18, i_20, i_24, i_28, i_29, i_30, i_31, i_32, i_33, i_34, i_35, i_37, i_40, i_41, i_42, i_43, i_45, i_46, i_47, i_48, i_57, i_59, i_63, i_64, i_96, i_97, i_98, i_99, i_100, i_101, i_102, i_103, i_104, i_105, i_106, i_107, i_108, i_109, i_110, i_111, i_112, i_113, i_122, i_200, i_255, i_256, i_257, i_258, i_355, i_400, i_999, i_1000, i_1200, i_5680, i_9999, i_10000, i_99999, j_0, j_1, j_2, j_3, j_4, j_5, j_6, j_9, j_10, j_11, j_98, j_99, j_100, j_999, j_1000, j_9999, j_10000, j_99999, j_1000000, eN, lo, hle, hk]
  | succ d ih =>
    intro n i ν h1 h2 h3 h
    obtain ⟨n, rfl⟩ : ∃ mm, n = mm + 1 := ⟨n - 1, by omega⟩
    have eN : ν.1 5 p.toNat = I_ (pk c d0) := by rw [(h.1 5 _ (by unfold P_wr; omega)).1]; exact hnm
    have hle : ¬ (d0 : Int) ≤ i := by omega
    have rl := r_letter (N := N) (ν := ν) (c := c) (d := d0) (k := i) hN d6 d1 hl (by omega) (by omega)
    rw [if_pos ⟨h2, by omega⟩] at rl
    obtain ⟨ν1, a1, g1⟩ := r_ad0 (N := N) h h2 (by omega)
    obtain ⟨ν2, a2, g2⟩ := ih n (i + 1) ν1 (by omega) (by omega) (by omega) g1
    refine ⟨ν2, ?_, g2⟩
    generalize c i = y at rl a1
    simp (disch := omega) only [fX11_write_39, Int.reduceEq, Int.reduceNe, Int.reduceLT, Int.reduceLE, Int.reduceAdd, Int.reduceSub, Int.reduceMul, Int.reduceNeg, Int.zero_add, Int.add_zero, nm_eq, bd_some, bv_some, aI_ok, aL_ok, aS_ok, dv_ok, dw_ok, I_add, I_sub, I_mul, I_neg, I_lt, I_le, I_eq, I_nat, J_add, J_sub, J_mul, J_neg, J_lt, J_le, J_eq, I_l, J_i, I_div, J_div, b2_0, b2_1, b2_nar, nar_0, nar_1, zr_0, zr_1, zr_b2, cmp_eq, cmp_le, cmp_lt, cmp_gt, cmp_ge, mx_I, mn_I, mx_L, mn_L, az_I, if_true, if_false, not_true_eq_false, not_false_eq_true, Bool.false_eq_true, i_0, i_1, i_2, i_3, i_4, i_5, i_6, i_7, i_8, i_9, i_10, i_11, i_12, i_16, i_18, i_20, i_24, i_28, i_29, i_30, i_31, i_32, i_33, i_34, i_35, i_37, i_40, i_41, i_42, i_43, i_45, i_46, i_47, i_48, i_57, i_59, i_63, i_64, i_96, i_97, i_98, i_99, i_100, i_101, i_102, i_103, i_104, i_105, i_106, i_107, i_108, i_109, i_110, i_111, i_112, i_113, i_122, i_200, i_255, i_256, i_257, i_258, i_355, i_400, i_999, i_1000, i_1200, i_5680, i_9999, i_10000, i_99999, j_0, j_1, j_2, j_3, j_4, j_5, j_6, j_9, j_10, j_11, j_98, j_99, j_100, j_999, j_1000, j_9999, j_10000, j_99999, j_1000000, eN, lo, hle, rl, a1, a2]
theorem r_wrt {Lm Lf : Int → Int} {Am Af : Int → Int → Int} {K : Int → List Int} (hN : 20000 ≤ N) (hV : vB V) (hW : vO V) (hRk : RKs N V ν) (hNV : NV (fN V) Lf Af) (hPE : PE V Lm Am Lf Af K ν) (p0 : 0 ≤ p) (p1 : p < fN V) : ∃ ν1 ν', fX11_write N (I_ p) ν = some (I_ (wL5 (Lf p) (x_du V p) (s_si V p) (b2 (p_ng V p))), ν') ∧ Fr P_rq (stI ν 0 0 (I_ 0)) ν1 ∧ LF V ν1 ∧ rWd (stI ν1 0 47 (I_ 0)) (wL5 (Lf p) (x_du V p) (s_si V p) (b2 (p_ng V p))) (wW5 (Af p) (Lf p) (x_du V p) (s_si V p) (b2 (p_ng V p))) ν' := by
  have hn := hV.1
  unfold vN at hn
  obtain ⟨ν1, a1, a2, a3⟩ := r_du (N := N) (f := p) hV hW (by omega) p0 p1 (hRk.K.thr (I_ 0))
  have hx := x_du_in (V := V) (f := p)
  have hv := hNV.2.2 p p0 p1
  have f0 : Fr (fun k j => k = 0 ∧ j = 47) ν1 (stI ν1 0 47 (I_ 0)) := Fr.rf.stI ⟨rfl, rfl⟩
  have hR1 : RB V (stI ν1 0 47 (I_ 0)) := a3.1.F f0 (fun k j q => by unfold P_rb at q; omega)
  have hnm : (stI ν1 0 47 (I_ 0)).1 5 p.toNat = I_ (pk (Af p) (Lf p).toNat) := by
    rw [st_ne (by omega), (a2 5 _ (by unfold P_rq; omega)).1, st_ne (by omega)]
    exact hPE.2.2.2.1.2 p p0 p1
  have hst : rWd (stI ν1 0 47 (I_ 0)) 0 (Af p) (stI ν1 0 47 (I_ 0)) := ⟨Fr.rf, at_S, fun j j0 j1 => by omega⟩
  obtain ⟨ν2, b2', g2⟩ := r_w39 (N := N) (x := x_du V p) (by omega) p0 (by omega) hv.2.1 (by omega) (by omega) hnm (fun _ => rfl) (Lf p).toNat N 0 _ (by omega) (by omega) (by omega) hst
  rw [show (((Lf p).toNat : Nat) : Int) = Lf p by omega] at g2
  obtain ⟨ν3, b3, g3⟩ := r_w72 (N := N) (by omega) hV hR1 p0 (by omega) hx.1 hx.2 g2 (by omega) (by omega)
  refine ⟨ν1, ν3, ?_, a2, a3.2.2, g3⟩
  rw [← b3, ← b2']
  simp (disch := omega) only [fX11_write, fX11_write_14, Int.reduceEq, Int.reduceNe, Int.reduceLT, Int.reduceLE, Int.reduceAdd, Int.reduceSub, Int.reduceMul, Int.reduceNeg, Int.zero_add, Int.add_zero, nm_eq, bd_some, bv_some, aI_ok, aL_ok, aS_ok, dv_ok, dw_ok, I_add, I_sub, I_mul, I_neg, I_lt, I_le, I_eq, I_nat, J_add, J_sub, J_mul, J_neg, J_lt, J_le, J_eq, I_l, J_i, I_div, J_div, b2_0, b2_1, b2_nar, nar_0, nar_1, zr_0, zr_1, zr_b2, cmp_eq, cmp_le, cmp_lt, cmp_gt, cmp_ge, mx_I, mn_I, mx_L, mn_L, az_I, if_true, if_false, not_true_eq_false, not_false_eq_true, Bool.false_eq_true, i_0, i_1, i_2, i_3, i_4, i_5, i_6, i_7, i_8, i_9, i_10, i_11, i_12, i_16, i_18, i_20, i_24, i_28, i_29, i_30, i_31, i_32, i_33, i_34, i_35, i_37, i_40, i_41, i_42, i_43, i_45, i_46, i_47, i_48, i_57, i_59, i_63, i_64, i_96, i_97, i_98, i_99, i_100, i_101, i_102, i_103, i_104, i_105, i_106, i_107, i_108, i_109, i_110, i_111, i_112, i_113, i_122, i_200, i_255, i_256, i_257, i_258, i_355, i_400, i_999, i_1000, i_1200, i_5680, i_9999, i_10000, i_99999, j_0, j_1, j_2, j_3, j_4, j_5, j_6, j_9, j_10, j_11, j_98, j_99, j_100, j_999, j_1000, j_9999, j_10000, j_99999, j_1000000, r_isFirm hV hRk.1, b2_t (show 0 ≤ p ∧ p < fN V from ⟨p0, p1⟩), at_S, a1]
theorem wL5_in {si ng : Int} (L0 : 0 ≤ L) (L1 : L ≤ 6) : 0 ≤ wL5 L x si ng ∧ wL5 L x si ng ≤ 60 := by
  have := wnk_in (x := x)
  unfold wL5 wL4 wL3
  (repeat' split) <;> omega
theorem A37 (hN : 20000 ≤ N) (v : Nat → Int32) (h : Rl μ ν) : ∃ z, lawC37 N v μ ν = some z ∧ Rl z.1 z.2 := by
  obtain ⟨b, Lm, Am, Lf, Af, K, fo, q, G, a, nx, hA, hB, hC, hT, hR⟩ := h
  obtain ⟨hV, hW, hK, hRk⟩ := hA.rq (N := N) (by omega)
  have hn := hV.1
  unfold vN at hn
  obtain ⟨p, e, p0, p1⟩ := I_ex (v 1)
  by_cases hp : 0 ≤ p ∧ p < fN (G 0)
  · have hL := (hA.1.2.2.1.2.2 p hp.1 hp.2).1
    obtain ⟨μ1, μ2, c1, c2, c3⟩ := c_wrt (N := N) hN hV hK hA.1.2.2.1 hA.2.2.2.2.1 hp.1 hp.2
    obtain ⟨ν1, ν2, d1, d2, d3, d4⟩ := r_wrt (N := N) hN hV hW hRk hA.1.2.2.1 hA.2.2.2.2.2.2.2.1 hp.1 hp.2
    have hw := wL5_in (x := x_du (G 0) p) (si := s_si (G 0) p) (ng := b2 (p_ng (G 0) p)) (show 0 ≤ Lf p by omega) hL.2
    generalize wL5 (Lf p) (x_du (G 0) p) (s_si (G 0) p) (b2 (p_ng (G 0) p)) = w at *
    generalize wW5 (Af p) (Lf p) (x_du (G 0) p) (s_si (G 0) p) (b2 (p_ng (G 0) p)) = W at *
    refine ⟨(stL μ2 90 0 (I_ w).toInt64, ν2), ?_, ?_⟩
    · have t0 : ν2.1 0 0 = I_ 0 := by rw [(d4.1 0 0 (by unfold P_wr; omega)).1, st_I, if_neg (by decide)]; exact q_0 d2
      generalize hJ : I_ w = y at *
      simp (disch := omega) only [lawC37, fL_write, fX11_thrown, Int.reduceEq, Int.reduceNe, Int.reduceLT, Int.reduceLE, Int.reduceAdd, Int.reduceSub, Int.reduceMul, Int.reduceNeg, Int.zero_add, Int.add_zero, nm_eq, bd_some, bv_some, aI_ok, aL_ok, aS_ok, dv_ok, dw_ok, I_add, I_sub, I_mul, I_neg, I_lt, I_le, I_eq, I_nat, J_add, J_sub, J_mul, J_neg, J_lt, J_le, J_eq, I_l, J_i, I_div, J_div, b2_0, b2_1, b2_nar, nar_0, nar_1, zr_0, zr_1, zr_b2, cmp_eq, cmp_le, cmp_lt, cmp_gt, cmp_ge, mx_I, mn_I, mx_L, mn_L, az_I, if_true, if_false, not_true_eq_false, not_false_eq_true, Bool.false_eq_true, i_0, i_1, i_2, i_3, i_4, i_5, i_6, i_7, i_8, i_9, i_10, i_11, i_12, i_16, i_18, i_20, i_24, i_28, i_29, i_30, i_31, i_32, i_33, i_34, i_35, i_37, i_40, i_41, i_42, i_43, i_45, i_46, i_47, i_48, i_57, i_59, i_63, i_64, i_96, i_97, i_98, i_99, i_100, i_101, i_102, i_103, i_104, i_105, i_106, i_107, i_108, i_109, i_110, i_111, i_112, i_113, i_122, i_200, i_255, i_256, i_257, i_258, i_355, i_400, i_999, i_1000, i_1200, i_5680, i_9999, i_10000, i_99999, j_0, j_1, j_2, j_3, j_4, j_5, j_6, j_9, j_10, j_11, j_98, j_99, j_100, j_999, j_1000, j_9999, j_10000, j_99999, j_1000000, e, c1, bh_l, d1, t0, n_0, at_SL, cmp_self]
    · obtain ⟨h1, h2, h3, h4, h5, h6, h7, h8, h9⟩ := hA
      have hb32 : 32 ≤ b ∧ b + 28 ≤ 89 := by rcases h4 with e | e <;> omega
      have t1 : Fr (fun k j => P_du k j ∨ k = 6 ∨ k = 31 ∨ k = 90) μ (stI μ1 6 1 (I_ 0)) := Fr.stI (Fr.mono c2 (fun k j h => Or.inl h)) (Or.inr (Or.inl rfl))
      have t2 : Fr (fun k j => P_du k j ∨ k = 6 ∨ k = 31 ∨ k = 90) (stI μ1 6 1 (I_ 0)) μ2 := Fr.mono c3.1 (fun k j h => by
        rcases h with h | h
        · exact Or.inr (Or.inl h.1)
        · exact Or.inr (Or.inr (Or.inl h)))
      have fc : Fr (fun k j => P_du k j ∨ k = 6 ∨ k = 31 ∨ k = 90) μ (stL μ2 90 0 (I_ w).toInt64) := Fr.stL (t1.tr t2) (Or.inr (Or.inr (Or.inr rfl)))
      have u1 : Fr (fun k j => P_rq k j ∨ (k = 0 ∧ (j = 0 ∨ j = 47)) ∨ k = 29) ν (stI ν 0 0 (I_ 0)) := Fr.stI Fr.rf (Or.inr (Or.inl ⟨rfl, Or.inl rfl⟩))
      have u2 : Fr (fun k j => P_rq k j ∨ (k = 0 ∧ (j = 0 ∨ j = 47)) ∨ k = 29) (stI ν 0 0 (I_ 0)) ν1 := Fr.mono d2 (fun k j h => Or.inl h)
      have u3 : Fr (fun k j => P_rq k j ∨ (k = 0 ∧ (j = 0 ∨ j = 47)) ∨ k = 29) ν (stI ν1 0 47 (I_ 0)) := Fr.stI (u1.tr u2) (Or.inr (Or.inl ⟨rfl, Or.inr rfl⟩))
      have u4 : Fr (fun k j => P_rq k j ∨ (k = 0 ∧ (j = 0 ∨ j = 47)) ∨ k = 29) (stI ν1 0 47 (I_ 0)) ν2 := Fr.mono d4.1 (fun k j h => by
        rcases h with h | h
        · exact Or.inr (Or.inl ⟨h.1, Or.inr h.2⟩)
        · exact Or.inr (Or.inr h))
      have fr : Fr (fun k j => P_rq k j ∨ (k = 0 ∧ (j = 0 ∨ j = 47)) ∨ k = 29) ν ν2 := u3.tr u4
      have gc : ∀ k j, (k ≤ 2 ∨ (7 ≤ k ∧ k ≤ 10) ∨ (32 ≤ k ∧ k ≠ 90)) → (stL μ2 90 0 (I_ w).toInt64).1 k j = μ.1 k j := fun k j hk => (fc k j (by unfold P_du; omega)).1
      have gr : ∀ k j, (k = 0 ∧ (j = 4 ∨ j = 5 ∨ j = 6 ∨ j = 14 ∨ j = 17)) ∨ (1 ≤ k ∧ k ≤ 17) → ν2.1 k j = ν.1 k j := fun k j hk => (fr k j (by unfold P_rq; omega)).1
      refine ⟨b, Lm, Am, Lf, Af, K, fo, q, G, a, nx, ⟨h1, h2, h3, h4, h5.fr (fun k j c d => gc k j (by omega)), fun y y0 y1 => ?_, ?_, h8.fr h1.1 (fun k j hk => gr k j (by omega)), ?_⟩, ⟨hB.1.fr (fun k j hk => gc k j (by omega)), hB.2.1.fr (fun k j hk => gr k j (by omega)), hB.2.2⟩, hC.fr (fc 0 7 (by unfold P_du; omega)).2.2, hT.fr (fun k j hk => gc k j (by omega)) (fun k j hk => gr k j (by omega)), ⟨w, W, c3.2.1, d4.2.1, hw, fun j j0 j1 => ⟨c3.2.2 j j0 j1, d4.2.2 j j0 j1⟩⟩⟩
      · rw [gc _ _ (by omega), gc _ _ (by omega)]; exact h6 y y0 y1
      · rw [(fc 0 6 (by unfold P_du; omega)).2.2]; exact h7
      · exact d3.fr (fun k j hk => by rw [(d4.1 k j (by unfold P_wr; omega)).1, st_I, if_neg (by omega)])
  · refine ⟨(μ, stI ν 0 0 (I_ 1)), ?_, hA.refuse (N := N) (z := (μ, μ)) (by omega) hB hC hT hR (I_ 1)⟩
    simp (disch := omega) only [lawC37, fL_write, fX10_write, fX11_write, fX11_write_14, fX11_thrown, Int.reduceEq, Int.reduceNe, Int.reduceLT, Int.reduceLE, Int.reduceAdd, Int.reduceSub, Int.reduceMul, Int.reduceNeg, Int.zero_add, Int.add_zero, nm_eq, bd_some, bv_some, aI_ok, aL_ok, aS_ok, dv_ok, dw_ok, I_add, I_sub, I_mul, I_neg, I_lt, I_le, I_eq, I_nat, J_add, J_sub, J_mul, J_neg, J_lt, J_le, J_eq, I_l, J_i, I_div, J_div, b2_0, b2_1, b2_nar, nar_0, nar_1, zr_0, zr_1, zr_b2, cmp_eq, cmp_le, cmp_lt, cmp_gt, cmp_ge, mx_I, mn_I, mx_L, mn_L, az_I, if_true, if_false, not_true_eq_false, not_false_eq_true, Bool.false_eq_true, i_0, i_1, i_2, i_3, i_4, i_5, i_6, i_7, i_8, i_9, i_10, i_11, i_12, i_16, i_18, i_20, i_24, i_28, i_29, i_30, i_31, i_32, i_33, i_34, i_35, i_37, i_40, i_41, i_42, i_43, i_45, i_46, i_47, i_48, i_57, i_59, i_63, i_64, i_96, i_97, i_98, i_99, i_100, i_101, i_102, i_103, i_104, i_105, i_106, i_107, i_108, i_109, i_110, i_111, i_112, i_113, i_122, i_200, i_255, i_256, i_257, i_258, i_355, i_400, i_999, i_1000, i_1200, i_5680, i_9999, i_10000, i_99999, j_0, j_1, j_2, j_3, j_4, j_5, j_6, j_9, j_10, j_11, j_98, j_99, j_100, j_999, j_1000, j_9999, j_10000, j_99999, j_1000000, e, c_needF_n hV hK p0 p1 hp, bx_r, bh_r, r_isFirm hV hRk.1, b2_f hp, at_S]
end
