/-! The lines firm, model. -/
section
variable {T : Int → Int} {n : Int} {N b : Nat} {μ μ' ν ν' : Mem} {s f : Int} {V : Vw} {Lm Lf : Int → Int} {Am Af : Int → Int → Int} {K : Int → List Int} {fo : Int → Int} {q : Int}
theorem nm_sp {t : Nat} (h0 : b ≤ t) (h1 : t + 2 ≤ b + 28) {k j : Nat} (h : P_1n t k j) : P_sp b k j := by
  unfold P_1n P_1 P_nm at h
  unfold P_sp
  omega
theorem l_firm_y (hT : tB T n) (hN : 500 ≤ N) (hb : kB b) (hC : CR T n b s (-1) μ) (hX : RX T n s (-1) ν) (hs : sk T n s = s) {k : Nat} (hk : k < 35) (hw : isW T n s k = true) (hP : PPu V Lm Am Lf Af K) (hc : PC b V Lm Am Lf Af K fo q μ) (hd : PD V Lm Am Lf Af K ν) (q0 : 0 ≤ q) (q1 : q ≤ s) (h4 : fN V < 4) : LT T n b s μ ν (fX5_firmLine N μ) (fX11_firmLine N (stI ν 0 16 (I_ (s + lw_ k)))) := by
  obtain ⟨w2, hR, k6, sn⟩ := r_kw hT hX hs hk hw
  have ci := hC.in_
  have hnx := nx_in (T := T) (n := n) (s := s) (by omega)
  have hP' := hP
  obtain ⟨hV, hNm, hNf, hKG⟩ := hP'
  have hn := hV.1
  unfold vN at hn
  have hgB : ∀ {β : Type} (k : Nat → Option β), gB b k = k b := fun k => if_pos hb
  obtain ⟨μ1, e1, e2, e3⟩ := c_step hT hN hC
  have hc1 := hc.p1 hb e3
  have hd1 := hd.at_ hV (P_a16 (v := I_ (s + lw_ k)) Fr.rf)
  obtain ⟨μ2, ν2, s2, f2, x2, a1, a2, a3, a4, a5, a6, a7, a8, a9⟩ := B_new (N := N) (g := 1) (qc := 19) (t := b + 4) hT hN hb (Or.inr ⟨rfl, rfl, h4, rfl⟩) hNf hc1.2.2.2.1 (by rw [if_neg (by decide)]; exact hd1.2.2.2.1) e2 hR
  have i2 := a3.in_
  have hd2 := hd1.at_ hV a6
  have m0 : Fr (P_sp b) μ μ2 := (e3.mono (fun k j q => p1_sp q)).tr (a5.mono (fun k j q => nm_sp (by omega) (by omega) q))
  have m1 : Fr P_rd ν ν2 := ((P_a16 Fr.rf).tr a6).mono (fun k j q => at_rd q)
  have hrunC : fX5_firmLine N μ = some ((), μ2) := by
    simp (disch := omega) only [fX5_firmLine, Int.reduceEq, Int.reduceNe, Int.reduceLT, Int.reduceLE, Int.reduceAdd, Int.reduceSub, Int.reduceMul, Int.reduceNeg, Int.zero_add, Int.add_zero, nm_eq, bd_some, bv_some, aI_ok, aL_ok, aS_ok, dv_ok, dw_ok, I_add, I_sub, I_mul, I_neg, I_lt, I_le, I_eq, I_nat, J_add, J_sub, J_mul, J_neg, J_lt, J_le, J_eq, I_l, J_i, I_div, J_div, b2_0, b2_1, b2_nar, nar_0, nar_1, zr_0, zr_1, zr_b2, cmp_eq, cmp_le, cmp_lt, cmp_gt, cmp_ge, mx_I, mn_I, mx_L, mn_L, az_I, if_true, if_false, not_true_eq_false, not_false_eq_true, Bool.false_eq_true, i_0, i_1, i_2, i_3, i_4, i_5, i_6, i_7, i_8, i_9, i_10, i_11, i_12, i_16, i_18, i_20, i_24, i_28, i_29, i_30, i_31, i_32, i_33, i_34, i_35, i_37, i_40, i_41, i_42, i_43, i_45, i_46, i_47, i_48, i_57, i_59, i_63, i_64, i_96, i_97, i_98, i_99, i_100, i_101, i_102, i_103, i_104, i_105, i_106, i_107, i_108, i_109, i_110, i_111, i_112, i_113, i_122, i_200, i_255, i_256, i_257, i_258, i_355, i_400, i_999, i_1000, i_1200, i_5680, i_9999, i_10000, i_99999, j_0, j_1, j_2, j_3, j_4, j_5, j_6, j_9, j_10, j_11, j_98, j_99, j_100, j_999, j_1000, j_9999, j_10000, j_99999, j_1000000, hC.2.2.2.2.2.1, hgB, hc.2.2.2.1.1, h4, e1, e2.2.2.2.2.2.1, a1]
  by_cases hf : f2 = -1
  · obtain ⟨u1, u2, u3, u4⟩ := a9 hf
    have gr : Fr (fun k j => k = 12 ∨ (k = 0 ∧ j = 19)) ν2 (stI (stI ν2 12 (fN V).toNat (I_ x2)) 0 19 (I_ (fN V + 1))) := (Fr.rf.stI (Or.inl rfl)).stI (Or.inr ⟨rfl, rfl⟩)
    have hNR := NR_new (T := T) (n := n) (s := nx T n s) (r := 12) (qc := 19) (by decide) hd2.2.2.2.1 hNf.1 (by decide)
    rw [← u2] at hNR
    have hNV := NV_new hNf (by omega) (by omega) u3
    refine ⟨μ2, _, s2, f2, hrunC, a3, m0, ?_, a4.F gr (fun k j q => by omega), m1.tr (gr.mono (fun k j q => by unfold P_rd; omega)), fun _ => ⟨by omega, vFi V, Lm, Am, naL (fN V) Lf (we T n (nx T n s) - nx T n s), naA (fN V) Af (fun j => T (nx T n s + j)), K, fo, q, ⟨vB_fi hV h4, ?_, ?_, hKG⟩, ⟨?_, ?_, ?_, ?_, ?_⟩, ⟨?_, ?_, ?_, ?_, ?_⟩, q0, by omega⟩⟩
    · simp (disch := omega) only [fX11_firmLine, Int.reduceEq, Int.reduceNe, Int.reduceLT, Int.reduceLE, Int.reduceAdd, Int.reduceSub, Int.reduceMul, Int.reduceNeg, Int.zero_add, Int.add_zero, nm_eq, bd_some, bv_some, aI_ok, aL_ok, aS_ok, dv_ok, dw_ok, I_add, I_sub, I_mul, I_neg, I_lt, I_le, I_eq, I_nat, J_add, J_sub, J_mul, J_neg, J_lt, J_le, J_eq, I_l, J_i, I_div, J_div, b2_0, b2_1, b2_nar, nar_0, nar_1, zr_0, zr_1, zr_b2, cmp_eq, cmp_le, cmp_lt, cmp_gt, cmp_ge, mx_I, mn_I, mx_L, mn_L, az_I, if_true, if_false, not_true_eq_false, not_false_eq_true, Bool.false_eq_true, i_0, i_1, i_2, i_3, i_4, i_5, i_6, i_7, i_8, i_9, i_10, i_11, i_12, i_16, i_18, i_20, i_24, i_28, i_29, i_30, i_31, i_32, i_33, i_34, i_35, i_37, i_40, i_41, i_42, i_43, i_45, i_46, i_47, i_48, i_57, i_59, i_63, i_64, i_96, i_97, i_98, i_99, i_100, i_101, i_102, i_103, i_104, i_105, i_106, i_107, i_108, i_109, i_110, i_111, i_112, i_113, i_122, i_200, i_255, i_256, i_257, i_258, i_355, i_400, i_999, i_1000, i_1200, i_5680, i_9999, i_10000, i_99999, j_0, j_1, j_2, j_3, j_4, j_5, j_6, j_9, j_10, j_11, j_98, j_99, j_100, j_999, j_1000, j_9999, j_10000, j_99999, j_1000000, a2, a4.wq, hf, hd2.2.2.2.1.1, st_ne]
    · rw [vFi_m]; exact hNm
    · rw [vFi_f]; exact hNV
    · rw [vFi_s, vFi_m]
      exact (hc1.1.fr (μ' := μ2) (fun k j a c => (a5 k j (by unfold P_1n P_1 P_nm; rcases hb with e | e <;> omega)).1)).cong (fun k z a _ _ => vFi_k (by unfold okk at a; omega))
    · rw [vFi_s, (a5 (b + 12) 10 (by unfold P_1n P_1 P_nm; rcases hb with e | e <;> omega)).1]; exact hc1.2.1
    · rw [vFi_m]; exact hc1.2.2.1.F a5 (fun k j q => by unfold P_1n P_1 P_nm at q; rcases hb with e | e <;> omega)
    · rw [vFi_f]; exact u4
    · exact hc1.2.2.2.2.fr (fun k j a c => (a5 k j (by unfold P_1n P_1 P_nm; rcases hb with e | e <;> omega)).1)
    · rw [vFi_s, vFi_m]
      exact (hd2.1.fr (by omega) (fun j _ _ => (gr 2 j (by omega)).1) (fun j => (gr 13 j (by omega)).1)).cong (fun k z a _ _ => vFi_k (by unfold okk at a; omega))
    · rw [vFi_s, (gr 2 34 (by omega)).1]; exact hd2.2.1
    · rw [vFi_m]; exact hd2.2.2.1.F gr (fun k j q => by omega)
    · rw [vFi_f]; exact hNR
    · exact hd2.2.2.2.2.fr (fun k j a c => (gr k j (by omega)).1)
  · refine ⟨μ2, ν2, s2, f2, hrunC, a3, m0, ?_, a4, m1, fun q => absurd q hf⟩
    simp (disch := omega) only [fX11_firmLine, Int.reduceEq, Int.reduceNe, Int.reduceLT, Int.reduceLE, Int.reduceAdd, Int.reduceSub, Int.reduceMul, Int.reduceNeg, Int.zero_add, Int.add_zero, nm_eq, bd_some, bv_some, aI_ok, aL_ok, aS_ok, dv_ok, dw_ok, I_add, I_sub, I_mul, I_neg, I_lt, I_le, I_eq, I_nat, J_add, J_sub, J_mul, J_neg, J_lt, J_le, J_eq, I_l, J_i, I_div, J_div, b2_0, b2_1, b2_nar, nar_0, nar_1, zr_0, zr_1, zr_b2, cmp_eq, cmp_le, cmp_lt, cmp_gt, cmp_ge, mx_I, mn_I, mx_L, mn_L, az_I, if_true, if_false, not_true_eq_false, not_false_eq_true, Bool.false_eq_true, i_0, i_1, i_2, i_3, i_4, i_5, i_6, i_7, i_8, i_9, i_10, i_11, i_12, i_16, i_18, i_20, i_24, i_28, i_29, i_30, i_31, i_32, i_33, i_34, i_35, i_37, i_40, i_41, i_42, i_43, i_45, i_46, i_47, i_48, i_57, i_59, i_63, i_64, i_96, i_97, i_98, i_99, i_100, i_101, i_102, i_103, i_104, i_105, i_106, i_107, i_108, i_109, i_110, i_111, i_112, i_113, i_122, i_200, i_255, i_256, i_257, i_258, i_355, i_400, i_999, i_1000, i_1200, i_5680, i_9999, i_10000, i_99999, j_0, j_1, j_2, j_3, j_4, j_5, j_6, j_9, j_10, j_11, j_98, j_99, j_100, j_999, j_1000, j_9999, j_10000, j_99999, j_1000000, a2, a4.wq, hf]
theorem l_model_y (hT : tB T n) (hN : 500 ≤ N) (hb : kB b) (hC : CR T n b s (-1) μ) (hX : RX T n s (-1) ν) (hs : sk T n s = s) {k : Nat} (hk : k < 35) (hw : isW T n s k = true) (hP : PPu V Lm Am Lf Af K) (hc : PC b V Lm Am Lf Af K fo q μ) (hd : PD V Lm Am Lf Af K ν) (q0 : 0 ≤ q) (q1 : q ≤ s) (h6 : mN V < 6) : LT T n b s μ ν (fX5_modelLine N μ) (fX11_modelLine N (stI ν 0 16 (I_ (s + lw_ k)))) := by
  obtain ⟨w2, hR, k6, sn⟩ := r_kw hT hX hs hk hw
  have ci := hC.in_
  have hnx := nx_in (T := T) (n := n) (s := s) (by omega)
  have hP' := hP
  obtain ⟨hV, hNm, hNf, hKG⟩ := hP'
  have hn := hV.1
  unfold vN at hn
  have hgB : ∀ {β : Type} (k : Nat → Option β), gB b k = k b := fun k => if_pos hb
  obtain ⟨μ1, e1, e2, e3⟩ := c_step hT hN hC
  have hc1 := hc.p1 hb e3
  have hd1 := hd.at_ hV (P_a16 (v := I_ (s + lw_ k)) Fr.rf)
  obtain ⟨μ2, ν2, s2, f2, x2, a1, a2, a3, a4, a5, a6, a7, a8, a9⟩ := B_new (N := N) (g := 0) (qc := 18) (t := b + 1) hT hN hb (Or.inl ⟨rfl, rfl, h6, rfl⟩) hNm hc1.2.2.1 (by rw [if_pos rfl]; exact hd1.2.2.1) e2 hR
  have hd2 := hd1.at_ hV a6
  obtain ⟨μ3, ν3, s3, f3, v3, x3, b1, b2', b3, b4, b5, b6, b7, b8, b9, b10⟩ := B_num (N := N) (lo := 1) (hi := 9999) hT hN (by omega) (by omega) (by omega) a3 a4
  have gw3 : Fr (fun k j => k = b + 23 ∧ j = (mN V).toNat) μ3 (stI μ3 (b + 23) (mN V).toNat (I_ v3)) := Fr.rf.stI ⟨rfl, rfl⟩
  have b3w := b3.bk hb gw3 (fun k j q => by omega)
  have hd3 := hd2.at_ hV b6
  obtain ⟨μ4, ν4, s4, f4, v4, x4, c1, c2, c3, c4, c5, c6, c7, c8, c9, c10⟩ := B_num (N := N) (lo := 0) (hi := 99) hT hN (by omega) (by omega) (by omega) b3w b4
  have gw4 : Fr (fun k j => k = b + 24 ∧ j = (mN V).toNat) μ4 (stI μ4 (b + 24) (mN V).toNat (I_ v4)) := Fr.rf.stI ⟨rfl, rfl⟩
  have c3w := c3.bk hb gw4 (fun k j q => by omega)
  have hd4 := hd3.at_ hV c6
  obtain ⟨μ5, ν5, s5, f5, v5, x5, d1, d2, d3, d4, d5, d6, d7, d8, d9, d10⟩ := B_num (N := N) (lo := 0) (hi := 9999) hT hN (by omega) (by omega) (by omega) c3w c4
  have gw5 : Fr (fun k j => k = b + 25 ∧ j = (mN V).toNat) μ5 (stI μ5 (b + 25) (mN V).toNat (I_ v5)) := Fr.rf.stI ⟨rfl, rfl⟩
  have d3w := d3.bk hb gw5 (fun k j q => by omega)
  have hd5 := hd4.at_ hV d6
  have i5 := d3.in_
  have gAll : Fr (fun k j => k = 1 ∨ (b + 1 ≤ k ∧ k ≤ b + 3) ∨ ((b + 23 ≤ k ∧ k ≤ b + 25) ∧ j = (mN V).toNat)) μ1 (stI μ5 (b + 25) (mN V).toNat (I_ v5)) := by
    have m1 : ∀ k j, P_1 k j → (k = 1 ∨ (b + 1 ≤ k ∧ k ≤ b + 3) ∨ ((b + 23 ≤ k ∧ k ≤ b + 25) ∧ j = (mN V).toNat)) := fun k j q => Or.inl q
    exact ((a5.mono (fun k j q => by unfold P_1n P_1 P_nm at q; omega)).tr ((b5.mono m1).tr (gw3.mono (fun k j q => by omega)))).tr (((c5.mono m1).tr (gw4.mono (fun k j q => by omega))).tr ((d5.mono m1).tr (gw5.mono (fun k j q => by omega))))
  have m0 : Fr (P_sp b) μ (stI μ5 (b + 25) (mN V).toNat (I_ v5)) := (e3.mono (fun k j q => p1_sp q)).tr (gAll.mono (fun k j q => by unfold P_sp; omega))
  have m1 : Fr P_rd ν ν5 := ((((P_a16 Fr.rf).tr a6).tr b6).tr (c6.tr d6)).mono (fun k j q => at_rd q)
  have hrunC : fX5_modelLine N μ = some ((), stI μ5 (b + 25) (mN V).toNat (I_ v5)) := by
    simp (disch := omega) only [fX5_modelLine, Int.reduceEq, Int.reduceNe, Int.reduceLT, Int.reduceLE, Int.reduceAdd, Int.reduceSub, Int.reduceMul, Int.reduceNeg, Int.zero_add, Int.add_zero, nm_eq, bd_some, bv_some, aI_ok, aL_ok, aS_ok, dv_ok, dw_ok, I_add, I_sub, I_mul, I_neg, I_lt, I_le, I_eq, I_nat, J_add, J_sub, J_mul, J_neg, J_lt, J_le, J_eq, I_l, J_i, I_div, J_div, b2_0, b2_1, b2_nar, nar_0, nar_1, zr_0, zr_1, zr_b2, cmp_eq, cmp_le, cmp_lt, cmp_gt, cmp_ge, mx_I, mn_I, mx_L, mn_L, az_I, if_true, if_false, not_true_eq_false, not_false_eq_true, Bool.false_eq_true, i_0, i_1, i_2, i_3, i_4, i_5, i_6, i_7, i_8, i_9, i_10, i_11, i_12, i_16, i_18, i_20, i_24, i_28, i_29, i_30, i_31, i_32, i_33, i_34, i_35, i_37, i_40, i_41, i_42, i_43, i_45, i_46, i_47, i_48, i_57, i_59, i_63, i_64, i_96, i_97, i_98, i_99, i_100, i_101, i_102, i_103, i_104, i_105, i_106, i_107, i_108, i_109, i_110, i_111, i_112, i_113, i_122, i_200, i_255, i_256, i_257, i_258, i_355, i_400, i_999, i_1000, i_1200, i_5680, i_9999, i_10000, i_99999, j_0, j_1, j_2, j_3, j_4, j_5, j_6, j_9, j_10, j_11, j_98, j_99, j_100, j_999, j_1000, j_9999, j_10000, j_99999, j_1000000, hC.2.2.2.2.2.1, hgB, hc.2.2.1.1, h6, e1, e2.2.2.2.2.2.1, a1, a3.2.2.2.2.2.1, b1, b3w.2.2.2.2.2.1, c1, c3w.2.2.2.2.2.1, d1]
  by_cases hf : f5 = -1
  · obtain ⟨u1, u2, u3⟩ := d10 hf
    obtain ⟨u4, u5, u6⟩ := c10 u1
    obtain ⟨u7, u8, u9⟩ := b10 u4
    obtain ⟨u10, u11, u12, u13⟩ := a9 u7
    have hNV := NV_new hNm h6 (by omega) u12
    have hNR := NR_new (T := T) (n := n) (s := nx T n s) (r := 11) (qc := 18) (by decide) hd5.2.2.1 hNm.1 (by decide)
    rw [← u11] at hNR
    have gr : Fr (fun k j => k = 11 ∨ (k = 13 ∧ (3 * mN V).toNat ≤ j) ∨ (k = 0 ∧ j = 18)) ν5 (stI (stI (stI (stI (stI ν5 11 (mN V).toNat (I_ x2)) 13 (3 * mN V).toNat (I_ x3)) 13 (3 * mN V + 1).toNat (I_ x4)) 13 (3 * mN V + 2).toNat (I_ x5)) 0 18 (I_ (mN V + 1))) := ((((Fr.rf.stI (Or.inl rfl)).stI (Or.inr (Or.inl ⟨rfl, by omega⟩))).stI (Or.inr (Or.inl ⟨rfl, by omega⟩))).stI (Or.inr (Or.inl ⟨rfl, by omega⟩))).stI (Or.inr (Or.inr ⟨rfl, rfl⟩))
    have g23 : (stI μ5 (b + 25) (mN V).toNat (I_ v5)).1 (b + 23) (mN V).toNat = I_ v3 := by
      rw [st_ne (by omega), (d5 _ _ (by unfold P_1; rcases hb with e | e <;> omega)).1, st_ne (by omega), (c5 _ _ (by unfold P_1; rcases hb with e | e <;> omega)).1, at_S]
    have g24 : (stI μ5 (b + 25) (mN V).toNat (I_ v5)).1 (b + 24) (mN V).toNat = I_ v4 := by
      rw [st_ne (by omega), (d5 _ _ (by unfold P_1; rcases hb with e | e <;> omega)).1, at_S]
    have g25 : (stI μ5 (b + 25) (mN V).toNat (I_ v5)).1 (b + 25) (mN V).toNat = I_ v5 := at_S
    have hr : ∀ k : Int, 11 ≤ k → k ≤ 13 → k = 11 ∨ k = 12 ∨ k = 13 := fun k a c => by omega
    have hNC5 : NC (b + 1) (mN V + 1) (naL (mN V) Lm (we T n (nx T n s) - nx T n s)) (naA (mN V) Am (fun j => T (nx T n s + j))) (stI μ5 (b + 25) (mN V).toNat (I_ v5)) := by
      have m1 : ∀ k j, P_1 k j → (k = 1 ∨ (b + 23 ≤ k ∧ k ≤ b + 25)) := fun k j q => Or.inl q
      have g : Fr (fun k j => k = 1 ∨ (b + 23 ≤ k ∧ k ≤ b + 25)) μ2 (stI μ5 (b + 25) (mN V).toNat (I_ v5)) := ((b5.mono m1).tr (gw3.mono (fun k j q => by omega))).tr (((c5.mono m1).tr (gw4.mono (fun k j q => by omega))).tr ((d5.mono m1).tr (gw5.mono (fun k j q => by omega))))
      exact u13.F g (fun k j q => by rcases hb with e | e <;> omega)
    refine ⟨_, _, s5, f5, hrunC, d3w, m0, ?_, d4.F gr (fun k j q => by omega), m1.tr (gr.mono (fun k j q => by unfold P_rd; omega)), fun _ => ⟨by omega, vMo V (fun k => if k = 11 then v3 else if k = 12 then v4 else v5), naL (mN V) Lm (we T n (nx T n s) - nx T n s), naA (mN V) Am (fun j => T (nx T n s + j)), Lf, Af, K, fo, q, ⟨vB_mo hV h6 (by show 1 ≤ v3 ∧ v3 ≤ 9999; omega) (by show 0 ≤ v4 ∧ v4 ≤ 99; omega) (by show 0 ≤ v5 ∧ v5 ≤ 9999; omega), ?_, ?_, hKG⟩, ⟨?_, ?_, ?_, ?_, ?_⟩, ⟨?_, ?_, ?_, ?_, ?_⟩, q0, by omega⟩⟩
    · simp (disch := omega) only [fX11_modelLine, Int.reduceEq, Int.reduceNe, Int.reduceLT, Int.reduceLE, Int.reduceAdd, Int.reduceSub, Int.reduceMul, Int.reduceNeg, Int.zero_add, Int.add_zero, nm_eq, bd_some, bv_some, aI_ok, aL_ok, aS_ok, dv_ok, dw_ok, I_add, I_sub, I_mul, I_neg, I_lt, I_le, I_eq, I_nat, J_add, J_sub, J_mul, J_neg, J_lt, J_le, J_eq, I_l, J_i, I_div, J_div, b2_0, b2_1, b2_nar, nar_0, nar_1, zr_0, zr_1, zr_b2, cmp_eq, cmp_le, cmp_lt, cmp_gt, cmp_ge, mx_I, mn_I, mx_L, mn_L, az_I, if_true, if_false, not_true_eq_false, not_false_eq_true, Bool.false_eq_true, i_0, i_1, i_2, i_3, i_4, i_5, i_6, i_7, i_8, i_9, i_10, i_11, i_12, i_16, i_18, i_20, i_24, i_28, i_29, i_30, i_31, i_32, i_33, i_34, i_35, i_37, i_40, i_41, i_42, i_43, i_45, i_46, i_47, i_48, i_57, i_59, i_63, i_64, i_96, i_97, i_98, i_99, i_100, i_101, i_102, i_103, i_104, i_105, i_106, i_107, i_108, i_109, i_110, i_111, i_112, i_113, i_122, i_200, i_255, i_256, i_257, i_258, i_355, i_400, i_999, i_1000, i_1200, i_5680, i_9999, i_10000, i_99999, j_0, j_1, j_2, j_3, j_4, j_5, j_6, j_9, j_10, j_11, j_98, j_99, j_100, j_999, j_1000, j_9999, j_10000, j_99999, j_1000000, a2, b2', c2, d2, d4.wq, hf, hd5.2.2.1.1, st_ne]
    · rw [vMo_m]; exact hNV
    · rw [vMo_f]; exact hNf
    · rw [vMo_s, vMo_m]
      refine (hc1.1.mod hNm.1 (r := fun k => if k = 11 then v3 else if k = 12 then v4 else v5) (fun k a c => ?_) (fun k j a c d => (gAll k j (by rcases hb with e | e <;> omega)).1)).cong (fun k z a _ _ => by unfold vMo; exact vset_ne (by unfold okk at a; omega))
      rcases hr k a c with e | e | e <;> subst e
      · exact g23
      · exact g24
      · exact g25
    · rw [vMo_s, (gAll (b + 12) 10 (by rcases hb with e | e <;> omega)).1]; exact hc1.2.1
    · rw [vMo_m]; exact hNC5
    · rw [vMo_f]; exact hc1.2.2.2.1.F gAll (fun k j q => by rcases hb with e | e <;> omega)
    · exact hc1.2.2.2.2.fr (fun k j a c => (gAll k j (by rcases hb with e | e <;> omega)).1)
    · rw [vMo_s, vMo_m]
      have hw5 := hd5.1.fr (g' := (stI (stI (stI (stI (stI ν5 11 (mN V).toNat (I_ x2)) 13 (3 * mN V).toNat (I_ x3)) 13 (3 * mN V + 1).toNat (I_ x4)) 13 (3 * mN V + 2).toNat (I_ x5)) 0 18 (I_ (mN V + 1))).1 2) (by omega) (fun j _ _ => (gr 2 j (by omega)).1) (fun _ => rfl)
      refine (hw5.mod hNm.1 (r := fun k => if k = 11 then v3 else if k = 12 then v4 else v5) (fun k a c => ?_) (fun j hj => ?_)).cong (fun k z a _ _ => by unfold vMo; exact vset_ne (by unfold okk at a; omega))
      · rcases hr k a c with e | e | e <;> subst e
        · rw [dI_m (by omega) (by omega), st_ne (by omega), st_I, if_neg (by omega), st_I, if_neg (by omega), st_I, if_pos ⟨rfl, by omega⟩]
          show I_ x3 = I_ v3
          rw [u8]
        · rw [dI_m (by omega) (by omega), st_ne (by omega), st_I, if_neg (by omega), st_I, if_pos ⟨rfl, by omega⟩]
          show I_ x4 = I_ v4
          rw [u5]
        · rw [dI_m (by omega) (by omega), st_ne (by omega), st_I, if_pos ⟨rfl, by omega⟩]
          show I_ x5 = I_ v5
          rw [u2]
      · exact (gr 13 j (by omega)).1
    · rw [vMo_s, (gr 2 34 (by omega)).1]; exact hd5.2.1
    · rw [vMo_m]
      refine ⟨at_S, fun i i0 i1 => ?_⟩
      have := hNR.2 i i0 i1
      rw [st_ne (by omega)] at this
      rw [st_ne (by omega), st_ne (by omega), st_ne (by omega), st_ne (by omega)]
      exact this
    · rw [vMo_f]; exact hd5.2.2.2.1.F gr (fun k j q => by omega)
    · exact hd5.2.2.2.2.fr (fun k j a c => (gr k j (by omega)).1)
  · refine ⟨_, ν5, s5, f5, hrunC, d3w, m0, ?_, d4, m1, fun q => absurd q hf⟩
    simp (disch := omega) only [fX11_modelLine, Int.reduceEq, Int.reduceNe, Int.reduceLT, Int.reduceLE, Int.reduceAdd, Int.reduceSub, Int.reduceMul, Int.reduceNeg, Int.zero_add, Int.add_zero, nm_eq, bd_some, bv_some, aI_ok, aL_ok, aS_ok, dv_ok, dw_ok, I_add, I_sub, I_mul, I_neg, I_lt, I_le, I_eq, I_nat, J_add, J_sub, J_mul, J_neg, J_lt, J_le, J_eq, I_l, J_i, I_div, J_div, b2_0, b2_1, b2_nar, nar_0, nar_1, zr_0, zr_1, zr_b2, cmp_eq, cmp_le, cmp_lt, cmp_gt, cmp_ge, mx_I, mn_I, mx_L, mn_L, az_I, if_true, if_false, not_true_eq_false, not_false_eq_true, Bool.false_eq_true, i_0, i_1, i_2, i_3, i_4, i_5, i_6, i_7, i_8, i_9, i_10, i_11, i_12, i_16, i_18, i_20, i_24, i_28, i_29, i_30, i_31, i_32, i_33, i_34, i_35, i_37, i_40, i_41, i_42, i_43, i_45, i_46, i_47, i_48, i_57, i_59, i_63, i_64, i_96, i_97, i_98, i_99, i_100, i_101, i_102, i_103, i_104, i_105, i_106, i_107, i_108, i_109, i_110, i_111, i_112, i_113, i_122, i_200, i_255, i_256, i_257, i_258, i_355, i_400, i_999, i_1000, i_1200, i_5680, i_9999, i_10000, i_99999, j_0, j_1, j_2, j_3, j_4, j_5, j_6, j_9, j_10, j_11, j_98, j_99, j_100, j_999, j_1000, j_9999, j_10000, j_99999, j_1000000, a2, b2', c2, d2, d4.wq, hf]
/-- too many of them -/
theorem l_firm_n (hT : tB T n) (hN : 500 ≤ N) (hb : kB b) (hC : CR T n b s (-1) μ) (hX : RX T n s (-1) ν) (hP : PPu V Lm Am Lf Af K) (hc : PC b V Lm Am Lf Af K fo q μ) (hd : PD V Lm Am Lf Af K ν) (h4 : fN V = 4) : LT T n b s μ ν (fX5_firmLine N μ) (fX11_firmLine N (stI (stI ν 0 17 (I_ s)) 0 16 (I_ s))) := by
  have ci := hC.in_
  have n1 := hT.2.1
  obtain ⟨hV, hNm, hNf, hKG⟩ := hP
  have hgB : ∀ {β : Type} (k : Nat → Option β), gB b k = k b := fun k => if_pos hb
  have hfl := c_fail (N := N) hC n1
  rw [if_pos rfl] at hfl
  obtain ⟨μ1, e1, e2, e3⟩ := hfl
  have hX2 := (hX.wr (i := s) (by omega) (by omega)).at (i := s) (by omega) (by omega)
  have g0 : Fr P_at ν (stI (stI ν 0 17 (I_ s)) 0 16 (I_ s)) := P_a16 (P_a17 Fr.rf)
  have hd1 := hd.at_ hV g0
  have hR : RR T n s s (stI (stI ν 0 17 (I_ s)) 0 16 (I_ s)) := ⟨s, hX2, fun q => by omega⟩
  obtain ⟨ν2, g1, g2, g3⟩ := r_fresh (N := N) (g := 1) (qc := 19) hT hN (Or.inr ⟨rfl, rfl, by omega⟩) hNf hR (by rw [if_neg (by decide)]; exact hd1.2.2.2.1) (by omega) (by omega)
  have sf : ¬ s = -1 := by omega
  rw [oS_f sf, oF_f sf] at g2
  refine ⟨μ1, ν2, s, s, ?_, e2, e3.mono (fun k j q => p1_sp q), ?_, g2, (g0.tr g3).mono (fun k j q => at_rd q), fun q => absurd q sf⟩
  · have h4' : μ.1 (b + 4) 2 = I_ 4 := by rw [← h4]; exact hc.2.2.2.1.1
    simp (disch := omega) only [fX5_firmLine, Int.reduceEq, Int.reduceNe, Int.reduceLT, Int.reduceLE, Int.reduceAdd, Int.reduceSub, Int.reduceMul, Int.reduceNeg, Int.zero_add, Int.add_zero, nm_eq, bd_some, bv_some, aI_ok, aL_ok, aS_ok, dv_ok, dw_ok, I_add, I_sub, I_mul, I_neg, I_lt, I_le, I_eq, I_nat, J_add, J_sub, J_mul, J_neg, J_lt, J_le, J_eq, I_l, J_i, I_div, J_div, b2_0, b2_1, b2_nar, nar_0, nar_1, zr_0, zr_1, zr_b2, cmp_eq, cmp_le, cmp_lt, cmp_gt, cmp_ge, mx_I, mn_I, mx_L, mn_L, az_I, if_true, if_false, not_true_eq_false, not_false_eq_true, Bool.false_eq_true, i_0, i_1, i_2, i_3, i_4, i_5, i_6, i_7, i_8, i_9, i_10, i_11, i_12, i_16, i_18, i_20, i_24, i_28, i_29, i_30, i_31, i_32, i_33, i_34, i_35, i_37, i_40, i_41, i_42, i_43, i_45, i_46, i_47, i_48, i_57, i_59, i_63, i_64, i_96, i_97, i_98, i_99, i_100, i_101, i_102, i_103, i_104, i_105, i_106, i_107, i_108, i_109, i_110, i_111, i_112, i_113, i_122, i_200, i_255, i_256, i_257, i_258, i_355, i_400, i_999, i_1000, i_1200, i_5680, i_9999, i_10000, i_99999, j_0, j_1, j_2, j_3, j_4, j_5, j_6, j_9, j_10, j_11, j_98, j_99, j_100, j_999, j_1000, j_9999, j_10000, j_99999, j_1000000, hC.2.2.2.2.2.1, hgB, h4', e1]
  · simp (disch := omega) only [fX11_firmLine, Int.reduceEq, Int.reduceNe, Int.reduceLT, Int.reduceLE, Int.reduceAdd, Int.reduceSub, Int.reduceMul, Int.reduceNeg, Int.zero_add, Int.add_zero, nm_eq, bd_some, bv_some, aI_ok, aL_ok, aS_ok, dv_ok, dw_ok, I_add, I_sub, I_mul, I_neg, I_lt, I_le, I_eq, I_nat, J_add, J_sub, J_mul, J_neg, J_lt, J_le, J_eq, I_l, J_i, I_div, J_div, b2_0, b2_1, b2_nar, nar_0, nar_1, zr_0, zr_1, zr_b2, cmp_eq, cmp_le, cmp_lt, cmp_gt, cmp_ge, mx_I, mn_I, mx_L, mn_L, az_I, if_true, if_false, not_true_eq_false, not_false_eq_true, Bool.false_eq_true, i_0, i_1, i_2, i_3, i_4, i_5, i_6, i_7, i_8, i_9, i_10, i_11, i_12, i_16, i_18, i_20, i_24, i_28, i_29, i_30, i_31, i_32, i_33, i_34, i_35, i_37, i_40, i_41, i_42, i_43, i_45, i_46, i_47, i_48, i_57, i_59, i_63, i_64, i_96, i_97, i_98, i_99, i_100, i_101, i_102, i_103, i_104, i_105, i_106, i_107, i_108, i_109, i_110, i_111, i_112, i_113, i_122, i_200, i_255, i_256, i_257, i_258, i_355, i_400, i_999, i_1000, i_1200, i_5680, i_9999, i_10000, i_99999, j_0, j_1, j_2, j_3, j_4, j_5, j_6, j_9, j_10, j_11, j_98, j_99, j_100, j_999, j_1000, j_9999, j_10000, j_99999, j_1000000, g1, g2.wq, sf]
theorem l_model_n (hT : tB T n) (hN : 500 ≤ N) (hb : kB b) (hC : CR T n b s (-1) μ) (hX : RX T n s (-1) ν) (hP : PPu V Lm Am Lf Af K) (hc : PC b V Lm Am Lf Af K fo q μ) (hd : PD V Lm Am Lf Af K ν) (h6 : mN V = 6) : LT T n b s μ ν (fX5_modelLine N μ) (fX11_modelLine N (stI (stI ν 0 17 (I_ s)) 0 16 (I_ s))) := by
  have ci := hC.in_
  have n1 := hT.2.1
  obtain ⟨hV, hNm, hNf, hKG⟩ := hP
  have hgB : ∀ {β : Type} (k : Nat → Option β), gB b k = k b := fun k => if_pos hb
  have hfl := c_fail (N := N) hC n1
  rw [if_pos rfl] at hfl
  obtain ⟨μ1, e1, e2, e3⟩ := hfl
  have hX2 := (hX.wr (i := s) (by omega) (by omega)).at (i := s) (by omega) (by omega)
  have g0 : Fr P_at ν (stI (stI ν 0 17 (I_ s)) 0 16 (I_ s)) := P_a16 (P_a17 Fr.rf)
  have hd1 := hd.at_ hV g0
  have hR : RR T n s s (stI (stI ν 0 17 (I_ s)) 0 16 (I_ s)) := ⟨s, hX2, fun q => by omega⟩
  obtain ⟨ν2, g1, g2, g3⟩ := r_fresh (N := N) (g := 0) (qc := 18) hT hN (Or.inl ⟨rfl, rfl, by omega⟩) hNm hR (by rw [if_pos rfl]; exact hd1.2.2.1) (by omega) (by omega)
  have sf : ¬ s = -1 := by omega
  rw [oS_f sf, oF_f sf] at g2
  obtain ⟨ν3, h1, h2, h3⟩ := r_numberIn (N := N) (lo := 1) (hi := 9999) hT hN (by omega) (by omega) (by omega) g2
  rw [oS_f sf, oF_f sf] at h2
  obtain ⟨ν4, i1, i2, i3⟩ := r_numberIn (N := N) (lo := 0) (hi := 99) hT hN (by omega) (by omega) (by omega) h2
  rw [oS_f sf, oF_f sf] at i2
  obtain ⟨ν5, j1, j2, j3⟩ := r_numberIn (N := N) (lo := 0) (hi := 9999) hT hN (by omega) (by omega) (by omega) i2
  rw [oS_f sf, oF_f sf] at j2
  refine ⟨μ1, ν5, s, s, ?_, e2, e3.mono (fun k j q => p1_sp q), ?_, j2, ((g0.tr g3).tr (h3.tr (i3.tr j3))).mono (fun k j q => at_rd q), fun q => absurd q sf⟩
  · have h6' : μ.1 (b + 1) 2 = I_ 6 := by rw [← h6]; exact hc.2.2.1.1
    simp (disch := omega) only [fX5_modelLine, Int.reduceEq, Int.reduceNe, Int.reduceLT, Int.reduceLE, Int.reduceAdd, Int.reduceSub, Int.reduceMul, Int.reduceNeg, Int.zero_add, Int.add_zero, nm_eq, bd_some, bv_some, aI_ok, aL_ok, aS_ok, dv_ok, dw_ok, I_add, I_sub, I_mul, I_neg, I_lt, I_le, I_eq, I_nat, J_add, J_sub, J_mul, J_neg, J_lt, J_le, J_eq, I_l, J_i, I_div, J_div, b2_0, b2_1, b2_nar, nar_0, nar_1, zr_0, zr_1, zr_b2, cmp_eq, cmp_le, cmp_lt, cmp_gt, cmp_ge, mx_I, mn_I, mx_L, mn_L, az_I, if_true, if_false, not_true_eq_false, not_false_eq_true, Bool.false_eq_true, i_0, i_1, i_2, i_3, i_4, i_5, i_6, i_7, i_8, i_9, i_10, i_11, i_12, i_16, i_18, i_20, i_24, i_28, i_29, i_30, i_31, i_32, i_33, i_34, i_35, i_37, i_40, i_41, i_42, i_43, i_45, i_46, i_47, i_48, i_57, i_59, i_63, i_64, i_96, i_97, i_98, i_99, i_100, i_101, i_102, i_103, i_104, i_105, i_106, i_107, i_108, i_109, i_110, i_111, i_112, i_113, i_122, i_200, i_255, i_256, i_257, i_258, i_355, i_400, i_999, i_1000, i_1200, i_5680, i_9999, i_10000, i_99999, j_0, j_1, j_2, j_3, j_4, j_5, j_6, j_9, j_10, j_11, j_98, j_99, j_100, j_999, j_1000, j_9999, j_10000, j_99999, j_1000000, hC.2.2.2.2.2.1, hgB, h6', e1]
  · simp (disch := omega) only [fX11_modelLine, Int.reduceEq, Int.reduceNe, Int.reduceLT, Int.reduceLE, Int.reduceAdd, Int.reduceSub, Int.reduceMul, Int.reduceNeg, Int.zero_add, Int.add_zero, nm_eq, bd_some, bv_some, aI_ok, aL_ok, aS_ok, dv_ok, dw_ok, I_add, I_sub, I_mul, I_neg, I_lt, I_le, I_eq, I_nat, J_add, J_sub, J_mul, J_neg, J_lt, J_le, J_eq, I_l, J_i, I_div, J_div, b2_0, b2_1, b2_nar, nar_0, nar_1, zr_0, zr_1, zr_b2, cmp_eq, cmp_le, cmp_lt, cmp_gt, cmp_ge, mx_I, mn_I, mx_L, mn_L, az_I, if_true, if_false, not_true_eq_false, not_false_eq_true, Bool.false_eq_true, i_0, i_1, i_2, i_3, i_4, i_5, i_6, i_7, i_8, i_9, i_10, i_11, i_12, i_16, i_18, i_20, i_24, i_28, i_29, i_30, i_31, i_32, i_33, i_34, i_35, i_37, i_40, i_41, i_42, i_43, i_45, i_46, i_47, i_48, i_57, i_59, i_63, i_64, i_96, i_97, i_98, i_99, i_100, i_101, i_102, i_103, i_104, i_105, i_106, i_107, i_108, i_109, i_110, i_111, i_112, i_113, i_122, i_200, i_255, i_256, i_257, i_258, i_355, i_400, i_999, i_1000, i_1200, i_5680, i_9999, i_10000, i_99999, j_0, j_1, j_2, j_3, j_4, j_5, j_6, j_9, j_10, j_11, j_98, j_99, j_100, j_999, j_1000, j_9999, j_10000, j_99999, j_1000000, g1, h1, i1, j1, j2.wq, sf]
end
