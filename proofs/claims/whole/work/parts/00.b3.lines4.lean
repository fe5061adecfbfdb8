/-! The lines sell, adjust. -/
def rSale (x1 x2 x3 x4 x5 x6 x7 : Int) (k : Int) : Int := if k = 1 then x1 else if k = 2 then x2 else if k = 3 then x3 else if k = 4 then x4 else if k = 5 then x5 else if k = 6 then x6 else if k = 7 then x7 else if k = 10 then 1 else 0
def P_ad (b : Nat) (c : Int) (k j : Nat) : Prop := ((b + 13 ≤ k ∧ k ≤ b + 22) ∧ j = c.toNat) ∨ (k = b + 12 ∧ j = 10)
section
variable {T : Int → Int} {n : Int} {N b : Nat} {μ μ' ν ν' : Mem} {s f : Int} {V : Vw} {Lm Lf : Int → Int} {Am Af : Int → Int → Int} {K : Int → List Int} {fo : Int → Int} {q c x1 x2 x3 x4 x5 x6 x7 : Int}
theorem okk_s {k : Int} (h : okk k) (h1 : k ≤ 10) : k = 1 ∨ k = 2 ∨ k = 3 ∨ k = 4 ∨ k = 5 ∨ k = 6 ∨ k = 7 ∨ k = 10 := by unfold okk at h; omega
theorem c_addS (hb : kB b) (c0 : 0 ≤ c) (c1 : c < 40) (hm : μ.1 (b + 12) 10 = I_ c) : ∃ μ', fX7_add N (b + 12) (I_ x1) (I_ x2) (I_ x3) (I_ x4) (I_ x5) (I_ x6) (I_ x7) μ = some ((), μ') ∧ (∀ k, okk k → k ≤ 10 → μ'.1 (b + 12 + k.toNat) c.toNat = I_ (rSale x1 x2 x3 x4 x5 x6 x7 k)) ∧ μ'.1 (b + 12) 10 = I_ (c + 1) ∧ Fr (P_ad b c) μ μ' := by
  have hS : kS (b + 12) := by unfold kS; rcases hb with e | e <;> omega
  refine ⟨stI (stI (stI (stI (stI (stI (stI (stI (stI μ (b + 12 + 1) c.toNat (I_ x1)) (b + 12 + 2) c.toNat (I_ x2)) (b + 12 + 3) c.toNat (I_ x3)) (b + 12 + 4) c.toNat (I_ x4)) (b + 12 + 5) c.toNat (I_ x5)) (b + 12 + 6) c.toNat (I_ x6)) (b + 12 + 7) c.toNat (I_ x7)) (b + 12 + 10) c.toNat (I_ 1)) (b + 12) 10 (I_ (c + 1)), ?_, fun k a e => ?_, at_S, ?_⟩
  · unfold fX7_add
    rw [if_pos hS]
    simp (disch := omega) only [Int.reduceEq, Int.reduceNe, Int.reduceLT, Int.reduceLE, Int.reduceAdd, Int.reduceSub, Int.reduceMul, Int.reduceNeg, Int.zero_add, Int.add_zero, nm_eq, bd_some, bv_some, aI_ok, aL_ok, aS_ok, dv_ok, dw_ok, I_add, I_sub, I_mul, I_neg, I_lt, I_le, I_eq, I_nat, J_add, J_sub, J_mul, J_neg, J_lt, J_le, J_eq, I_l, J_i, I_div, J_div, b2_0, b2_1, b2_nar, nar_0, nar_1, zr_0, zr_1, zr_b2, cmp_eq, cmp_le, cmp_lt, cmp_gt, cmp_ge, mx_I, mn_I, mx_L, mn_L, az_I, if_true, if_false, not_true_eq_false, not_false_eq_true, Bool.false_eq_true, i_0, i_1, i_2, i_3, i_4, i_5, i_6, i_7, i_8, i_9, i_10, i_11, i_12, i_16, i_18, i_20, i_24, i_28, i_29, i_30, i_31, i_32, i_33, i_34, i_35, i_37, i_40, i_41, i_42, i_43, i_45, i_46, i_47, i_48, i_57, i_59, i_63, i_64, i_96, i_97, i_98, i_99, i_100, i_101, i_102, i_103, i_104, i_105, i_106, i_107, i_108, i_109, i_110, i_111, i_112, i_113, i_122, i_200, i_255, i_256, i_257, i_258, i_355, i_400, i_999, i_1000, i_1200, i_5680, i_9999, i_10000, i_99999, j_0, j_1, j_2, j_3, j_4, j_5, j_6, j_9, j_10, j_11, j_98, j_99, j_100, j_999, j_1000, j_9999, j_10000, j_99999, j_1000000, hm, c1, st_ne]
  · rcases okk_s a e with q | q | q | q | q | q | q | q <;> subst q
    · rw [st_ne (by omega), st_ne (by omega), st_ne (by omega), st_ne (by omega), st_ne (by omega), st_ne (by omega), st_ne (by omega), st_ne (by omega)]
      exact at_S
    · rw [st_ne (by omega), st_ne (by omega), st_ne (by omega), st_ne (by omega), st_ne (by omega), st_ne (by omega), st_ne (by omega)]
      exact at_S
    · rw [st_ne (by omega), st_ne (by omega), st_ne (by omega), st_ne (by omega), st_ne (by omega), st_ne (by omega)]
      exact at_S
    · rw [st_ne (by omega), st_ne (by omega), st_ne (by omega), st_ne (by omega), st_ne (by omega)]
      exact at_S
    · rw [st_ne (by omega), st_ne (by omega), st_ne (by omega), st_ne (by omega)]
      exact at_S
    · rw [st_ne (by omega), st_ne (by omega), st_ne (by omega)]
      exact at_S
    · rw [st_ne (by omega), st_ne (by omega)]
      exact at_S
    · rw [st_ne (by omega)]
      exact at_S
  · exact ((((((((Fr.rf.stI (Or.inl ⟨by omega, rfl⟩)).stI (Or.inl ⟨by omega, rfl⟩)).stI (Or.inl ⟨by omega, rfl⟩)).stI (Or.inl ⟨by omega, rfl⟩)).stI (Or.inl ⟨by omega, rfl⟩)).stI (Or.inl ⟨by omega, rfl⟩)).stI (Or.inl ⟨by omega, rfl⟩)).stI (Or.inl ⟨by omega, rfl⟩)).stI (Or.inr ⟨rfl, rfl⟩)
/-- the reference's row of a sale, in the row cw -/
def rwM (cw : Nat) (c x1 x2 x3 x4 x5 x6 x7 : Int) (ν : Mem) : Mem := stI (stI (stI (stI (stI (stI (stI (stI (stI ν cw (35 + 8 * c).toNat (I_ x1)) cw (35 + 8 * c + 1).toNat (I_ x2)) cw (35 + 8 * c + 2).toNat (I_ x3)) cw (35 + 8 * c + 3).toNat (I_ x4)) cw (35 + 8 * c + 4).toNat (I_ x5)) cw (35 + 8 * c + 5).toNat (I_ x6)) cw (35 + 8 * c + 6).toNat (I_ x7)) cw (35 + 8 * c + 7).toNat (I_ 1)) cw (34 : Int).toNat (I_ (c + 1))
theorem rwM_F {cw : Nat} : Fr (fun k _ => k = cw) ν (rwM cw c x1 x2 x3 x4 x5 x6 x7 ν) := by
  have h : Fr (fun (k _ : Nat) => k = cw) ν ν := Fr.rf
  exact ((((((((h.stI rfl).stI rfl).stI rfl).stI rfl).stI rfl).stI rfl).stI rfl).stI rfl).stI rfl
theorem rwM_34 {cw : Nat} : (rwM cw c x1 x2 x3 x4 x5 x6 x7 ν).1 cw 34 = I_ (c + 1) := at_S
theorem rwM_r {cw : Nat} (c0 : 0 ≤ c) {k : Int} (a : okk k) (e : k ≤ 10) : (rwM cw c x1 x2 x3 x4 x5 x6 x7 ν).1 cw (dI k c) = I_ (rSale x1 x2 x3 x4 x5 x6 x7 k) := by
  rw [dI_s a e]
  unfold rwM
  rcases okk_s a e with q | q | q | q | q | q | q | q <;> subst q
  · rw [st_I, if_neg (by omega), st_I, if_neg (by omega), st_I, if_neg (by omega), st_I, if_neg (by omega), st_I, if_neg (by omega), st_I, if_neg (by omega), st_I, if_neg (by omega), st_I, if_neg (by omega), st_I, if_pos ⟨rfl, by omega⟩]
    rfl
  · rw [st_I, if_neg (by omega), st_I, if_neg (by omega), st_I, if_neg (by omega), st_I, if_neg (by omega), st_I, if_neg (by omega), st_I, if_neg (by omega), st_I, if_neg (by omega), st_I, if_pos ⟨rfl, by omega⟩]
    rfl
  · rw [st_I, if_neg (by omega), st_I, if_neg (by omega), st_I, if_neg (by omega), st_I, if_neg (by omega), st_I, if_neg (by omega), st_I, if_neg (by omega), st_I, if_pos ⟨rfl, by omega⟩]
    rfl
  · rw [st_I, if_neg (by omega), st_I, if_neg (by omega), st_I, if_neg (by omega), st_I, if_neg (by omega), st_I, if_neg (by omega), st_I, if_pos ⟨rfl, by omega⟩]
    rfl
  · rw [st_I, if_neg (by omega), st_I, if_neg (by omega), st_I, if_neg (by omega), st_I, if_neg (by omega), st_I, if_pos ⟨rfl, by omega⟩]
    rfl
  · rw [st_I, if_neg (by omega), st_I, if_neg (by omega), st_I, if_neg (by omega), st_I, if_pos ⟨rfl, by omega⟩]
    rfl
  · rw [st_I, if_neg (by omega), st_I, if_neg (by omega), st_I, if_pos ⟨rfl, by omega⟩]
    rfl
  · rw [st_I, if_neg (by omega), st_I, if_pos ⟨rfl, by omega⟩]
    rfl
theorem rwM_o {cw : Nat} (c0 : 0 ≤ c) {j : Nat} (h : ¬ (35 + 8 * c.toNat ≤ j ∧ j < 35 + 8 * c.toNat + 8)) (h34 : j ≠ 34) : (rwM cw c x1 x2 x3 x4 x5 x6 x7 ν).1 cw j = ν.1 cw j := by
  unfold rwM
  rw [st_I, if_neg (by omega), st_I, if_neg (by omega), st_I, if_neg (by omega), st_I, if_neg (by omega), st_I, if_neg (by omega), st_I, if_neg (by omega), st_I, if_neg (by omega), st_I, if_neg (by omega), st_I, if_neg (by omega)]
theorem l_sell_y (hT : tB T n) (hN : 500 ≤ N) (hb : kB b) (hC : CR T n b s (-1) μ) (hX : RX T n s (-1) ν) (hs : sk T n s = s) {k : Nat} (hk : k < 35) (hw : isW T n s k = true) (hP : PPu V Lm Am Lf Af K) (hc : PC b V Lm Am Lf Af K fo q μ) (hd : PD V Lm Am Lf Af K ν) (q0 : 0 ≤ q) (q1 : q ≤ s) (h4 : sN V < 40) : LT T n b s μ ν (fX5_sellLine N μ) (fX11_sellLine N (stI ν 0 16 (I_ (s + lw_ k)))) := by
  obtain ⟨w2, hR, k6, sn⟩ := r_kw hT hX hs hk hw
  have ci := hC.in_
  have hnx := nx_in (T := T) (n := n) (s := s) (by omega)
  have hP' := hP
  obtain ⟨hV, hNm, hNf, hKG⟩ := hP'
  have hn := hV.1
  unfold vN at hn
  have hgB : ∀ {β : Type} (k : Nat → Option β), gB b k = k b := fun k => if_pos hb
  obtain ⟨μ1, e1, e2, e3⟩ := c_step hT hN hC
  have hc1 := hc.p1 hb e3
  have hd1 := hd.at_ hV (P_a16 (v := I_ (s + lw_ k)) Fr.rf)
  obtain ⟨μ2, ν2, s2, f2, v1, y1, a1, a2, a3, a4, a5, a6, a7, a8, a9, a10⟩ := B_mkt (N := N) hT hN e2 hR
  have hc2 := hc1.p1 hb a5
  have hd2 := hd1.at_ hV a6
  obtain ⟨μ3, ν3, s3, f3, v2, y2, b1, b2', b3, b4, b5, b6, b7, b8, b9, b10⟩ := B_told (N := N) (g := 1) (qc := 19) (t := b + 4) hT hN hb (Or.inr ⟨rfl, rfl, by omega, rfl⟩) hNf hc2.2.2.2.1 (by rw [if_neg (by decide)]; exact hd2.2.2.2.1) a3 a4
  have hc3 := hc2.p1 hb b5
  have hd3 := hd2.at_ hV b6
  obtain ⟨μ4, ν4, s4, f4, v3, y3, c1, c2, c3, c4, c5, c6, c7, c8, c9, c10⟩ := B_told (N := N) (g := 0) (qc := 18) (t := b + 1) hT hN hb (Or.inl ⟨rfl, rfl, by omega, rfl⟩) hNm hc3.2.2.1 (by rw [if_pos rfl]; exact hd3.2.2.1) b3 b4
  have hc4 := hc3.p1 hb c5
  have hd4 := hd3.at_ hV c6
  obtain ⟨μ5, ν5, s5, f5, v4, y4, d1, d2, d3, d4, d5, d6, d7, d8, d9, d10⟩ := B_num (N := N) (lo := 0) (hi := 3) hT hN (by omega) (by omega) (by omega) c3 c4
  have hc5 := hc4.p1 hb d5
  have hd5 := hd4.at_ hV d6
  obtain ⟨μ6, ν6, s6, f6, v5, y5, m1, m2, m3, m4, m5, m6, m7, m8, m9, m10⟩ := B_num (N := N) (lo := 0) (hi := 11) hT hN (by omega) (by omega) (by omega) d3 d4
  have hc6 := hc5.p1 hb m5
  have hd6 := hd5.at_ hV m6
  obtain ⟨μ7, ν7, s7, f7, v6, y6, g1, g2, g3, g4, g5, g6, g7, g8, g9, g10⟩ := B_num (N := N) (lo := 1) (hi := 999) hT hN (by omega) (by omega) (by omega) m3 m4
  have hc7 := hc6.p1 hb g5
  have hd7 := hd6.at_ hV g6
  obtain ⟨μ8, ν8, s8, f8, v7, y7, h1, h2, h3, h4', h5, h6, h7, h8, h9, h10⟩ := B_num (N := N) (lo := 1) (hi := 9999) hT hN (by omega) (by omega) (by omega) g3 g4
  have hc8 := hc7.p1 hb h5
  have hd8 := hd7.at_ hV h6
  have i8 := h3.in_
  have f0 : Fr (P_sp b) μ μ8 := (((e3.tr a5).tr (b5.tr c5)).tr ((d5.tr m5).tr (g5.tr h5))).mono (fun k j q => p1_sp q)
  have f1 : Fr P_rd ν ν8 := ((((P_a16 Fr.rf).tr a6).tr (b6.tr c6)).tr ((d6.tr m6).tr (g6.tr h6))).mono (fun k j q => at_rd q)
  have h34 : (stI ν 0 16 (I_ (s + lw_ k))).1 2 (34 : Int).toNat = I_ (sN V) := hd1.2.1
  by_cases hf : f8 = -1
  · obtain ⟨u1, z7, t1⟩ := h10 hf
    obtain ⟨u2, z6, t2⟩ := g10 u1
    obtain ⟨u3, z5, t3⟩ := m10 u2
    obtain ⟨u4, z4, t4⟩ := d10 u3
    obtain ⟨u5, z3, t5, l3⟩ := c10 u4
    obtain ⟨u6, z2, t6, l2⟩ := b10 u5
    obtain ⟨u7, z1⟩ := a10 u6
    obtain ⟨μ9, n1, n2, n3, n4⟩ := c_addS (N := N) (x1 := v1) (x2 := v2) (x3 := v3) (x4 := v4) (x5 := v5) (x6 := v6) (x7 := v7) hb (by omega) h4 hc8.2.1
    have hd34 : ν8.1 2 (34 : Int).toNat = I_ (sN V) := hd8.2.1
    have gr : Fr (fun k _ => k = 2) ν8 (rwM 2 (sN V) y1 y2 y3 y4 y5 y6 y7 ν8) := rwM_F
    have n4' : ∀ k j, P_ad b (sN V) k j → b ≤ k := fun k j q => by unfold P_ad at q; omega
    refine ⟨μ9, rwM 2 (sN V) y1 y2 y3 y4 y5 y6 y7 ν8, s8, f8, ?_, h3.bk hb n4 n4', f0.tr (n4.mono (fun k j q => by unfold P_ad at q; unfold P_sp; omega)), ?_, h4'.F gr (fun k j q => by omega), f1.tr (gr.mono (fun k j q => Or.inr (Or.inl q))), fun _ => ⟨by omega, vSa V (rSale v1 v2 v3 v4 v5 v6 v7), Lm, Am, Lf, Af, K, fo, q, ⟨?_, ?_, ?_, hKG⟩, ⟨?_, ?_, ?_, ?_, ?_⟩, ⟨?_, ?_, ?_, ?_, ?_⟩, q0, by omega⟩⟩
    · simp (disch := omega) only [fX5_sellLine, Int.reduceEq, Int.reduceNe, Int.reduceLT, Int.reduceLE, Int.reduceAdd, Int.reduceSub, Int.reduceMul, Int.reduceNeg, Int.zero_add, Int.add_zero, nm_eq, bd_some, bv_some, aI_ok, aL_ok, aS_ok, dv_ok, dw_ok, I_add, I_sub, I_mul, I_neg, I_lt, I_le, I_eq, I_nat, J_add, J_sub, J_mul, J_neg, J_lt, J_le, J_eq, I_l, J_i, I_div, J_div, b2_0, b2_1, b2_nar, nar_0, nar_1, zr_0, zr_1, zr_b2, cmp_eq, cmp_le, cmp_lt, cmp_gt, cmp_ge, mx_I, mn_I, mx_L, mn_L, az_I, if_true, if_false, not_true_eq_false, not_false_eq_true, Bool.false_eq_true, i_0, i_1, i_2, i_3, i_4, i_5, i_6, i_7, i_8, i_9, i_10, i_11, i_12, i_16, i_18, i_20, i_24, i_28, i_29, i_30, i_31, i_32, i_33, i_34, i_35, i_37, i_40, i_41, i_42, i_43, i_45, i_46, i_47, i_48, i_57, i_59, i_63, i_64, i_96, i_97, i_98, i_99, i_100, i_101, i_102, i_103, i_104, i_105, i_106, i_107, i_108, i_109, i_110, i_111, i_112, i_113, i_122, i_200, i_255, i_256, i_257, i_258, i_355, i_400, i_999, i_1000, i_1200, i_5680, i_9999, i_10000, i_99999, j_0, j_1, j_2, j_3, j_4, j_5, j_6, j_9, j_10, j_11, j_98, j_99, j_100, j_999, j_1000, j_9999, j_10000, j_99999, j_1000000, hC.2.2.2.2.2.1, hgB, hc.2.1, h4, e1, a1, a3.2.2.2.2.2.1, b1, b3.2.2.2.2.2.1, c1, d1, m1, g1, h1, h3.2.1, hf, h3.2.2.2.2.2.1, n1]
    · have e8 : 35 + 8 * sN V + 0 = 35 + 8 * sN V := by omega
      have st34 : ∀ {ν : Mem} {j : Int} {v : Int32}, 35 ≤ j → (stI ν 2 j.toNat v).1 2 (34 : Int).toNat = ν.1 2 (34 : Int).toNat := fun h => by rw [st_I, if_neg (by omega)]
      unfold rwM
      simp (disch := omega) only [fX11_sellLine, Int.reduceEq, Int.reduceNe, Int.reduceLT, Int.reduceLE, Int.reduceAdd, Int.reduceSub, Int.reduceMul, Int.reduceNeg, Int.zero_add, Int.add_zero, nm_eq, bd_some, bv_some, aI_ok, aL_ok, aS_ok, dv_ok, dw_ok, I_add, I_sub, I_mul, I_neg, I_lt, I_le, I_eq, I_nat, J_add, J_sub, J_mul, J_neg, J_lt, J_le, J_eq, I_l, J_i, I_div, J_div, b2_0, b2_1, b2_nar, nar_0, nar_1, zr_0, zr_1, zr_b2, cmp_eq, cmp_le, cmp_lt, cmp_gt, cmp_ge, mx_I, mn_I, mx_L, mn_L, az_I, if_true, if_false, not_true_eq_false, not_false_eq_true, Bool.false_eq_true, i_0, i_1, i_2, i_3, i_4, i_5, i_6, i_7, i_8, i_9, i_10, i_11, i_12, i_16, i_18, i_20, i_24, i_28, i_29, i_30, i_31, i_32, i_33, i_34, i_35, i_37, i_40, i_41, i_42, i_43, i_45, i_46, i_47, i_48, i_57, i_59, i_63, i_64, i_96, i_97, i_98, i_99, i_100, i_101, i_102, i_103, i_104, i_105, i_106, i_107, i_108, i_109, i_110, i_111, i_112, i_113, i_122, i_200, i_255, i_256, i_257, i_258, i_355, i_400, i_999, i_1000, i_1200, i_5680, i_9999, i_10000, i_99999, j_0, j_1, j_2, j_3, j_4, j_5, j_6, j_9, j_10, j_11, j_98, j_99, j_100, j_999, j_1000, j_9999, j_10000, j_99999, j_1000000, h34, a2, b2', c2, d2, m2, g2, h2, h4'.wq, hf, e8, st34, hd34]
    · exact vB_sa hV h4 (by show 0 ≤ v1 ∧ v1 ≤ 2; omega) (by show 0 ≤ v2 ∧ v2 < fN V; omega) (by show 0 ≤ v3 ∧ v3 < mN V; omega) (by show 0 ≤ v4 ∧ v4 ≤ 3; omega) (by show 0 ≤ v5 ∧ v5 ≤ 11; omega) (by show 1 ≤ v6 ∧ v6 ≤ 999; omega) (by show 1 ≤ v7 ∧ v7 ≤ 9999; omega) (by show (-1000000 : Int) ≤ 0 ∧ (0 : Int) ≤ 1000000; omega) (by show (0 : Int) ≤ 0 ∧ (0 : Int) ≤ 99999; omega) (by show (0 : Int) ≤ 1 ∧ (1 : Int) ≤ 1; omega)
    · rw [vSa_m]; exact hNm
    · rw [vSa_f]; exact hNf
    · rw [vSa_s, vSa_m]
      exact (hc8.1.row (by omega) n2 (fun k j a c d => (n4 k j (by unfold P_ad; omega)).1)).cong (fun k z a _ _ => by unfold vSa; exact vset_ne (by unfold okk at a; omega))
    · rw [vSa_s]; exact n3
    · rw [vSa_m]; exact hc8.2.2.1.F n4 (fun k j q => by unfold P_ad at q; omega)
    · rw [vSa_f]; exact hc8.2.2.2.1.F n4 (fun k j q => by unfold P_ad at q; omega)
    · exact hc8.2.2.2.2.fr (fun k j a c => (n4 k j (by unfold P_ad; omega)).1)
    · rw [vSa_s, vSa_m, z1, z2, z3, z4, z5, z6, z7]
      have hw8 := hd8.1.fr (g' := ν8.1 2) (h' := (rwM 2 (sN V) y1 y2 y3 y4 y5 y6 y7 ν8).1 13) (by omega) (fun _ _ _ => rfl) (fun j => (gr 13 j (by omega)).1)
      exact (hw8.row (by omega) h4 (fun k a e => rwM_r (by omega) a e) (fun j a c _ => rwM_o (by omega) a c)).cong (fun k z a _ _ => by unfold vSa; exact vset_ne (by unfold okk at a; omega))
    · rw [vSa_s]; exact rwM_34
    · rw [vSa_m]; exact hd8.2.2.1.F gr (fun k j q => by omega)
    · rw [vSa_f]; exact hd8.2.2.2.1.F gr (fun k j q => by omega)
    · exact hd8.2.2.2.2.fr (fun k j a c => (gr k j (by omega)).1)
  · refine ⟨μ8, ν8, s8, f8, ?_, h3, f0, ?_, h4', f1, fun q => absurd q hf⟩
    · simp (disch := omega) only [fX5_sellLine, Int.reduceEq, Int.reduceNe, Int.reduceLT, Int.reduceLE, Int.reduceAdd, Int.reduceSub, Int.reduceMul, Int.reduceNeg, Int.zero_add, Int.add_zero, nm_eq, bd_some, bv_some, aI_ok, aL_ok, aS_ok, dv_ok, dw_ok, I_add, I_sub, I_mul, I_neg, I_lt, I_le, I_eq, I_nat, J_add, J_sub, J_mul, J_neg, J_lt, J_le, J_eq, I_l, J_i, I_div, J_div, b2_0, b2_1, b2_nar, nar_0, nar_1, zr_0, zr_1, zr_b2, cmp_eq, cmp_le, cmp_lt, cmp_gt, cmp_ge, mx_I, mn_I, mx_L, mn_L, az_I, if_true, if_false, not_true_eq_false, not_false_eq_true, Bool.false_eq_true, i_0, i_1, i_2, i_3, i_4, i_5, i_6, i_7, i_8, i_9, i_10, i_11, i_12, i_16, i_18, i_20, i_24, i_28, i_29, i_30, i_31, i_32, i_33, i_34, i_35, i_37, i_40, i_41, i_42, i_43, i_45, i_46, i_47, i_48, i_57, i_59, i_63, i_64, i_96, i_97, i_98, i_99, i_100, i_101, i_102, i_103, i_104, i_105, i_106, i_107, i_108, i_109, i_110, i_111, i_112, i_113, i_122, i_200, i_255, i_256, i_257, i_258, i_355, i_400, i_999, i_1000, i_1200, i_5680, i_9999, i_10000, i_99999, j_0, j_1, j_2, j_3, j_4, j_5, j_6, j_9, j_10, j_11, j_98, j_99, j_100, j_999, j_1000, j_9999, j_10000, j_99999, j_1000000, hC.2.2.2.2.2.1, hgB, hc.2.1, h4, e1, a1, a3.2.2.2.2.2.1, b1, b3.2.2.2.2.2.1, c1, d1, m1, g1, h1, h3.2.1, hf]
    · simp (disch := omega) only [fX11_sellLine, Int.reduceEq, Int.reduceNe, Int.reduceLT, Int.reduceLE, Int.reduceAdd, Int.reduceSub, Int.reduceMul, Int.reduceNeg, Int.zero_add, Int.add_zero, nm_eq, bd_some, bv_some, aI_ok, aL_ok, aS_ok, dv_ok, dw_ok, I_add, I_sub, I_mul, I_neg, I_lt, I_le, I_eq, I_nat, J_add, J_sub, J_mul, J_neg, J_lt, J_le, J_eq, I_l, J_i, I_div, J_div, b2_0, b2_1, b2_nar, nar_0, nar_1, zr_0, zr_1, zr_b2, cmp_eq, cmp_le, cmp_lt, cmp_gt, cmp_ge, mx_I, mn_I, mx_L, mn_L, az_I, if_true, if_false, not_true_eq_false, not_false_eq_true, Bool.false_eq_true, i_0, i_1, i_2, i_3, i_4, i_5, i_6, i_7, i_8, i_9, i_10, i_11, i_12, i_16, i_18, i_20, i_24, i_28, i_29, i_30, i_31, i_32, i_33, i_34, i_35, i_37, i_40, i_41, i_42, i_43, i_45, i_46, i_47, i_48, i_57, i_59, i_63, i_64, i_96, i_97, i_98, i_99, i_100, i_101, i_102, i_103, i_104, i_105, i_106, i_107, i_108, i_109, i_110, i_111, i_112, i_113, i_122, i_200, i_255, i_256, i_257, i_258, i_355, i_400, i_999, i_1000, i_1200, i_5680, i_9999, i_10000, i_99999, j_0, j_1, j_2, j_3, j_4, j_5, j_6, j_9, j_10, j_11, j_98, j_99, j_100, j_999, j_1000, j_9999, j_10000, j_99999, j_1000000, h34, a2, b2', c2, d2, m2, g2, h2, h4'.wq, hf]
theorem l_sell_n (hT : tB T n) (hb : kB b) (hC : CR T n b s (-1) μ) (hX : RX T n s (-1) ν) (hc : PC b V Lm Am Lf Af K fo q μ) (h4 : sN V = 40) : LT T n b s μ ν (fX5_sellLine N μ) (some ((), stI (stI ν 0 17 (I_ s)) 0 16 (I_ s))) := by
  have ci := hC.in_
  have n1 := hT.2.1
  have hgB : ∀ {β : Type} (k : Nat → Option β), gB b k = k b := fun k => if_pos hb
  have hfl := c_fail (N := N) hC n1
  rw [if_pos rfl] at hfl
  obtain ⟨μ1, e1, e2, e3⟩ := hfl
  have hX2 := (hX.wr (i := s) (by omega) (by omega)).at (i := s) (by omega) (by omega)
  have g0 : Fr P_at ν (stI (stI ν 0 17 (I_ s)) 0 16 (I_ s)) := P_a16 (P_a17 Fr.rf)
  have sf : ¬ s = -1 := by omega
  refine ⟨μ1, _, s, s, ?_, e2, e3.mono (fun k j q => p1_sp q), rfl, ⟨s, hX2, fun q => absurd q sf⟩, g0.mono (fun k j q => at_rd q), fun q => absurd q sf⟩
  have h4' : μ.1 (b + 12) 10 = I_ 40 := by rw [← h4]; exact hc.2.1
  simp (disch := omega) only [fX5_sellLine, Int.reduceEq, Int.reduceNe, Int.reduceLT, Int.reduceLE, Int.reduceAdd, Int.reduceSub, Int.reduceMul, Int.reduceNeg, Int.zero_add, Int.add_zero, nm_eq, bd_some, bv_some, aI_ok, aL_ok, aS_ok, dv_ok, dw_ok, I_add, I_sub, I_mul, I_neg, I_lt, I_le, I_eq, I_nat, J_add, J_sub, J_mul, J_neg, J_lt, J_le, J_eq, I_l, J_i, I_div, J_div, b2_0, b2_1, b2_nar, nar_0, nar_1, zr_0, zr_1, zr_b2, cmp_eq, cmp_le, cmp_lt, cmp_gt, cmp_ge, mx_I, mn_I, mx_L, mn_L, az_I, if_true, if_false, not_true_eq_false, not_false_eq_true, Bool.false_eq_true, i_0, i_1, i_2, i_3, i_4, i_5, i_6, i_7, i_8, i_9, i_10, i_11, i_12, i_16, i_18, i_20, i_24, i_28, i_29, i_30, i_31, i_32, i_33, i_34, i_35, i_37, i_40, i_41, i_42, i_43, i_45, i_46, i_47, i_48, i_57, i_59, i_63, i_64, i_96, i_97, i_98, i_99, i_100, i_101, i_102, i_103, i_104, i_105, i_106, i_107, i_108, i_109, i_110, i_111, i_112, i_113, i_122, i_200, i_255, i_256, i_257, i_258, i_355, i_400, i_999, i_1000, i_1200, i_5680, i_9999, i_10000, i_99999, j_0, j_1, j_2, j_3, j_4, j_5, j_6, j_9, j_10, j_11, j_98, j_99, j_100, j_999, j_1000, j_9999, j_10000, j_99999, j_1000000, hC.2.2.2.2.2.1, hgB, h4', e1]
/-! adjust -/
theorem c_rsf (hC : CR T n b s f μ) (hf : ¬ f = -1) (hN : 500 ≤ N) : fX5_rs8 N (I_ 0) μ = some ((), μ) := by
  have ci := hC.in_
  obtain ⟨m, hm⟩ : ∃ m, N = m + 1 := ⟨N - 1, by omega⟩
  have ha : ∀ rs, fX5_readAtom N rs (I_ 0) μ = some ((), μ) := fun rs => by
    simp (disch := omega) only [fX5_readAtom, Int.reduceEq, Int.reduceNe, Int.reduceLT, Int.reduceLE, Int.reduceAdd, Int.reduceSub, Int.reduceMul, Int.reduceNeg, Int.zero_add, Int.add_zero, nm_eq, bd_some, bv_some, aI_ok, aL_ok, aS_ok, dv_ok, dw_ok, I_add, I_sub, I_mul, I_neg, I_lt, I_le, I_eq, I_nat, J_add, J_sub, J_mul, J_neg, J_lt, J_le, J_eq, I_l, J_i, I_div, J_div, b2_0, b2_1, b2_nar, nar_0, nar_1, zr_0, zr_1, zr_b2, cmp_eq, cmp_le, cmp_lt, cmp_gt, cmp_ge, mx_I, mn_I, mx_L, mn_L, az_I, if_true, if_false, not_true_eq_false, not_false_eq_true, Bool.false_eq_true, i_0, i_1, i_2, i_3, i_4, i_5, i_6, i_7, i_8, i_9, i_10, i_11, i_12, i_16, i_18, i_20, i_24, i_28, i_29, i_30, i_31, i_32, i_33, i_34, i_35, i_37, i_40, i_41, i_42, i_43, i_45, i_46, i_47, i_48, i_57, i_59, i_63, i_64, i_96, i_97, i_98, i_99, i_100, i_101, i_102, i_103, i_104, i_105, i_106, i_107, i_108, i_109, i_110, i_111, i_112, i_113, i_122, i_200, i_255, i_256, i_257, i_258, i_355, i_400, i_999, i_1000, i_1200, i_5680, i_9999, i_10000, i_99999, j_0, j_1, j_2, j_3, j_4, j_5, j_6, j_9, j_10, j_11, j_98, j_99, j_100, j_999, j_1000, j_9999, j_10000, j_99999, j_1000000, hC.2.1, hf]
  have ht7 : ∀ rs m, fX5_readTerm_7 N rs (m + 1) (I_ 0) (I_ 0) μ = some ((), μ) := fun rs m => by
    simp (disch := omega) only [fX5_readTerm_7, Int.reduceEq, Int.reduceNe, Int.reduceLT, Int.reduceLE, Int.reduceAdd, Int.reduceSub, Int.reduceMul, Int.reduceNeg, Int.zero_add, Int.add_zero, nm_eq, bd_some, bv_some, aI_ok, aL_ok, aS_ok, dv_ok, dw_ok, I_add, I_sub, I_mul, I_neg, I_lt, I_le, I_eq, I_nat, J_add, J_sub, J_mul, J_neg, J_lt, J_le, J_eq, I_l, J_i, I_div, J_div, b2_0, b2_1, b2_nar, nar_0, nar_1, zr_0, zr_1, zr_b2, cmp_eq, cmp_le, cmp_lt, cmp_gt, cmp_ge, mx_I, mn_I, mx_L, mn_L, az_I, if_true, if_false, not_true_eq_false, not_false_eq_true, Bool.false_eq_true, i_0, i_1, i_2, i_3, i_4, i_5, i_6, i_7, i_8, i_9, i_10, i_11, i_12, i_16, i_18, i_20, i_24, i_28, i_29, i_30, i_31, i_32, i_33, i_34, i_35, i_37, i_40, i_41, i_42, i_43, i_45, i_46, i_47, i_48, i_57, i_59, i_63, i_64, i_96, i_97, i_98, i_99, i_100, i_101, i_102, i_103, i_104, i_105, i_106, i_107, i_108, i_109, i_110, i_111, i_112, i_113, i_122, i_200, i_255, i_256, i_257, i_258, i_355, i_400, i_999, i_1000, i_1200, i_5680, i_9999, i_10000, i_99999, j_0, j_1, j_2, j_3, j_4, j_5, j_6, j_9, j_10, j_11, j_98, j_99, j_100, j_999, j_1000, j_9999, j_10000, j_99999, j_1000000, hC.2.1, hf]
  have hs7 : ∀ rs m, fX5_readSum_7 N rs (m + 1) (I_ 0) (I_ 0) μ = some ((), μ) := fun rs m => by
    simp (disch := omega) only [fX5_readSum_7, Int.reduceEq, Int.reduceNe, Int.reduceLT, Int.reduceLE, Int.reduceAdd, Int.reduceSub, Int.reduceMul, Int.reduceNeg, Int.zero_add, Int.add_zero, nm_eq, bd_some, bv_some, aI_ok, aL_ok, aS_ok, dv_ok, dw_ok, I_add, I_sub, I_mul, I_neg, I_lt, I_le, I_eq, I_nat, J_add, J_sub, J_mul, J_neg, J_lt, J_le, J_eq, I_l, J_i, I_div, J_div, b2_0, b2_1, b2_nar, nar_0, nar_1, zr_0, zr_1, zr_b2, cmp_eq, cmp_le, cmp_lt, cmp_gt, cmp_ge, mx_I, mn_I, mx_L, mn_L, az_I, if_true, if_false, not_true_eq_false, not_false_eq_true, Bool.false_eq_true, i_0, i_1, i_2, i_3, i_4, i_5, i_6, i_7, i_8, i_9, i_10, i_11, i_12, i_16, i_18, i_20, i_24, i_28, i_29, i_30, i_31, i_32, i_33, i_34, i_35, i_37, i_40, i_41, i_42, i_43, i_45, i_46, i_47, i_48, i_57, i_59, i_63, i_64, i_96, i_97, i_98, i_99, i_100, i_101, i_102, i_103, i_104, i_105, i_106, i_107, i_108, i_109, i_110, i_111, i_112, i_113, i_122, i_200, i_255, i_256, i_257, i_258, i_355, i_400, i_999, i_1000, i_1200, i_5680, i_9999, i_10000, i_99999, j_0, j_1, j_2, j_3, j_4, j_5, j_6, j_9, j_10, j_11, j_98, j_99, j_100, j_999, j_1000, j_9999, j_10000, j_99999, j_1000000, hC.2.1, hf]
  have ht7' : ∀ rs, fX5_readTerm_7 N rs N (I_ 0) (I_ 0) μ = some ((), μ) := fun rs => by
    have := ht7 rs m
    rw [← hm] at this
    exact this
  have hs7' : ∀ rs, fX5_readSum_7 N rs N (I_ 0) (I_ 0) μ = some ((), μ) := fun rs => by
    have := hs7 rs m
    rw [← hm] at this
    exact this
  have ht : ∀ rs, fX5_readTerm N rs (I_ 0) μ = some ((), μ) := fun rs => by
    simp (disch := omega) only [fX5_readTerm, Int.reduceEq, Int.reduceNe, Int.reduceLT, Int.reduceLE, Int.reduceAdd, Int.reduceSub, Int.reduceMul, Int.reduceNeg, Int.zero_add, Int.add_zero, nm_eq, bd_some, bv_some, aI_ok, aL_ok, aS_ok, dv_ok, dw_ok, I_add, I_sub, I_mul, I_neg, I_lt, I_le, I_eq, I_nat, J_add, J_sub, J_mul, J_neg, J_lt, J_le, J_eq, I_l, J_i, I_div, J_div, b2_0, b2_1, b2_nar, nar_0, nar_1, zr_0, zr_1, zr_b2, cmp_eq, cmp_le, cmp_lt, cmp_gt, cmp_ge, mx_I, mn_I, mx_L, mn_L, az_I, if_true, if_false, not_true_eq_false, not_false_eq_true, Bool.false_eq_true, i_0, i_1, i_2, i_3, i_4, i_5, i_6, i_7, i_8, i_9, i_10, i_11, i_12, i_16, i_18, i_20, i_24, i_28, i_29, i_30, i_31, i_32, i_33, i_34, i_35, i_37, i_40, i_41, i_42, i_43, i_45, i_46, i_47, i_48, i_57, i_59, i_63, i_64, i_96, i_97, i_98, i_99, i_100, i_101, i_102, i_103, i_104, i_105, i_106, i_107, i_108, i_109, i_110, i_111, i_112, i_113, i_122, i_200, i_255, i_256, i_257, i_258, i_355, i_400, i_999, i_1000, i_1200, i_5680, i_9999, i_10000, i_99999, j_0, j_1, j_2, j_3, j_4, j_5, j_6, j_9, j_10, j_11, j_98, j_99, j_100, j_999, j_1000, j_9999, j_10000, j_99999, j_1000000, ha, ht7']
  show fX5_readSum N (fX5_rs 7 N) (I_ 0) μ = some ((), μ)
  simp (disch := omega) only [fX5_readSum, Int.reduceEq, Int.reduceNe, Int.reduceLT, Int.reduceLE, Int.reduceAdd, Int.reduceSub, Int.reduceMul, Int.reduceNeg, Int.zero_add, Int.add_zero, nm_eq, bd_some, bv_some, aI_ok, aL_ok, aS_ok, dv_ok, dw_ok, I_add, I_sub, I_mul, I_neg, I_lt, I_le, I_eq, I_nat, J_add, J_sub, J_mul, J_neg, J_lt, J_le, J_eq, I_l, J_i, I_div, J_div, b2_0, b2_1, b2_nar, nar_0, nar_1, zr_0, zr_1, zr_b2, cmp_eq, cmp_le, cmp_lt, cmp_gt, cmp_ge, mx_I, mn_I, mx_L, mn_L, az_I, if_true, if_false, not_true_eq_false, not_false_eq_true, Bool.false_eq_true, i_0, i_1, i_2, i_3, i_4, i_5, i_6, i_7, i_8, i_9, i_10, i_11, i_12, i_16, i_18, i_20, i_24, i_28, i_29, i_30, i_31, i_32, i_33, i_34, i_35, i_37, i_40, i_41, i_42, i_43, i_45, i_46, i_47, i_48, i_57, i_59, i_63, i_64, i_96, i_97, i_98, i_99, i_100, i_101, i_102, i_103, i_104, i_105, i_106, i_107, i_108, i_109, i_110, i_111, i_112, i_113, i_122, i_200, i_255, i_256, i_257, i_258, i_355, i_400, i_999, i_1000, i_1200, i_5680, i_9999, i_10000, i_99999, j_0, j_1, j_2, j_3, j_4, j_5, j_6, j_9, j_10, j_11, j_98, j_99, j_100, j_999, j_1000, j_9999, j_10000, j_99999, j_1000000, ht, hs7']
def uK (K : Int → List Int) (ad : Int) (cs : List Int) (k : Int) : List Int := if k = ad then cs else K k
def uF (fo : Int → Int) (ad q : Int) (k : Int) : Int := if k = ad then q else fo k
theorem l_adj (hT : tB T n) (hN : 500 ≤ N) (hb : kB b) (hC : CR T n b s (-1) μ) (hX : RX T n s (-1) ν) (hs : sk T n s = s) {k : Nat} (hk : k < 35) (hw : isW T n s k = true) (hP : PPu V Lm Am Lf Af K) (hc : PC b V Lm Am Lf Af K fo q μ) (hd : PD V Lm Am Lf Af K ν) (q0 : 0 ≤ q) (q1 : q ≤ s) : LT T n b s μ ν (fX5_adjustLine N μ) (fX11_adjustLine N (stI ν 0 16 (I_ (s + lw_ k)))) := by
  obtain ⟨w2, hR, k6, sn⟩ := r_kw hT hX hs hk hw
  have ci := hC.in_
  have n1 := hT.2.1
  have hnx := nx_in (T := T) (n := n) (s := s) (by omega)
  have hP' := hP
  obtain ⟨hV, hNm, hNf, hKG⟩ := hP'
  have hn := hV.1
  unfold vN at hn
  have hgB : ∀ {β : Type} (k : Nat → Option β), gB b k = k b := fun k => if_pos hb
  have kU7 : kU (b + 7) := by unfold kU; rcases hb with e | e <;> omega
  obtain ⟨μ1, e1, e2, e3⟩ := c_step hT hN hC
  have hc1 := hc.p1 hb e3
  have hd1 := hd.at_ hV (P_a16 (v := I_ (s + lw_ k)) Fr.rf)
  obtain ⟨μ2, ν2, s2, f2, v1, y1, a1, a2, a3, a4, a5, a6, a7, a8, a9, a10⟩ := B_mkt (N := N) hT hN e2 hR
  have hc2 := hc1.p1 hb a5
  have hd2 := hd1.at_ hV a6
  have i2 := a3.in_
  have m0 : Fr (P_sp b) μ μ2 := (e3.tr a5).mono (fun k j q => p1_sp q)
  have m1 : Fr P_rd ν ν2 := ((P_a16 Fr.rf).tr a6).mono (fun k j q => at_rd q)
  by_cases hf : f2 = -1
  · obtain ⟨u1, u2⟩ := a10 hf
    subst hf
    subst u2
    -- both stand ahead of the sum
    have g26 : Fr (fun k j => (k = 0 ∧ (j = 26 ∨ j = 27 ∨ j = 29)) ∨ (k = 16 ∧ j = v1.toNat)) ν2 (stI (stI (stI (stI ν2 0 26 (I_ v1)) 16 v1.toNat (I_ 0)) 0 27 (I_ 0)) 0 29 (I_ 0)) := (((Fr.rf.stI (Or.inl ⟨rfl, Or.inl rfl⟩)).stI (Or.inr ⟨rfl, rfl⟩)).stI (Or.inl ⟨rfl, Or.inr (Or.inl rfl)⟩)).stI (Or.inl ⟨rfl, Or.inr (Or.inr rfl)⟩)
    have hr0 : RSt T n v1 s2 (-1) [] [] 0 (stI (stI (stI (stI ν2 0 26 (I_ v1)) 16 v1.toNat (I_ 0)) 0 27 (I_ 0)) 0 29 (I_ 0)) := by
      refine ⟨a4.F g26 (fun k j q => by omega), ?_, trivial, ?_, ?_, at_S, trivial⟩
      · rw [st_ne (by omega), st_ne (by omega), at_S]; rfl
      · simp (disch := omega) only [st_I, st_I2, st_L1, st_L2, st_R1, st_R2, Nat.reduceEqDiff, Nat.reduceAdd, and_true, true_and, and_false, false_and, and_self, if_false, if_true, st_ne]
      · simp (disch := omega) only [st_I, st_I2, st_L1, st_L2, st_R1, st_R2, Nat.reduceEqDiff, Nat.reduceAdd, and_true, true_and, and_false, false_and, and_self, if_false, if_true]
    have hc0 : CSt T n b q s2 (-1) [] μ2 := ⟨a3, by rw [hc2.2.2.2.2.1]; congr 1; show q = q + ((0 : Nat) : Int); omega, trivial⟩
    obtain ⟨μ3, ν3, s3, f3, b1, b2', b3, b4, b5⟩ := sim_sum hT hN hb q0 a9.1 a9.2 hc0 hr0 (by omega)
    have hrunR : fX11_adjustLine N (stI ν 0 16 (I_ (s + lw_ k))) = some ((), ν3) := by
      have h9 : fX11_sumHere N (stI (stI (stI ν2 0 26 (I_ v1)) 16 v1.toNat (I_ 0)) 0 27 (I_ 0)) = some ((), ν3) := by
        unfold fX11_sumHere
        rw [nm_eq]
        exact b2'
      have hw26 : fX11_isWrong N (stI ν2 0 26 (I_ v1)) = some (I_ (b2 (¬ (-1 : Int) = -1)), stI ν2 0 26 (I_ v1)) := (a4.F (P := fun k j => k = 0 ∧ j = 26) (Fr.rf.stI ⟨rfl, rfl⟩) (fun k j q => by omega)).wq
      simp (disch := omega) only [fX11_adjustLine, Int.reduceEq, Int.reduceNe, Int.reduceLT, Int.reduceLE, Int.reduceAdd, Int.reduceSub, Int.reduceMul, Int.reduceNeg, Int.zero_add, Int.add_zero, nm_eq, bd_some, bv_some, aI_ok, aL_ok, aS_ok, dv_ok, dw_ok, I_add, I_sub, I_mul, I_neg, I_lt, I_le, I_eq, I_nat, J_add, J_sub, J_mul, J_neg, J_lt, J_le, J_eq, I_l, J_i, I_div, J_div, b2_0, b2_1, b2_nar, nar_0, nar_1, zr_0, zr_1, zr_b2, cmp_eq, cmp_le, cmp_lt, cmp_gt, cmp_ge, mx_I, mn_I, mx_L, mn_L, az_I, if_true, if_false, not_true_eq_false, not_false_eq_true, Bool.false_eq_true, i_0, i_1, i_2, i_3, i_4, i_5, i_6, i_7, i_8, i_9, i_10, i_11, i_12, i_16, i_18, i_20, i_24, i_28, i_29, i_30, i_31, i_32, i_33, i_34, i_35, i_37, i_40, i_41, i_42, i_43, i_45, i_46, i_47, i_48, i_57, i_59, i_63, i_64, i_96, i_97, i_98, i_99, i_100, i_101, i_102, i_103, i_104, i_105, i_106, i_107, i_108, i_109, i_110, i_111, i_112, i_113, i_122, i_200, i_255, i_256, i_257, i_258, i_355, i_400, i_999, i_1000, i_1200, i_5680, i_9999, i_10000, i_99999, j_0, j_1, j_2, j_3, j_4, j_5, j_6, j_9, j_10, j_11, j_98, j_99, j_100, j_999, j_1000, j_9999, j_10000, j_99999, j_1000000, a2, hw26, st_I, st_I2, st_L1, st_L2, st_R1, st_R2, Nat.reduceEqDiff, Nat.reduceAdd, and_true, true_and, and_false, false_and, and_self, if_false, if_true, h9]
    have mr : Fr P_rd ν ν3 := (m1.tr (g26.mono (fun k j q => by unfold P_rd; omega))).tr (b4.mono (fun k j q => by unfold P_rs at q; unfold P_rd; omega))
    have mc : Fr (P_sp b) μ μ3 := m0.tr (b3.mono (fun k j q => by unfold P_cs at q; unfold P_sp; omega))
    rcases b5 with ⟨f3e, cs, x1, x2, x3, x4, x5⟩ | ⟨f30, x1, x2⟩
    · subst f3e
      have i3 := x2.1.in_
      have gt : Fr (fun k j => (k = b + 9 ∨ k = b + 10) ∧ j = v1.toNat) μ3 (stI (stI μ3 (b + 9) v1.toNat (I_ q)) (b + 10) v1.toNat (I_ (q + cs.length))) := (Fr.rf.stI ⟨Or.inl rfl, rfl⟩).stI ⟨Or.inr rfl, rfl⟩
      have gA : Fr (fun k j => k = 1 ∨ (k = b + 7 ∧ j = 4) ∨ (k = b + 8 ∧ q.toNat ≤ j) ∨ ((k = b + 9 ∨ k = b + 10) ∧ j = v1.toNat)) μ2 (stI (stI μ3 (b + 9) v1.toNat (I_ q)) (b + 10) v1.toNat (I_ (q + cs.length))) := (b3.mono (fun k j w => by unfold P_cs at w; omega)).tr (gt.mono (fun k j w => by omega))
      have gR : Fr (fun k j => (k = 0 ∧ (j = 16 ∨ j = 17 ∨ j = 26 ∨ j = 27 ∨ j = 29)) ∨ k = 17 ∨ (k = 16 ∧ j = v1.toNat) ∨ ((k = 14 ∨ k = 15) ∧ (400 * v1).toNat ≤ j ∧ j < (400 * v1 + 400).toNat)) ν2 ν3 := (g26.mono (fun k j w => by omega)).tr (b4.mono (fun k j w => by unfold P_rs at w; omega))
      have q7 : μ3.1 (b + 7) 4 = I_ (q + cs.length) := x2.2.1
      refine ⟨stI (stI μ3 (b + 9) v1.toNat (I_ q)) (b + 10) v1.toNat (I_ (q + cs.length)), ν3, s3, -1, ?_, x2.1.bk hb gt (fun k j w => by omega), mc.tr (gt.mono (fun k j w => by unfold P_sp; omega)), hrunR, x5.1, mr, fun _ => ⟨by omega, V, Lm, Am, Lf, Af, uK K v1 cs, uF fo v1 q, q + cs.length, ⟨hV, hNm, hNf, fun k k0 k2 => ?_⟩, ⟨?_, ?_, ?_, ?_, ?_, fun k k0 k2 => ?_⟩, ⟨?_, ?_, ?_, ?_, fun k k0 k2 => ?_⟩, by omega, x4⟩⟩
      · have ht : fX9_tell N (b + 7) (I_ v1) (I_ q) μ3 = some ((), stI (stI μ3 (b + 9) v1.toNat (I_ q)) (b + 10) v1.toNat (I_ (q + cs.length))) := by
          unfold fX9_tell
          rw [if_pos kU7]
          simp (disch := omega) only [Int.reduceEq, Int.reduceNe, Int.reduceLT, Int.reduceLE, Int.reduceAdd, Int.reduceSub, Int.reduceMul, Int.reduceNeg, Int.zero_add, Int.add_zero, nm_eq, bd_some, bv_some, aI_ok, aL_ok, aS_ok, dv_ok, dw_ok, I_add, I_sub, I_mul, I_neg, I_lt, I_le, I_eq, I_nat, J_add, J_sub, J_mul, J_neg, J_lt, J_le, J_eq, I_l, J_i, I_div, J_div, b2_0, b2_1, b2_nar, nar_0, nar_1, zr_0, zr_1, zr_b2, cmp_eq, cmp_le, cmp_lt, cmp_gt, cmp_ge, mx_I, mn_I, mx_L, mn_L, az_I, if_true, if_false, not_true_eq_false, not_false_eq_true, Bool.false_eq_true, i_0, i_1, i_2, i_3, i_4, i_5, i_6, i_7, i_8, i_9, i_10, i_11, i_12, i_16, i_18, i_20, i_24, i_28, i_29, i_30, i_31, i_32, i_33, i_34, i_35, i_37, i_40, i_41, i_42, i_43, i_45, i_46, i_47, i_48, i_57, i_59, i_63, i_64, i_96, i_97, i_98, i_99, i_100, i_101, i_102, i_103, i_104, i_105, i_106, i_107, i_108, i_109, i_110, i_111, i_112, i_113, i_122, i_200, i_255, i_256, i_257, i_258, i_355, i_400, i_999, i_1000, i_1200, i_5680, i_9999, i_10000, i_99999, j_0, j_1, j_2, j_3, j_4, j_5, j_6, j_9, j_10, j_11, j_98, j_99, j_100, j_999, j_1000, j_9999, j_10000, j_99999, j_1000000, q7, st_ne]
        simp (disch := omega) only [fX5_adjustLine, Int.reduceEq, Int.reduceNe, Int.reduceLT, Int.reduceLE, Int.reduceAdd, Int.reduceSub, Int.reduceMul, Int.reduceNeg, Int.zero_add, Int.add_zero, nm_eq, bd_some, bv_some, aI_ok, aL_ok, aS_ok, dv_ok, dw_ok, I_add, I_sub, I_mul, I_neg, I_lt, I_le, I_eq, I_nat, J_add, J_sub, J_mul, J_neg, J_lt, J_le, J_eq, I_l, J_i, I_div, J_div, b2_0, b2_1, b2_nar, nar_0, nar_1, zr_0, zr_1, zr_b2, cmp_eq, cmp_le, cmp_lt, cmp_gt, cmp_ge, mx_I, mn_I, mx_L, mn_L, az_I, if_true, if_false, not_true_eq_false, not_false_eq_true, Bool.false_eq_true, i_0, i_1, i_2, i_3, i_4, i_5, i_6, i_7, i_8, i_9, i_10, i_11, i_12, i_16, i_18, i_20, i_24, i_28, i_29, i_30, i_31, i_32, i_33, i_34, i_35, i_37, i_40, i_41, i_42, i_43, i_45, i_46, i_47, i_48, i_57, i_59, i_63, i_64, i_96, i_97, i_98, i_99, i_100, i_101, i_102, i_103, i_104, i_105, i_106, i_107, i_108, i_109, i_110, i_111, i_112, i_113, i_122, i_200, i_255, i_256, i_257, i_258, i_355, i_400, i_999, i_1000, i_1200, i_5680, i_9999, i_10000, i_99999, j_0, j_1, j_2, j_3, j_4, j_5, j_6, j_9, j_10, j_11, j_98, j_99, j_100, j_999, j_1000, j_9999, j_10000, j_99999, j_1000000, e1, a1, a3.2.2.2.2.2.1, hgB, hc2.2.2.2.2.1, b1, x2.1.2.1, x2.1.2.2.2.2.2.1, ht]
      · unfold uK
        by_cases e : k = v1
        · rw [if_pos e]; exact ⟨Or.inr x3, by omega⟩
        · rw [if_neg e]; exact hKG k k0 k2
      · exact hc2.1.fr (fun k j a c => (gA k j (by rcases hb with e | e <;> omega)).1)
      · rw [(gA (b + 12) 10 (by rcases hb with e | e <;> omega)).1]; exact hc2.2.1
      · exact hc2.2.2.1.F gA (fun k j w => by rcases hb with e | e <;> omega)
      · exact hc2.2.2.2.1.F gA (fun k j w => by rcases hb with e | e <;> omega)
      · rw [st_ne (by omega), st_ne (by omega)]; exact q7
      · unfold uK uF
        by_cases e : k = v1
        · rw [if_pos e, if_pos e, e]
          refine ⟨by rw [st_ne (by omega), at_S], at_S, seg_fr _ _ q0 (fun j _ _ => (gt (b + 8) j (by omega)).1) x2.2.2, q0, by omega⟩
        · rw [if_neg e, if_neg e]
          obtain ⟨y1, y2, y3, y4, y5⟩ := hc2.2.2.2.2.2 k k0 k2
          refine ⟨by rw [(gA (b + 9) _ (by rcases hb with e | e <;> omega)).1]; exact y1, by rw [(gA (b + 10) _ (by rcases hb with e | e <;> omega)).1]; exact y2, seg_fr _ _ y4 (fun j a c => (gA (b + 8) j (by rcases hb with e | e <;> omega)).1) y3, y4, by omega⟩
      · exact hd2.1.fr (by omega) (fun j _ _ => (gR 2 j (by omega)).1) (fun j => (gR 13 j (by omega)).1)
      · rw [(gR 2 34 (by omega)).1]; exact hd2.2.1
      · exact hd2.2.2.1.F gR (fun k j w => by omega)
      · exact hd2.2.2.2.1.F gR (fun k j w => by omega)
      · unfold uK
        by_cases e : k = v1
        · rw [if_pos e, e]
          exact ⟨x5.2.1, x5.2.2.1⟩
        · rw [if_neg e]
          obtain ⟨y1, y2⟩ := hd2.2.2.2.2 k k0 k2
          have hl := (hKG k k0 k2).2
          exact ⟨by rw [(gR 16 _ (by omega)).1]; exact y1, rsg_fr _ _ (by omega) (fun j a c => ⟨(gR 14 j (by omega)).1, (gR 15 j (by omega)).1⟩) y2⟩
    · have f3n : ¬ f3 = -1 := by omega
      have i3 := x1.1.in_
      refine ⟨μ3, ν3, s3, f3, ?_, x1.1, mc, hrunR, x2, mr, fun w => absurd w f3n⟩
      simp (disch := omega) only [fX5_adjustLine, Int.reduceEq, Int.reduceNe, Int.reduceLT, Int.reduceLE, Int.reduceAdd, Int.reduceSub, Int.reduceMul, Int.reduceNeg, Int.zero_add, Int.add_zero, nm_eq, bd_some, bv_some, aI_ok, aL_ok, aS_ok, dv_ok, dw_ok, I_add, I_sub, I_mul, I_neg, I_lt, I_le, I_eq, I_nat, J_add, J_sub, J_mul, J_neg, J_lt, J_le, J_eq, I_l, J_i, I_div, J_div, b2_0, b2_1, b2_nar, nar_0, nar_1, zr_0, zr_1, zr_b2, cmp_eq, cmp_le, cmp_lt, cmp_gt, cmp_ge, mx_I, mn_I, mx_L, mn_L, az_I, if_true, if_false, not_true_eq_false, not_false_eq_true, Bool.false_eq_true, i_0, i_1, i_2, i_3, i_4, i_5, i_6, i_7, i_8, i_9, i_10, i_11, i_12, i_16, i_18, i_20, i_24, i_28, i_29, i_30, i_31, i_32, i_33, i_34, i_35, i_37, i_40, i_41, i_42, i_43, i_45, i_46, i_47, i_48, i_57, i_59, i_63, i_64, i_96, i_97, i_98, i_99, i_100, i_101, i_102, i_103, i_104, i_105, i_106, i_107, i_108, i_109, i_110, i_111, i_112, i_113, i_122, i_200, i_255, i_256, i_257, i_258, i_355, i_400, i_999, i_1000, i_1200, i_5680, i_9999, i_10000, i_99999, j_0, j_1, j_2, j_3, j_4, j_5, j_6, j_9, j_10, j_11, j_98, j_99, j_100, j_999, j_1000, j_9999, j_10000, j_99999, j_1000000, e1, a1, a3.2.2.2.2.2.1, hgB, hc2.2.2.2.2.1, b1, x1.1.2.1, f3n]
  · have gr : Fr (fun k j => k = 0 ∧ j = 26) ν2 (stI ν2 0 26 (I_ y1)) := Fr.rf.stI ⟨rfl, rfl⟩
    have a4' := a4.F gr (fun k j q => by omega)
    refine ⟨μ2, stI ν2 0 26 (I_ y1), s2, f2, ?_, a3, m0, ?_, a4', m1.tr (gr.mono (fun k j q => by unfold P_rd; omega)), fun q => absurd q hf⟩
    · simp (disch := omega) only [fX5_adjustLine, Int.reduceEq, Int.reduceNe, Int.reduceLT, Int.reduceLE, Int.reduceAdd, Int.reduceSub, Int.reduceMul, Int.reduceNeg, Int.zero_add, Int.add_zero, nm_eq, bd_some, bv_some, aI_ok, aL_ok, aS_ok, dv_ok, dw_ok, I_add, I_sub, I_mul, I_neg, I_lt, I_le, I_eq, I_nat, J_add, J_sub, J_mul, J_neg, J_lt, J_le, J_eq, I_l, J_i, I_div, J_div, b2_0, b2_1, b2_nar, nar_0, nar_1, zr_0, zr_1, zr_b2, cmp_eq, cmp_le, cmp_lt, cmp_gt, cmp_ge, mx_I, mn_I, mx_L, mn_L, az_I, if_true, if_false, not_true_eq_false, not_false_eq_true, Bool.false_eq_true, i_0, i_1, i_2, i_3, i_4, i_5, i_6, i_7, i_8, i_9, i_10, i_11, i_12, i_16, i_18, i_20, i_24, i_28, i_29, i_30, i_31, i_32, i_33, i_34, i_35, i_37, i_40, i_41, i_42, i_43, i_45, i_46, i_47, i_48, i_57, i_59, i_63, i_64, i_96, i_97, i_98, i_99, i_100, i_101, i_102, i_103, i_104, i_105, i_106, i_107, i_108, i_109, i_110, i_111, i_112, i_113, i_122, i_200, i_255, i_256, i_257, i_258, i_355, i_400, i_999, i_1000, i_1200, i_5680, i_9999, i_10000, i_99999, j_0, j_1, j_2, j_3, j_4, j_5, j_6, j_9, j_10, j_11, j_98, j_99, j_100, j_999, j_1000, j_9999, j_10000, j_99999, j_1000000, e1, a1, a3.2.2.2.2.2.1, hgB, c_rsf a3 hf hN, a3.2.1, hf]
    · simp (disch := omega) only [fX11_adjustLine, Int.reduceEq, Int.reduceNe, Int.reduceLT, Int.reduceLE, Int.reduceAdd, Int.reduceSub, Int.reduceMul, Int.reduceNeg, Int.zero_add, Int.add_zero, nm_eq, bd_some, bv_some, aI_ok, aL_ok, aS_ok, dv_ok, dw_ok, I_add, I_sub, I_mul, I_neg, I_lt, I_le, I_eq, I_nat, J_add, J_sub, J_mul, J_neg, J_lt, J_le, J_eq, I_l, J_i, I_div, J_div, b2_0, b2_1, b2_nar, nar_0, nar_1, zr_0, zr_1, zr_b2, cmp_eq, cmp_le, cmp_lt, cmp_gt, cmp_ge, mx_I, mn_I, mx_L, mn_L, az_I, if_true, if_false, not_true_eq_false, not_false_eq_true, Bool.false_eq_true, i_0, i_1, i_2, i_3, i_4, i_5, i_6, i_7, i_8, i_9, i_10, i_11, i_12, i_16, i_18, i_20, i_24, i_28, i_29, i_30, i_31, i_32, i_33, i_34, i_35, i_37, i_40, i_41, i_42, i_43, i_45, i_46, i_47, i_48, i_57, i_59, i_63, i_64, i_96, i_97, i_98, i_99, i_100, i_101, i_102, i_103, i_104, i_105, i_106, i_107, i_108, i_109, i_110, i_111, i_112, i_113, i_122, i_200, i_255, i_256, i_257, i_258, i_355, i_400, i_999, i_1000, i_1200, i_5680, i_9999, i_10000, i_99999, j_0, j_1, j_2, j_3, j_4, j_5, j_6, j_9, j_10, j_11, j_98, j_99, j_100, j_999, j_1000, j_9999, j_10000, j_99999, j_1000000, a2, a4'.wq, hf]
end
