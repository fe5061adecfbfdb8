/-! The lines: silent, cost, firm, model. -/
section
variable {T : Int → Int} {n : Int} {N b : Nat} {μ μ' ν ν' : Mem} {s f : Int} {V : Vw} {Lm Lf : Int → Int} {Am Af : Int → Int → Int} {K : Int → List Int} {fo : Int → Int} {q : Int}
theorem PC.set (h : PC b V Lm Am Lf Af K fo q μ) {k0 z0 v : Int} (hk0 : 14 ≤ k0) (hk1 : k0 ≤ 16) (hz : 0 ≤ z0) : PC b (vset V k0 z0 v) Lm Am Lf Af K fo q (stI μ (b + 12 + k0.toNat) z0.toNat (I_ v)) := by
  have gb : Fr (fun k j => k = b + 12 + k0.toNat) μ (stI μ (b + 12 + k0.toNat) z0.toNat (I_ v)) := Fr.rf.stI rfl
  refine ⟨?_, ?_, ?_, ?_, ?_⟩
  · rw [vs_s (by omega), vs_m (by omega)]
    exact h.1.set (by unfold okk; omega) hz
  · rw [vs_s (by omega), st_ne (by omega)]; exact h.2.1
  · rw [vs_m (by omega)]; exact h.2.2.1.F gb (fun k j q => by omega)
  · rw [vs_f (by omega)]; exact h.2.2.2.1.F gb (fun k j q => by omega)
  · exact h.2.2.2.2.fr (fun k j a c => by rw [st_ne (by omega)])
theorem PD.set (hV : vB V) (h : PD V Lm Am Lf Af K ν) {k0 z0 v : Int} (hk0 : 14 ≤ k0) (hk1 : k0 ≤ 16) (hz : 0 ≤ z0) (hz1 : z0 < szv 40 6 k0) : PD (vset V k0 z0 v) Lm Am Lf Af K (stI ν 2 (dI k0 z0) (I_ v)) := by
  have hn := hV.1
  unfold vN at hn
  have gr : Fr (fun k j => k = 2) ν (stI ν 2 (dI k0 z0) (I_ v)) := Fr.rf.stI rfl
  have ok : okk k0 := by unfold okk; omega
  have i1 := dI_in (c0 := 40) (c1 := 6) ok (by omega) hz hz1 (by omega)
  refine ⟨?_, ?_, ?_, ?_, ?_⟩
  · rw [vs_s (by omega), vs_m (by omega)]
    have e13 : (stI ν 2 (dI k0 z0) (I_ v)).1 13 = ν.1 13 := funext (fun j => st_ne (by omega) j)
    rw [e13]
    exact h.1.set (by omega) (by omega) ok (by omega) hz hz1 at_S (fun j a _ _ => by rw [st_I, if_neg (fun q => a q.2)])
  · rw [vs_s (by omega), st_I, if_neg (fun q => i1.2.1 q.2.symm)]; exact h.2.1
  · rw [vs_m (by omega)]; exact h.2.2.1.F gr (fun k j q => by omega)
  · rw [vs_f (by omega)]; exact h.2.2.2.1.F gr (fun k j q => by omega)
  · exact h.2.2.2.2.fr (fun k j a c => by rw [st_ne (by omega)])
theorem PPu.set (h : PPu V Lm Am Lf Af K) {k0 z0 v : Int} (hk0 : 14 ≤ k0) (hv : vB (vset V k0 z0 v)) : PPu (vset V k0 z0 v) Lm Am Lf Af K := ⟨hv, by rw [vs_m (by omega)]; exact h.2.1, by rw [vs_f (by omega)]; exact h.2.2.1, h.2.2.2⟩
theorem l_silent (hT : tB T n) (hN : 500 ≤ N) (hb : kB b) (hC : CR T n b s (-1) μ) (hX : RX T n s (-1) ν) (hs : sk T n s = s) {k : Nat} (hk : k < 35) (hw : isW T n s k = true) (hP : PPu V Lm Am Lf Af K) (hc : PC b V Lm Am Lf Af K fo q μ) (hd : PD V Lm Am Lf Af K ν) (q0 : 0 ≤ q) (q1 : q ≤ s) : LT T n b s μ ν (fX5_silentLine N μ) (bd (fX11_told N (I_ 1) (stI ν 0 16 (I_ (s + lw_ k)))) fun r13 μ => bd (fX11_isWrong N μ) fun r14 μ => (if r14 = I_ 0 then aS 355 (I_ 24 + r13) <| nm (stI μ 2 (I_ 24 + r13).toNatClampNeg (I_ 1)) fun μ => some ((), μ) else aS 355 (I_ 24 + r13) <| nm (stI μ 2 (I_ 24 + r13).toNatClampNeg (I_ 0)) fun μ => some ((), μ))) := by
  obtain ⟨w2, hR, k6, sn⟩ := r_kw hT hX hs hk hw
  have ci := hC.in_
  have n1 := hT.2.1
  have hnx := nx_in (T := T) (n := n) (s := s) (by omega)
  have hP' := hP
  obtain ⟨hV, hNm, hNf, hKG⟩ := hP'
  have hn := hV.1
  unfold vN at hn
  have hgB : ∀ {β : Type} (k : Nat → Option β), gB b k = k b := fun k => if_pos hb
  have kN4 : kN (b + 4) := by unfold kN; rcases hb with e | e <;> omega
  obtain ⟨μ1, e1, e2, e3⟩ := c_step hT hN hC
  have hc1 := hc.p1 hb e3
  obtain ⟨μ2, f1, f2, f3⟩ := c_told (N := N) hT hN kN4 hNf e2 hc1.2.2.2.1
  have hd1 := hd.at_ hV (P_a16 (v := I_ (s + lw_ k)) Fr.rf)
  obtain ⟨ν2, g1, g2, g3⟩ := r_told (N := N) (g := 1) (qc := 19) hT hN (Or.inr ⟨rfl, rfl, by omega⟩) hNf hR (by rw [if_neg (by decide)]; exact hd1.2.2.2.1) (by omega) (by omega)
  have hc2 := hc1.p1 hb f3
  have hd2 := hd1.at_ hV g3
  have ftd := fnd_nat (P := pP Lf Af) (p := wpk T n (nx T n s)) hNf.1
  by_cases ho : 0 ≤ tdx T n (nx T n s) (fN V) (pP Lf Af)
  · obtain ⟨_, _, t1, t2⟩ := tdx_ok (by omega) hT hNf ho
    rw [oS_y ho, oF_y ho] at f2 g2
    rw [if_pos rfl] at f1
    rw [if_pos ⟨rfl, ho⟩] at g1
    generalize tdx T n (nx T n s) (fN V) (pP Lf Af) = x at *
    have gb : Fr (fun k j => k = b + 27) μ2 (stI μ2 (b + 27) x.toNat (I_ 1)) := Fr.rf.stI rfl
    have gr : Fr (fun k j => k = 2) ν2 (stI ν2 2 (24 + x).toNat (I_ 1)) := Fr.rf.stI rfl
    have hnx2 := nx_in (T := T) (n := n) (s := nx T n s) (by omega)
    refine ⟨_, _, _, _, ?_, f2.bk hb gb (fun k j q => by omega), ((e3.mono (fun k j q => p1_sp q)).tr (f3.mono (fun k j q => p1_sp q))).tr (gb.mono (fun k j q => Or.inr ⟨by omega, by omega⟩)), ?_, g2.F gr (fun k j q => by omega), ((P_a16 Fr.rf).tr g3).mono (fun k j q => at_rd q) |>.tr (gr.mono (fun k j q => Or.inr (Or.inl q))), fun _ => ⟨by omega, vset V 15 x 1, Lm, Am, Lf, Af, K, fo, q, hP.set (by omega) ?_, hc2.set (k0 := 15) (by omega) (by omega) (by omega), hd2.set hV (k0 := 15) (by omega) (by omega) (by omega) (by show x < 4; omega), q0, by omega⟩⟩
    · simp (disch := omega) only [fX5_silentLine, Int.reduceEq, Int.reduceNe, Int.reduceLT, Int.reduceLE, Int.reduceAdd, Int.reduceSub, Int.reduceMul, Int.reduceNeg, Int.zero_add, Int.add_zero, nm_eq, bd_some, bv_some, aI_ok, aL_ok, aS_ok, dv_ok, dw_ok, I_add, I_sub, I_mul, I_neg, I_lt, I_le, I_eq, I_nat, J_add, J_sub, J_mul, J_neg, J_lt, J_le, J_eq, I_l, J_i, I_div, J_div, b2_0, b2_1, b2_nar, nar_0, nar_1, zr_0, zr_1, zr_b2, cmp_eq, cmp_le, cmp_lt, cmp_gt, cmp_ge, mx_I, mn_I, mx_L, mn_L, az_I, if_true, if_false, not_true_eq_false, not_false_eq_true, Bool.false_eq_true, i_0, i_1, i_2, i_3, i_4, i_5, i_6, i_7, i_8, i_9, i_10, i_11, i_12, i_16, i_18, i_20, i_24, i_28, i_29, i_30, i_31, i_32, i_33, i_34, i_35, i_37, i_40, i_41, i_42, i_43, i_45, i_46, i_47, i_48, i_57, i_59, i_63, i_64, i_96, i_97, i_98, i_99, i_100, i_101, i_102, i_103, i_104, i_105, i_106, i_107, i_108, i_109, i_110, i_111, i_112, i_113, i_122, i_200, i_255, i_256, i_257, i_258, i_355, i_400, i_999, i_1000, i_1200, i_5680, i_9999, i_10000, i_99999, j_0, j_1, j_2, j_3, j_4, j_5, j_6, j_9, j_10, j_11, j_98, j_99, j_100, j_999, j_1000, j_9999, j_10000, j_99999, j_1000000, e1, e2.2.2.2.2.2.1, f2.2.2.2.2.2.1, hgB, f1, f2.2.1]
    · simp (disch := omega) only [Int.reduceEq, Int.reduceNe, Int.reduceLT, Int.reduceLE, Int.reduceAdd, Int.reduceSub, Int.reduceMul, Int.reduceNeg, Int.zero_add, Int.add_zero, nm_eq, bd_some, bv_some, aI_ok, aL_ok, aS_ok, dv_ok, dw_ok, I_add, I_sub, I_mul, I_neg, I_lt, I_le, I_eq, I_nat, J_add, J_sub, J_mul, J_neg, J_lt, J_le, J_eq, I_l, J_i, I_div, J_div, b2_0, b2_1, b2_nar, nar_0, nar_1, zr_0, zr_1, zr_b2, cmp_eq, cmp_le, cmp_lt, cmp_gt, cmp_ge, mx_I, mn_I, mx_L, mn_L, az_I, if_true, if_false, not_true_eq_false, not_false_eq_true, Bool.false_eq_true, i_0, i_1, i_2, i_3, i_4, i_5, i_6, i_7, i_8, i_9, i_10, i_11, i_12, i_16, i_18, i_20, i_24, i_28, i_29, i_30, i_31, i_32, i_33, i_34, i_35, i_37, i_40, i_41, i_42, i_43, i_45, i_46, i_47, i_48, i_57, i_59, i_63, i_64, i_96, i_97, i_98, i_99, i_100, i_101, i_102, i_103, i_104, i_105, i_106, i_107, i_108, i_109, i_110, i_111, i_112, i_113, i_122, i_200, i_255, i_256, i_257, i_258, i_355, i_400, i_999, i_1000, i_1200, i_5680, i_9999, i_10000, i_99999, j_0, j_1, j_2, j_3, j_4, j_5, j_6, j_9, j_10, j_11, j_98, j_99, j_100, j_999, j_1000, j_9999, j_10000, j_99999, j_1000000, g1, g2.wq]
    · exact vB_set hV (by decide) (fun y a c => vS_set hV (by decide) a c) (by decide) (fun q => absurd q (by decide)) (fun _ => by omega) (fun q => absurd q (by decide))
  · rw [oS_n ho, oF_n ho] at f2 g2
    rw [if_neg (fun q => ho q.2)] at g1
    have gr : Fr (fun k j => k = 2) ν2 (stI ν2 2 (24 : Int).toNat (I_ 0)) := Fr.rf.stI rfl
    refine ⟨μ2, stI ν2 2 (24 : Int).toNat (I_ 0), nx T n s, nx T n s, ?_, f2, (e3.mono (fun k j q => p1_sp q)).tr (f3.mono (fun k j q => p1_sp q)), ?_, g2.F gr (fun k j q => by omega), ((P_a16 Fr.rf).tr g3).mono (fun k j q => at_rd q) |>.tr (gr.mono (fun k j q => Or.inr (Or.inl q))), fun hf => by omega⟩
    · have nf : ¬ nx T n s = -1 := by omega
      have tb : -1 ≤ tdx T n (nx T n s) (fN V) (pP Lf Af) ∧ tdx T n (nx T n s) (fN V) (pP Lf Af) ≤ 10 := by unfold tdx; split <;> omega
      simp (disch := omega) only [fX5_silentLine, Int.reduceEq, Int.reduceNe, Int.reduceLT, Int.reduceLE, Int.reduceAdd, Int.reduceSub, Int.reduceMul, Int.reduceNeg, Int.zero_add, Int.add_zero, nm_eq, bd_some, bv_some, aI_ok, aL_ok, aS_ok, dv_ok, dw_ok, I_add, I_sub, I_mul, I_neg, I_lt, I_le, I_eq, I_nat, J_add, J_sub, J_mul, J_neg, J_lt, J_le, J_eq, I_l, J_i, I_div, J_div, b2_0, b2_1, b2_nar, nar_0, nar_1, zr_0, zr_1, zr_b2, cmp_eq, cmp_le, cmp_lt, cmp_gt, cmp_ge, mx_I, mn_I, mx_L, mn_L, az_I, if_true, if_false, not_true_eq_false, not_false_eq_true, Bool.false_eq_true, i_0, i_1, i_2, i_3, i_4, i_5, i_6, i_7, i_8, i_9, i_10, i_11, i_12, i_16, i_18, i_20, i_24, i_28, i_29, i_30, i_31, i_32, i_33, i_34, i_35, i_37, i_40, i_41, i_42, i_43, i_45, i_46, i_47, i_48, i_57, i_59, i_63, i_64, i_96, i_97, i_98, i_99, i_100, i_101, i_102, i_103, i_104, i_105, i_106, i_107, i_108, i_109, i_110, i_111, i_112, i_113, i_122, i_200, i_255, i_256, i_257, i_258, i_355, i_400, i_999, i_1000, i_1200, i_5680, i_9999, i_10000, i_99999, j_0, j_1, j_2, j_3, j_4, j_5, j_6, j_9, j_10, j_11, j_98, j_99, j_100, j_999, j_1000, j_9999, j_10000, j_99999, j_1000000, e1, e2.2.2.2.2.2.1, hgB, f1, f2.2.1, nf]
    · have nf : ¬ nx T n s = -1 := by omega
      simp (disch := omega) only [Int.reduceEq, Int.reduceNe, Int.reduceLT, Int.reduceLE, Int.reduceAdd, Int.reduceSub, Int.reduceMul, Int.reduceNeg, Int.zero_add, Int.add_zero, nm_eq, bd_some, bv_some, aI_ok, aL_ok, aS_ok, dv_ok, dw_ok, I_add, I_sub, I_mul, I_neg, I_lt, I_le, I_eq, I_nat, J_add, J_sub, J_mul, J_neg, J_lt, J_le, J_eq, I_l, J_i, I_div, J_div, b2_0, b2_1, b2_nar, nar_0, nar_1, zr_0, zr_1, zr_b2, cmp_eq, cmp_le, cmp_lt, cmp_gt, cmp_ge, mx_I, mn_I, mx_L, mn_L, az_I, if_true, if_false, not_true_eq_false, not_false_eq_true, Bool.false_eq_true, i_0, i_1, i_2, i_3, i_4, i_5, i_6, i_7, i_8, i_9, i_10, i_11, i_12, i_16, i_18, i_20, i_24, i_28, i_29, i_30, i_31, i_32, i_33, i_34, i_35, i_37, i_40, i_41, i_42, i_43, i_45, i_46, i_47, i_48, i_57, i_59, i_63, i_64, i_96, i_97, i_98, i_99, i_100, i_101, i_102, i_103, i_104, i_105, i_106, i_107, i_108, i_109, i_110, i_111, i_112, i_113, i_122, i_200, i_255, i_256, i_257, i_258, i_355, i_400, i_999, i_1000, i_1200, i_5680, i_9999, i_10000, i_99999, j_0, j_1, j_2, j_3, j_4, j_5, j_6, j_9, j_10, j_11, j_98, j_99, j_100, j_999, j_1000, j_9999, j_10000, j_99999, j_1000000, g1, g2.wq, nf]
/-! primitives on both sides at once -/
theorem B_num (hT : tB T n) (hN : 500 ≤ N) {lo hi : Int} (l0 : 0 ≤ lo) (l1 : lo ≤ hi) (l2 : hi ≤ 99999) (hC : CR T n b s f μ) (hR : RR T n s f ν) : ∃ (μ' ν' : Mem) (s' f' v w : Int), fX5_number N (I_ lo) (I_ hi) μ = some (I_ v, μ') ∧ fX11_numberIn N (I_ lo) (I_ hi) ν = some (I_ w, ν') ∧ CR T n b s' f' μ' ∧ RR T n s' f' ν' ∧ Fr P_1 μ μ' ∧ Fr P_at ν ν' ∧ s ≤ s' ∧ (-1 ≤ v ∧ v ≤ 99999) ∧ (lo ≤ w ∧ w ≤ hi) ∧ (f' = -1 → f = -1 ∧ v = w ∧ s < s') := by
  have ci := hC.in_
  obtain ⟨μ', f1, f2, f3⟩ := c_number (N := N) hT hN l0 l1 l2 hC
  obtain ⟨ν', g1, g2, g3⟩ := r_numberIn (N := N) hT hN l0 l1 l2 hR
  have bs := oS_in (T := T) (n := n) (ok := nOK T n s 5 lo hi = true) (s := s) (f := f) (by omega)
  refine ⟨μ', ν', _, _, _, _, f1, g1, f2, g2, f3, g3, bs.1, ?_, ?_, fun hf => ?_⟩
  · split
    · rename_i h
      have := h.2
      rw [nOK_y] at this
      omega
    · omega
  · split
    · rename_i h
      have := h.2
      rw [nOK_y] at this
      omega
    · omega
  · obtain ⟨u1, ok⟩ := oF_ok (by omega) hf
    subst u1
    have ok' := ok
    rw [nOK_y] at ok'
    rw [if_pos ⟨rfl, ok⟩, if_pos ⟨rfl, ok⟩, oS_y ok]
    have := (kd_257 ok'.1 hT).1
    have := nx_in (T := T) (n := n) (s := s) (by omega)
    exact ⟨rfl, rfl, by omega⟩
theorem B_told (hT : tB T n) (hN : 500 ≤ N) (hb : kB b) {g c : Int} {t qc : Nat} {L : Int → Int} {A : Int → Int → Int} (hg : (g = 0 ∧ qc = 18 ∧ c ≤ 6 ∧ t = b + 1) ∨ (g = 1 ∧ qc = 19 ∧ c ≤ 4 ∧ t = b + 4)) (hV : NV c L A) (hNC : NC t c L A μ) (hNR : NR (if g = 0 then 11 else 12) qc c (pP L A) ν) (hC : CR T n b s f μ) (hR : RR T n s f ν) : ∃ (μ' ν' : Mem) (s' f' v w : Int), fX5_toldName N t μ = some (I_ v, μ') ∧ fX11_told N (I_ g) ν = some (I_ w, ν') ∧ CR T n b s' f' μ' ∧ RR T n s' f' ν' ∧ Fr P_1 μ μ' ∧ Fr P_at ν ν' ∧ s ≤ s' ∧ (-1 ≤ v ∧ v ≤ 10) ∧ (0 ≤ w ∧ w ≤ 10) ∧ (f' = -1 → f = -1 ∧ v = w ∧ s < s' ∧ v < c) := by
  have ci := hC.in_
  have kNt : kN t := by unfold kN; rcases hb with e | e <;> omega
  have c6 := hV.2.1
  have c0 := hV.1
  obtain ⟨μ', f1, f2, f3⟩ := c_told (N := N) hT hN kNt hV hC hNC
  obtain ⟨ν', g1, g2, g3⟩ := r_told (N := N) (g := g) (qc := qc) hT hN (by omega) hV hR hNR (by omega) (by omega)
  have bs := oS_in (T := T) (n := n) (ok := 0 ≤ tdx T n s c (pP L A)) (s := s) (f := f) (by omega)
  have tb : -1 ≤ tdx T n s c (pP L A) ∧ tdx T n s c (pP L A) ≤ 10 := by
    have := fnd_nat (P := pP L A) (p := wpk T n s) c0
    unfold tdx
    split <;> omega
  refine ⟨μ', ν', _, _, _, _, f1, g1, f2, g2, f3, g3, bs.1, ?_, ?_, fun hf => ?_⟩
  · split <;> omega
  · split
    · rename_i h
      have := h.2
      omega
    · omega
  · obtain ⟨u1, ok⟩ := oF_ok (by omega) hf
    subst u1
    have ta := tdx_ok (by omega) hT hV ok
    rw [if_pos rfl, if_pos ⟨rfl, ok⟩, oS_y ok]
    have := (kd_256 ta.1 hT).1
    have := nx_in (T := T) (n := n) (s := s) (by omega)
    exact ⟨rfl, rfl, by omega, ta.2.2.2⟩
theorem B_mkt (hT : tB T n) (hN : 500 ≤ N) (hC : CR T n b s f μ) (hR : RR T n s f ν) : ∃ (μ' ν' : Mem) (s' f' v w : Int), fX5_marketWord N μ = some (I_ v, μ') ∧ fX11_marketHere N ν = some (I_ w, ν') ∧ CR T n b s' f' μ' ∧ RR T n s' f' ν' ∧ Fr P_1 μ μ' ∧ Fr P_at ν ν' ∧ s ≤ s' ∧ (-1 ≤ v ∧ v ≤ 2) ∧ (0 ≤ w ∧ w ≤ 2) ∧ (f' = -1 → f = -1 ∧ v = w) := by
  have ci := hC.in_
  obtain ⟨μ', f1, f2, f3⟩ := c_market (N := N) hT hN hC
  obtain ⟨ν', g1, g2, g3⟩ := r_marketHere (N := N) hT hN hR
  have bs := oS_in (T := T) (n := n) (ok := 0 ≤ mkt T n s) (s := s) (f := f) (by omega)
  have mb := mkt_in T n s
  refine ⟨μ', ν', _, _, _, _, f1, g1, f2, g2, f3, g3, bs.1, ?_, ?_, fun hf => ?_⟩
  · split <;> omega
  · split
    · rename_i h
      have := h.2
      omega
    · omega
  · obtain ⟨u1, ok⟩ := oF_ok (by omega) hf
    subst u1
    rw [if_pos rfl, if_pos ⟨rfl, ok⟩]
    exact ⟨rfl, rfl⟩
theorem l_cost (hT : tB T n) (hN : 500 ≤ N) (hb : kB b) (hC : CR T n b s (-1) μ) (hX : RX T n s (-1) ν) (hs : sk T n s = s) {k : Nat} (hk : k < 35) (hw : isW T n s k = true) (hP : PPu V Lm Am Lf Af K) (hc : PC b V Lm Am Lf Af K fo q μ) (hd : PD V Lm Am Lf Af K ν) (q0 : 0 ≤ q) (q1 : q ≤ s) : LT T n b s μ ν (fX5_costLine N μ) (fX11_costLine N (stI ν 0 16 (I_ (s + lw_ k)))) := by
  obtain ⟨w2, hR, k6, sn⟩ := r_kw hT hX hs hk hw
  have ci := hC.in_
  have hnx := nx_in (T := T) (n := n) (s := s) (by omega)
  have hP' := hP
  obtain ⟨hV, hNm, hNf, hKG⟩ := hP'
  have hn := hV.1
  unfold vN at hn
  have hgB : ∀ {β : Type} (k : Nat → Option β), gB b k = k b := fun k => if_pos hb
  obtain ⟨μ1, e1, e2, e3⟩ := c_step hT hN hC
  have hc1 := hc.p1 hb e3
  have hd1 := hd.at_ hV (P_a16 (v := I_ (s + lw_ k)) Fr.rf)
  obtain ⟨μ2, ν2, s2, f2, v2, x2, a1, a2, a3, a4, a5, a6, a7, a8, a9, a10⟩ := B_told (N := N) (g := 1) (qc := 19) (t := b + 4) hT hN hb (Or.inr ⟨rfl, rfl, by omega, rfl⟩) hNf hc1.2.2.2.1 (by rw [if_neg (by decide)]; exact hd1.2.2.2.1) e2 hR
  have hc2 := hc1.p1 hb a5
  have hd2 := hd1.at_ hV a6
  obtain ⟨μ3, ν3, s3, f3, v3, x3, b1, b2', b3, b4, b5, b6, b7, b8, b9, b10⟩ := B_told (N := N) (g := 0) (qc := 18) (t := b + 1) hT hN hb (Or.inl ⟨rfl, rfl, by omega, rfl⟩) hNm hc2.2.2.1 (by rw [if_pos rfl]; exact hd2.2.2.1) a3 a4
  have hc3 := hc2.p1 hb b5
  have hd3 := hd2.at_ hV b6
  obtain ⟨μ4, ν4, s4, f4, v4, x4, c1, c2, c3, c4, c5, c6, c7, c8, c9, c10⟩ := B_num (N := N) (lo := 1) (hi := 9999) hT hN (by omega) (by omega) (by omega) b3 b4
  have hc4 := hc3.p1 hb c5
  have hd4 := hd3.at_ hV c6
  have i4 := c3.in_
  have m0 : Fr (P_sp b) μ μ4 := ((e3.tr a5).tr (b5.tr c5)).mono (fun k j q => p1_sp q)
  have m1 : Fr P_rd ν ν4 := (((P_a16 Fr.rf).tr a6).tr (b6.tr c6)).mono (fun k j q => at_rd q)
  by_cases hf : f4 = -1
  · obtain ⟨u1, u2, u3⟩ := c10 hf
    obtain ⟨u4, u5, u6, u7⟩ := b10 u1
    obtain ⟨u8, u9, u10, u11⟩ := a10 u4
    have gb : Fr (fun k j => k = b + 26) μ4 (stI μ4 (b + 26) (v2 * 6 + v3).toNat (I_ v4)) := Fr.rf.stI rfl
    have gr : Fr (fun k j => k = 2) ν4 (stI ν4 2 (v2 * 6 + v3).toNat (I_ v4)) := Fr.rf.stI rfl
    refine ⟨_, _, _, _, ?_, c3.bk hb gb (fun k j q => by omega), m0.tr (gb.mono (fun k j q => Or.inr ⟨by omega, by omega⟩)), ?_, c4.F gr (fun k j q => by omega), m1.tr (gr.mono (fun k j q => Or.inr (Or.inl q))), fun _ => ⟨by omega, vset V 14 (v2 * 6 + v3) v4, Lm, Am, Lf, Af, K, fo, q, hP.set (by omega) ?_, hc4.set (k0 := 14) (by omega) (by omega) (by omega), hd4.set hV (k0 := 14) (by omega) (by omega) (by omega) (by show v2 * 6 + v3 < 24; omega), q0, by omega⟩⟩
    · simp (disch := omega) only [fX5_costLine, Int.reduceEq, Int.reduceNe, Int.reduceLT, Int.reduceLE, Int.reduceAdd, Int.reduceSub, Int.reduceMul, Int.reduceNeg, Int.zero_add, Int.add_zero, nm_eq, bd_some, bv_some, aI_ok, aL_ok, aS_ok, dv_ok, dw_ok, I_add, I_sub, I_mul, I_neg, I_lt, I_le, I_eq, I_nat, J_add, J_sub, J_mul, J_neg, J_lt, J_le, J_eq, I_l, J_i, I_div, J_div, b2_0, b2_1, b2_nar, nar_0, nar_1, zr_0, zr_1, zr_b2, cmp_eq, cmp_le, cmp_lt, cmp_gt, cmp_ge, mx_I, mn_I, mx_L, mn_L, az_I, if_true, if_false, not_true_eq_false, not_false_eq_true, Bool.false_eq_true, i_0, i_1, i_2, i_3, i_4, i_5, i_6, i_7, i_8, i_9, i_10, i_11, i_12, i_16, i_18, i_20, i_24, i_28, i_29, i_30, i_31, i_32, i_33, i_34, i_35, i_37, i_40, i_41, i_42, i_43, i_45, i_46, i_47, i_48, i_57, i_59, i_63, i_64, i_96, i_97, i_98, i_99, i_100, i_101, i_102, i_103, i_104, i_105, i_106, i_107, i_108, i_109, i_110, i_111, i_112, i_113, i_122, i_200, i_255, i_256, i_257, i_258, i_355, i_400, i_999, i_1000, i_1200, i_5680, i_9999, i_10000, i_99999, j_0, j_1, j_2, j_3, j_4, j_5, j_6, j_9, j_10, j_11, j_98, j_99, j_100, j_999, j_1000, j_9999, j_10000, j_99999, j_1000000, e1, e2.2.2.2.2.2.1, a3.2.2.2.2.2.1, c3.2.2.2.2.2.1, hgB, a1, b1, c1, c3.2.1, hf]
    · have em : 6 * x2 + x3 = v2 * 6 + v3 := by omega
      rw [← u2] at c2
      simp (disch := omega) only [fX11_costLine, Int.reduceEq, Int.reduceNe, Int.reduceLT, Int.reduceLE, Int.reduceAdd, Int.reduceSub, Int.reduceMul, Int.reduceNeg, Int.zero_add, Int.add_zero, nm_eq, bd_some, bv_some, aI_ok, aL_ok, aS_ok, dv_ok, dw_ok, I_add, I_sub, I_mul, I_neg, I_lt, I_le, I_eq, I_nat, J_add, J_sub, J_mul, J_neg, J_lt, J_le, J_eq, I_l, J_i, I_div, J_div, b2_0, b2_1, b2_nar, nar_0, nar_1, zr_0, zr_1, zr_b2, cmp_eq, cmp_le, cmp_lt, cmp_gt, cmp_ge, mx_I, mn_I, mx_L, mn_L, az_I, if_true, if_false, not_true_eq_false, not_false_eq_true, Bool.false_eq_true, i_0, i_1, i_2, i_3, i_4, i_5, i_6, i_7, i_8, i_9, i_10, i_11, i_12, i_16, i_18, i_20, i_24, i_28, i_29, i_30, i_31, i_32, i_33, i_34, i_35, i_37, i_40, i_41, i_42, i_43, i_45, i_46, i_47, i_48, i_57, i_59, i_63, i_64, i_96, i_97, i_98, i_99, i_100, i_101, i_102, i_103, i_104, i_105, i_106, i_107, i_108, i_109, i_110, i_111, i_112, i_113, i_122, i_200, i_255, i_256, i_257, i_258, i_355, i_400, i_999, i_1000, i_1200, i_5680, i_9999, i_10000, i_99999, j_0, j_1, j_2, j_3, j_4, j_5, j_6, j_9, j_10, j_11, j_98, j_99, j_100, j_999, j_1000, j_9999, j_10000, j_99999, j_1000000, a2, b2', c2, c4.wq, em, hf]
    · exact vB_set hV (by decide) (fun y a c => vS_set hV (by decide) a c) (by decide) (fun _ => by omega) (fun q => absurd q (by decide)) (fun q => absurd q (by decide))
  · refine ⟨μ4, ν4, s4, f4, ?_, c3, m0, ?_, c4, m1, fun q => absurd q hf⟩
    · simp (disch := omega) only [fX5_costLine, Int.reduceEq, Int.reduceNe, Int.reduceLT, Int.reduceLE, Int.reduceAdd, Int.reduceSub, Int.reduceMul, Int.reduceNeg, Int.zero_add, Int.add_zero, nm_eq, bd_some, bv_some, aI_ok, aL_ok, aS_ok, dv_ok, dw_ok, I_add, I_sub, I_mul, I_neg, I_lt, I_le, I_eq, I_nat, J_add, J_sub, J_mul, J_neg, J_lt, J_le, J_eq, I_l, J_i, I_div, J_div, b2_0, b2_1, b2_nar, nar_0, nar_1, zr_0, zr_1, zr_b2, cmp_eq, cmp_le, cmp_lt, cmp_gt, cmp_ge, mx_I, mn_I, mx_L, mn_L, az_I, if_true, if_false, not_true_eq_false, not_false_eq_true, Bool.false_eq_true, i_0, i_1, i_2, i_3, i_4, i_5, i_6, i_7, i_8, i_9, i_10, i_11, i_12, i_16, i_18, i_20, i_24, i_28, i_29, i_30, i_31, i_32, i_33, i_34, i_35, i_37, i_40, i_41, i_42, i_43, i_45, i_46, i_47, i_48, i_57, i_59, i_63, i_64, i_96, i_97, i_98, i_99, i_100, i_101, i_102, i_103, i_104, i_105, i_106, i_107, i_108, i_109, i_110, i_111, i_112, i_113, i_122, i_200, i_255, i_256, i_257, i_258, i_355, i_400, i_999, i_1000, i_1200, i_5680, i_9999, i_10000, i_99999, j_0, j_1, j_2, j_3, j_4, j_5, j_6, j_9, j_10, j_11, j_98, j_99, j_100, j_999, j_1000, j_9999, j_10000, j_99999, j_1000000, e1, e2.2.2.2.2.2.1, a3.2.2.2.2.2.1, hgB, a1, b1, c1, c3.2.1, hf]
    · simp (disch := omega) only [fX11_costLine, Int.reduceEq, Int.reduceNe, Int.reduceLT, Int.reduceLE, Int.reduceAdd, Int.reduceSub, Int.reduceMul, Int.reduceNeg, Int.zero_add, Int.add_zero, nm_eq, bd_some, bv_some, aI_ok, aL_ok, aS_ok, dv_ok, dw_ok, I_add, I_sub, I_mul, I_neg, I_lt, I_le, I_eq, I_nat, J_add, J_sub, J_mul, J_neg, J_lt, J_le, J_eq, I_l, J_i, I_div, J_div, b2_0, b2_1, b2_nar, nar_0, nar_1, zr_0, zr_1, zr_b2, cmp_eq, cmp_le, cmp_lt, cmp_gt, cmp_ge, mx_I, mn_I, mx_L, mn_L, az_I, if_true, if_false, not_true_eq_false, not_false_eq_true, Bool.false_eq_true, i_0, i_1, i_2, i_3, i_4, i_5, i_6, i_7, i_8, i_9, i_10, i_11, i_12, i_16, i_18, i_20, i_24, i_28, i_29, i_30, i_31, i_32, i_33, i_34, i_35, i_37, i_40, i_41, i_42, i_43, i_45, i_46, i_47, i_48, i_57, i_59, i_63, i_64, i_96, i_97, i_98, i_99, i_100, i_101, i_102, i_103, i_104, i_105, i_106, i_107, i_108, i_109, i_110, i_111, i_112, i_113, i_122, i_200, i_255, i_256, i_257, i_258, i_355, i_400, i_999, i_1000, i_1200, i_5680, i_9999, i_10000, i_99999, j_0, j_1, j_2, j_3, j_4, j_5, j_6, j_9, j_10, j_11, j_98, j_99, j_100, j_999, j_1000, j_9999, j_10000, j_99999, j_1000000, a2, b2', c2, c4.wq, hf]
/-! names that are new -/
theorem NV_new {c : Int} {L : Int → Int} {A : Int → Int → Int} (hV : NV c L A) (c5 : c < 6) (hs : s ≤ n) (h : nwK T n s c (pP L A) = true) : NV (c + 1) (naL c L (we T n s - s)) (naA c A (fun j => T (s + j))) := by
  rw [nwK_y, nmK_y] at h
  obtain ⟨⟨o1, o2, o3⟩, _⟩ := h
  refine ⟨by have := hV.1; omega, by omega, fun i i0 i1 => ?_⟩
  unfold naL naA
  by_cases e : i = c
  · subst e
    rw [if_pos rfl]
    have e2 : (fun j => if i = i then (fun j => T (s + j)) j else A i j) = fun j => T (s + j) := funext (fun j => if_pos rfl)
    rw [e2]
    exact ⟨⟨o1, o2⟩, w_lets hs, w_nkw o3⟩
  · rw [if_neg e]
    have e2 : (fun j => if i = c then (fun j => T (s + j)) j else A i j) = A i := funext (fun j => if_neg e)
    rw [e2]
    exact hV.2.2 i i0 (by omega)
theorem pP_new {c : Int} {L : Int → Int} {A : Int → Int → Int} : pP (naL c L (we T n s - s)) (naA c A (fun j => T (s + j))) c = wpk T n s := by
  unfold pP naL naA wpk
  rw [if_pos rfl]
  have e2 : (fun j => if c = c then (fun j => T (s + j)) j else A c j) = fun j => T (s + j) := funext (fun j => if_pos rfl)
  rw [e2]
theorem pP_old {c i l : Int} {L : Int → Int} {A : Int → Int → Int} {a : Int → Int} (h : ¬ i = c) : pP (naL c L l) (naA c A a) i = pP L A i := by
  unfold pP naL naA
  rw [if_neg h]
  have e2 : (fun j => if i = c then a j else A i j) = A i := funext (fun j => if_neg h)
  rw [e2]
theorem NR_new {c : Int} {L : Int → Int} {A : Int → Int → Int} {qc r : Nat} (hr : ¬ r = 0) (h : NR r qc c (pP L A) ν) (c0 : 0 ≤ c) (hqc : ¬ qc = 99) : NR r qc (c + 1) (pP (naL c L (we T n s - s)) (naA c A (fun j => T (s + j)))) (stI (stI ν r c.toNat (I_ (wpk T n s))) 0 qc (I_ (c + 1))) := by
  refine ⟨at_S, fun i i0 i1 => ?_⟩
  rw [st_ne hr]
  by_cases e : i = c
  · rw [e, at_S, pP_new]
  · rw [st_I, if_neg (by omega), pP_old e]
    exact h.2 i i0 (by omega)
theorem B_new (hT : tB T n) (hN : 500 ≤ N) (hb : kB b) {g c : Int} {t qc : Nat} {L : Int → Int} {A : Int → Int → Int} (hg : (g = 0 ∧ qc = 18 ∧ c < 6 ∧ t = b + 1) ∨ (g = 1 ∧ qc = 19 ∧ c < 4 ∧ t = b + 4)) (hV : NV c L A) (hNC : NC t c L A μ) (hNR : NR (if g = 0 then 11 else 12) qc c (pP L A) ν) (hC : CR T n b s (-1) μ) (hR : RR T n s (-1) ν) : ∃ (μ' ν' : Mem) (s' f' w : Int), fX5_newName N t μ = some ((), μ') ∧ fX11_fresh N (I_ g) ν = some (I_ w, ν') ∧ CR T n b s' f' μ' ∧ RR T n s' f' ν' ∧ Fr (P_1n t) μ μ' ∧ Fr P_at ν ν' ∧ s ≤ s' ∧ (0 ≤ w ∧ w ≤ 1000000000) ∧ (f' = -1 → s < s' ∧ w = wpk T n s ∧ nwK T n s c (pP L A) = true ∧ NC t (c + 1) (naL c L (we T n s - s)) (naA c A (fun j => T (s + j))) μ') := by
  have ci := hC.in_
  have kNt : kN t := by unfold kN; rcases hb with e | e <;> omega
  obtain ⟨μ', f1, f2, f3, f4⟩ := c_new (N := N) hT hN kNt (by omega) hV hC hNC
  obtain ⟨ν', g1, g2, g3⟩ := r_fresh (N := N) (g := g) (qc := qc) hT hN (by omega) hV hR hNR (by omega) (by omega)
  have bs := oS_in (T := T) (n := n) (ok := nwK T n s c (pP L A) = true) (s := s) (f := -1) (by omega)
  refine ⟨μ', ν', _, _, _, f1, g1, f2, g2, f3, g3, bs.1, ?_, fun hf => ?_⟩
  · split
    · rename_i h
      have hh := h.2
      rw [nwK_y] at hh
      have := wpk_in ci.2.1 hh.1
      omega
    · omega
  · obtain ⟨u1, ok⟩ := oF_ok (by omega) hf
    rw [if_pos ⟨rfl, ok⟩, oS_y ok]
    have ok' := ok
    rw [nwK_y] at ok'
    have k6 := nmK_256 ci.2.1 ok'.1
    have := (kd_256 k6 hT).1
    have := nx_in (T := T) (n := n) (s := s) (by omega)
    exact ⟨by omega, rfl, ok, f4 rfl ok⟩
end
