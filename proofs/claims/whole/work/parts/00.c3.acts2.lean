/-! The law's cases of the acts. -/
section
variable {N b : Nat} {μ μ' ν ν' : Mem} {V V1 : Vw} {Lm Lf : Int → Int} {Am Af : Int → Int → Int} {K : Int → List Int} {fo : Int → Int} {q nx : Int} {G : Nat → Vw} {a : Nat}
theorem PC.setk (h : PC b V Lm Am Lf Af K fo q μ) {k0 z0 v : Int} (hk : okk k0) (hz : 0 ≤ z0) : PC b (vset V k0 z0 v) Lm Am Lf Af K fo q (stI μ (b + 12 + k0.toNat) z0.toNat (I_ v)) := by
  have hk' := hk
  unfold okk at hk'
  have gb : Fr (fun k j => k = b + 12 + k0.toNat) μ (stI μ (b + 12 + k0.toNat) z0.toNat (I_ v)) := Fr.rf.stI rfl
  refine ⟨?_, ?_, ?_, ?_, ?_⟩
  · rw [vs_s (by omega), vs_m (by omega)]
    exact h.1.set hk hz
  · rw [vs_s (by omega), st_ne (by omega)]; exact h.2.1
  · rw [vs_m (by omega)]; exact h.2.2.1.F gb (fun k j q => by omega)
  · rw [vs_f (by omega)]; exact h.2.2.2.1.F gb (fun k j q => by omega)
  · exact h.2.2.2.2.fr (fun k j a c => by rw [st_ne (by omega)])
/-- a place is told again as it was -/
theorem AG_set {k0 z0 v w : Int} (hk : ¬ k0 = 0) (hw : V k0 z0 = w) : AG V (vset (vset V k0 z0 v) k0 z0 w) := by
  have e : vset (vset V k0 z0 v) k0 z0 w = V := by
    funext x y
    unfold vset
    by_cases h : x = k0 ∧ y = z0
    · rw [if_pos h, h.1, h.2]; exact hw.symm
    · rw [if_neg h, if_neg h]
  rw [e]
  exact ⟨rfl, rfl, rfl, fun _ _ _ _ _ => rfl⟩
theorem AG_setW {k0 z0 v w : Int} (hk : ¬ k0 = 0) (hw : V k0 z0 = w) : AG V (vset (vW K (vset V k0 z0 v)) k0 z0 w) := by
  refine ⟨?_, ?_, ?_, fun x y hx _ _ => ?_⟩
  · rw [vs_s hk, vW_s, vs_s hk]
  · rw [vs_m hk, vW_m, vs_m hk]
  · rw [vs_f hk, vW_f, vs_f hk]
  · show V x y = (if x = k0 ∧ y = z0 then w else vW K (vset V k0 z0 v) x y)
    by_cases h : x = k0 ∧ y = z0
    · rw [if_pos h, h.1, h.2]; exact hw
    · rw [if_neg h, vW_ok x y hx]
      unfold vset
      rw [if_neg h]
/-- the reference keeps what was -/
theorem r_rem0 (hN : 20000 ≤ N) (hA : FA b (G 0) Lm Am Lf Af K fo q μ ν) (hB : FB K G a nx μ ν) (V1 : Vw) : ∃ ν1, fX11_remembers N (stI ν 0 0 (I_ 0)) = some ((), ν1) ∧ HS (gSh V1 G) (min 16 (a + 1)) ν1 ∧ ν1.1 0 30 = I_ 0 ∧ ν1.1 0 0 = I_ 0 ∧ PE (G 0) Lm Am Lf Af K ν1 ∧ Fr P_ar ν ν1 := by
  obtain ⟨h1, h2, h3, h4, h5, h6, h7, h8, h9⟩ := hA
  have g0 : Fr (fun k j => k = 0 ∧ j = 0) ν (stI ν 0 0 (I_ 0)) := Fr.rf.stI ⟨rfl, rfl⟩
  have hP0 := h8.fr h1.1 (ν' := stI ν 0 0 (I_ 0)) (fun k j hk => (g0 k j (by omega)).1)
  have hS0 := hB.2.1.fr (ν' := stI ν 0 0 (I_ 0)) (fun k j hk => (g0 k j (by omega)).1)
  obtain ⟨ν1, a1, a2, a3, a4⟩ := r_rem (V1 := V1) hN hB.1.2.2.2.1 hB.sN hP0 hS0
  refine ⟨ν1, a1, a2, a3, ?_, hP0.fr h1.1 (fun k j hk => (a4 k j (by omega)).1), (g0.mono (fun k j w => by unfold P_ar; omega)).tr (a4.mono (fun k j w => ar_rm w))⟩
  rw [(a4 0 0 (by omega)).1, at_S]
theorem FA.refuse {z : Mem × Mem} (hN : 500 ≤ N) (hA : FA b (G 0) Lm Am Lf Af K fo q μ ν) (hB : FB K G a nx μ ν) (hC : FC b μ) (hT : FT μ ν) (hR : FR μ ν) (k : Int32) : Rl μ (stI ν 0 0 k) := Rl_q (N := N) hA hB hC hT hR (q_x (hA.rq hN) k)
theorem A9 (hN : 20000 ≤ N) (v : Nat → Int32) (h : Rl μ ν) : ∃ z, lawC9 N v μ ν = some z ∧ Rl z.1 z.2 := by
  obtain ⟨b, Lm, Am, Lf, Af, K, fo, q, G, a, nx, hA, hB, hC, hT, hR⟩ := h
  obtain ⟨hV, hW, hK, hRk⟩ := hA.rq (N := N) (by omega)
  have hn := hV.1
  unfold vN at hn
  have hb := hK.1.1
  obtain ⟨p, e, p0, p1⟩ := I_ex (v 1)
  by_cases hp : 0 ≤ p ∧ p < sN (G 0) ∧ s_li (G 0) p = 1
  · have hv := hV.2.1 p hp.1 hp.2.1
    have hV1 : vB (vset (G 0) 10 p 0) := vB_set hV (by decide) (fun y y0 y1 => by
      have hy := hV.2.1 y y0 y1
      unfold vS at hy ⊢
      rw [vs_f (by decide), vs_m (by decide)]
      unfold s_mk s_fm s_md s_lv s_mo s_mn s_pr s_of s_nt s_li at hy ⊢
      rw [vset_ne (by decide), vset_ne (by decide), vset_ne (by decide), vset_ne (by decide), vset_ne (by decide), vset_ne (by decide), vset_ne (by decide), vset_ne (by decide), vset_ne (by decide), vset_at]
      split <;> omega) (by decide) (fun w => absurd w (by decide)) (fun w => absurd w (by decide)) (fun w => absurd w (by decide))
    have hoz : ∀ y, offz K (vset (G 0) 10 p 0) y = offz K (G 0) y ∧ netz K (vset (G 0) 10 p 0) y = netz K (G 0) y := fun y => offz_ag (fun k c d => vset_ne (by omega)) (vset_ne (by decide)) (vset_ne (by decide))
    have hE1 : vE K (vset (G 0) 10 p 0) := fun y y0 y1 => by
      rw [(hoz y).1, (hoz y).2]
      rw [vs_s (by decide)] at y1
      exact hA.2.1 y y0 y1
    obtain ⟨ν1, r1, r2, r3, r4, r5, r6⟩ := r_rem0 (N := N) hN hA hB (vset (G 0) 10 p 0)
    have hPC1 := hA.2.2.2.2.1.setk (k0 := 10) (z0 := p) (v := 0) (ok_ (by omega) (by omega) (by omega) (by omega)) hp.1
    have gb : Fr (fun k j => k = b + 22) μ (stI μ (b + 12 + (10 : Int).toNat) p.toNat (I_ 0)) := Fr.rf.stI rfl
    have hRG1 := hB.1.fr (μ' := stI μ (b + 12 + (10 : Int).toNat) p.toNat (I_ 0)) (fun k j hk => (gb k j (by rcases hb with e | e <;> omega)).1)
    obtain ⟨μ2, k1, k2, k3⟩ := c_keep (N := N) (V1 := vset (G 0) 10 p 0) (kn := 1) (pl := p) (ol := 0) hRG1 ⟨AG_set (by decide) hp.2.2, by omega, hp.1, fun _ => by rw [vs_s (by decide)]; exact hp.2.1, fun w => by omega, fun w => by omega, fun w => by omega, by omega, fun w => by omega⟩
    have gk : ∀ k j, b ≤ k → k ≤ b + 28 → μ2.1 k j = (stI μ (b + 12 + (10 : Int).toNat) p.toNat (I_ 0)).1 k j := fun k j c d => (k3 k j (by rcases hb with e | e <;> omega)).1
    refine ⟨(μ2, stI ν1 1 (dI 10 p) (I_ 0)), ?_, ?_⟩
    · have k1' : fX0_keep N (I_ 1) (I_ p) (I_ 0) (stI μ (b + 22) p.toNat (I_ 0)) = some ((), μ2) := k1
      have d10 : (35 + 8 * p + 7).toNat = dI 10 p := rfl
      have t0 : (stI ν1 1 (dI 10 p) (I_ 0)).1 0 0 = I_ 0 := by rw [st_ne (by omega)]; exact r4
      simp (disch := omega) only [lawC9, fL_drop, fX10_drop, fX11_drop, fX11_drop_14, fX11_thrown, Int.reduceEq, Int.reduceNe, Int.reduceLT, Int.reduceLE, Int.reduceAdd, Int.reduceSub, Int.reduceMul, Int.reduceNeg, Int.zero_add, Int.add_zero, nm_eq, bd_some, bv_some, aI_ok, aL_ok, aS_ok, dv_ok, dw_ok, I_add, I_sub, I_mul, I_neg, I_lt, I_le, I_eq, I_nat, J_add, J_sub, J_mul, J_neg, J_lt, J_le, J_eq, I_l, J_i, I_div, J_div, b2_0, b2_1, b2_nar, nar_0, nar_1, zr_0, zr_1, zr_b2, cmp_eq, cmp_le, cmp_lt, cmp_gt, cmp_ge, mx_I, mn_I, mx_L, mn_L, az_I, if_true, if_false, not_true_eq_false, not_false_eq_true, Bool.false_eq_true, i_0, i_1, i_2, i_3, i_4, i_5, i_6, i_7, i_8, i_9, i_10, i_11, i_12, i_16, i_18, i_20, i_24, i_28, i_29, i_30, i_31, i_32, i_33, i_34, i_35, i_37, i_40, i_41, i_42, i_43, i_45, i_46, i_47, i_48, i_57, i_59, i_63, i_64, i_96, i_97, i_98, i_99, i_100, i_101, i_102, i_103, i_104, i_105, i_106, i_107, i_108, i_109, i_110, i_111, i_112, i_113, i_122, i_200, i_255, i_256, i_257, i_258, i_355, i_400, i_999, i_1000, i_1200, i_5680, i_9999, i_10000, i_99999, j_0, j_1, j_2, j_3, j_4, j_5, j_6, j_9, j_10, j_11, j_98, j_99, j_100, j_999, j_1000, j_9999, j_10000, j_99999, j_1000000, e, c_needS_y hV hK hp, bx_l, bh_l, hK.2, gB_k hK.1.1, k1', r_isSale hV hRk.1, b2_t hp, at_S, r1, d10, t0]
    · refine Rl_a (G := G) (G' := gSh (vset (G 0) 10 p 0) G) hA hC hT hR ?_ ?_ hV1 hE1 (vs_m (by decide)) (vs_f (by decide)) (hPC1.fr gk) ?_ (r5.set hV (ok_ (by omega) (by omega) (by omega) (by omega)) (by omega) hp.1 (by show p < 40; omega)) ?_ (FB_new hB hV1 hE1 k2 (r2.fr (fun k j hk => st_ne (by omega) j)))
      · exact (gb.mono (fun k j w => ac_du (by omega))).tr (k3.mono (fun k j w => ac_kp w))
      · exact r6.tr (Fr.rf.stI (Or.inl rfl))
      · exact ON.ag hV hA.2.1 hE1 (by show sN (vset (G 0) 10 p 0) ≤ _; rw [vs_s (by decide)]; omega) hA.2.2.2.2.2.1 (fun k y c d y0 y1 => vset_ne (by omega)) (fun p c d => vset_ne (by decide)) (fun m c d => vset_ne (by decide)) (fun k j w => by rw [gk _ _ (by omega) (by omega)]; exact (gb _ _ (by omega)).1)
      · rw [st_ne (by omega)]; exact r3
  · refine ⟨(μ, stI ν 0 0 (I_ 1)), ?_, hA.refuse (N := N) (z := (μ, μ)) (by omega) hB hC hT hR (I_ 1)⟩
    simp (disch := omega) only [lawC9, fL_drop, fX10_drop, fX11_drop, fX11_drop_14, fX11_thrown, Int.reduceEq, Int.reduceNe, Int.reduceLT, Int.reduceLE, Int.reduceAdd, Int.reduceSub, Int.reduceMul, Int.reduceNeg, Int.zero_add, Int.add_zero, nm_eq, bd_some, bv_some, aI_ok, aL_ok, aS_ok, dv_ok, dw_ok, I_add, I_sub, I_mul, I_neg, I_lt, I_le, I_eq, I_nat, J_add, J_sub, J_mul, J_neg, J_lt, J_le, J_eq, I_l, J_i, I_div, J_div, b2_0, b2_1, b2_nar, nar_0, nar_1, zr_0, zr_1, zr_b2, cmp_eq, cmp_le, cmp_lt, cmp_gt, cmp_ge, mx_I, mn_I, mx_L, mn_L, az_I, if_true, if_false, not_true_eq_false, not_false_eq_true, Bool.false_eq_true, i_0, i_1, i_2, i_3, i_4, i_5, i_6, i_7, i_8, i_9, i_10, i_11, i_12, i_16, i_18, i_20, i_24, i_28, i_29, i_30, i_31, i_32, i_33, i_34, i_35, i_37, i_40, i_41, i_42, i_43, i_45, i_46, i_47, i_48, i_57, i_59, i_63, i_64, i_96, i_97, i_98, i_99, i_100, i_101, i_102, i_103, i_104, i_105, i_106, i_107, i_108, i_109, i_110, i_111, i_112, i_113, i_122, i_200, i_255, i_256, i_257, i_258, i_355, i_400, i_999, i_1000, i_1200, i_5680, i_9999, i_10000, i_99999, j_0, j_1, j_2, j_3, j_4, j_5, j_6, j_9, j_10, j_11, j_98, j_99, j_100, j_999, j_1000, j_9999, j_10000, j_99999, j_1000000, e, c_needS_n hV hK p0 p1 hp, bx_r, bh_r, r_isSale hV hRk.1, b2_f hp, at_S]
end
