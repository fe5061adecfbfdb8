/-! What is read so far, on both sides. -/
def CU (b : Nat) (q : Int) (K : Int → List Int) (fo : Int → Int) (μ : Mem) : Prop := μ.1 (b + 7) 4 = I_ q ∧ ∀ k, 0 ≤ k → k ≤ 2 → μ.1 (b + 9) k.toNat = I_ (fo k) ∧ μ.1 (b + 10) k.toNat = I_ (fo k + (K k).length) ∧ seg (b + 8) μ (fo k) (K k) ∧ 0 ≤ fo k ∧ fo k + (K k).length ≤ q
def RU (K : Int → List Int) (ν : Mem) : Prop := ∀ k, 0 ≤ k → k ≤ 2 → ν.1 16 k.toNat = I_ (K k).length ∧ rsg ν (400 * k) (K k)
def KG (K : Int → List Int) : Prop := ∀ k, 0 ≤ k → k ≤ 2 → (K k = [] ∨ gd (K k) 0 1) ∧ (K k).length ≤ 400
def PPu (V : Vw) (Lm : Int → Int) (Am : Int → Int → Int) (Lf : Int → Int) (Af : Int → Int → Int) (K : Int → List Int) : Prop := vB V ∧ NV (mN V) Lm Am ∧ NV (fN V) Lf Af ∧ KG K
def PC (b : Nat) (V : Vw) (Lm : Int → Int) (Am : Int → Int → Int) (Lf : Int → Int) (Af : Int → Int → Int) (K : Int → List Int) (fo : Int → Int) (q : Int) (μ : Mem) : Prop := CBg b V (sN V) (mN V) μ ∧ μ.1 (b + 12) 10 = I_ (sN V) ∧ NC (b + 1) (mN V) Lm Am μ ∧ NC (b + 4) (fN V) Lf Af μ ∧ CU b q K fo μ
def PD (V : Vw) (Lm : Int → Int) (Am : Int → Int → Int) (Lf : Int → Int) (Af : Int → Int → Int) (K : Int → List Int) (ν : Mem) : Prop := WF V (sN V) (mN V) (ν.1 2) (ν.1 13) ∧ ν.1 2 34 = I_ (sN V) ∧ NR 11 18 (mN V) (pP Lm Am) ν ∧ NR 12 19 (fN V) (pP Lf Af) ν ∧ RU K ν
def PBx (b : Nat) (s : Int) (μ ν : Mem) : Prop := ∃ V Lm Am Lf Af K fo q, PPu V Lm Am Lf Af K ∧ PC b V Lm Am Lf Af K fo q μ ∧ PD V Lm Am Lf Af K ν ∧ 0 ≤ q ∧ q ≤ s
def P_sp (b k _ : Nat) : Prop := k = 1 ∨ (b ≤ k ∧ k ≤ b + 28)
def P_rd (k j : Nat) : Prop := (k = 0 ∧ ((16 ≤ j ∧ j ≤ 19) ∨ j = 26 ∨ j = 27 ∨ j = 29)) ∨ k = 2 ∨ (11 ≤ k ∧ k ≤ 17)
section
variable {T : Int → Int} {n : Int} {N b : Nat} {μ μ' ν ν' : Mem} {s f : Int} {V : Vw} {Lm Lf : Int → Int} {Am Af : Int → Int → Int} {K : Int → List Int} {fo : Int → Int} {q : Int}
theorem CU.fr (h : CU b q K fo μ) (g : ∀ k j, b + 7 ≤ k → k ≤ b + 10 → μ'.1 k j = μ.1 k j) : CU b q K fo μ' := by
  refine ⟨by rw [g _ _ (by omega) (by omega)]; exact h.1, fun k h0 h1 => ?_⟩
  obtain ⟨a1, a2, a3, a4⟩ := h.2 k h0 h1
  refine ⟨by rw [g _ _ (by omega) (by omega)]; exact a1, by rw [g _ _ (by omega) (by omega)]; exact a2, seg_fr _ _ a4.1 (fun j _ _ => g _ _ (by omega) (by omega)) a3, a4⟩
theorem RU.fr (h : RU K ν) (g : ∀ k j, 14 ≤ k → k ≤ 16 → ν'.1 k j = ν.1 k j) : RU K ν' := fun k h0 h1 => by
  obtain ⟨a1, a2⟩ := h k h0 h1
  exact ⟨by rw [g _ _ (by omega) (by omega)]; exact a1, rsg_fr _ _ (by omega) (fun j _ _ => ⟨g _ _ (by omega) (by omega), g _ _ (by omega) (by omega)⟩) a2⟩
theorem PC.fr (h : PC b V Lm Am Lf Af K fo q μ) (g : ∀ k j, b ≤ k → k ≤ b + 28 → μ'.1 k j = μ.1 k j) : PC b V Lm Am Lf Af K fo q μ' := by
  obtain ⟨h1, h2, h3, h4, h5⟩ := h
  have gn : ∀ t, b ≤ t → t + 2 ≤ b + 28 → ∀ c L A, NC t c L A μ → NC t c L A μ' := fun t t0 t1 c L A h => ⟨by rw [g _ _ (by omega) (by omega)]; exact h.1, fun i i0 i1 => ⟨by rw [g _ _ (by omega) (by omega)]; exact (h.2 i i0 i1).1, fun j j0 j1 => by rw [g _ _ (by omega) (by omega)]; exact (h.2 i i0 i1).2 j j0 j1⟩⟩
  exact ⟨h1.fr (fun k j a c => g k j (by omega) (by omega)), by rw [g _ _ (by omega) (by omega)]; exact h2, gn _ (by omega) (by omega) _ _ _ h3, gn _ (by omega) (by omega) _ _ _ h4, h5.fr (fun k j a c => g k j (by omega) (by omega))⟩
theorem PC.p1 (hb : kB b) (h : PC b V Lm Am Lf Af K fo q μ) (g : Fr P_1 μ μ') : PC b V Lm Am Lf Af K fo q μ' := h.fr (fun k j a c => (g k j (by unfold P_1; rcases hb with e | e <;> omega)).1)
theorem PD.fr (hV : vB V) (h : PD V Lm Am Lf Af K ν) (g : ∀ k j, (k = 0 ∧ (j = 18 ∨ j = 19)) ∨ k = 2 ∨ (11 ≤ k ∧ k ≤ 16) → ν'.1 k j = ν.1 k j) : PD V Lm Am Lf Af K ν' := by
  obtain ⟨h1, h2, h3, h4, h5⟩ := h
  have hn := hV.1
  unfold vN at hn
  refine ⟨h1.fr (by omega) (fun j _ _ => g 2 j (by omega)) (fun j => g 13 j (by omega)), by rw [g _ _ (by omega)]; exact h2, ⟨by rw [g _ _ (by omega)]; exact h3.1, fun i i0 i1 => by rw [g _ _ (by omega)]; exact h3.2 i i0 i1⟩, ⟨by rw [g _ _ (by omega)]; exact h4.1, fun i i0 i1 => by rw [g _ _ (by omega)]; exact h4.2 i i0 i1⟩, h5.fr (fun k j a c => g k j (by omega))⟩
theorem PD.at_ (hV : vB V) (h : PD V Lm Am Lf Af K ν) (g : Fr P_at ν ν') : PD V Lm Am Lf Af K ν' := h.fr hV (fun k j a => (g k j (by unfold P_at; omega)).1)
theorem p1_sp {k j : Nat} (h : P_1 k j) : P_sp b k j := Or.inl h
theorem at_rd {k j : Nat} (h : P_at k j) : P_rd k j := Or.inl ⟨h.1, by have := h.2; omega⟩
theorem CR.bk (hb : kB b) (h : CR T n b s f μ) {P : Nat → Nat → Prop} (g : Fr P μ μ') (hp : ∀ k j, P k j → b ≤ k) : CR T n b s f μ' := h.F g (fun k j q => by have := hp k j q; rcases hb with e | e <;> omega)
/-- the word at s is taken by the reference -/
theorem r_kw (hT : tB T n) (hX : RX T n s (-1) ν) (hs : sk T n s = s) {k : Nat} (hk : k < 35) (hw : isW T n s k = true) : s + lw_ k ≤ n ∧ RR T n (nx T n s) (-1) (stI ν 0 16 (I_ (s + lw_ k))) ∧ kd T n s = 256 ∧ s < n := by
  have i0 := hX.2.2.2.2.1
  have h1 := (isW_1 hk hw).1
  have hwe := we_in (T := T) (n := n) (i := s) (by omega)
  have hl := lw_in hk
  have k6 : kd T n s = 256 := by
    by_cases q : s < n ∧ cLe (T s) = true
    · exact kd_y q.1 q.2
    · exact absurd hw (isW_nl hk q)
  have k3 := kd_256 k6 hT
  refine ⟨by omega, ⟨s + lw_ k, hX.at (by omega) (by omega), fun _ => ?_⟩, k6, k3.1⟩
  unfold nx
  rw [k3.2.2, show we T n s = s + lw_ k by omega]
/-- how a line is done on both sides -/
def LT (T : Int → Int) (n : Int) (b : Nat) (s : Int) (μ ν : Mem) (c : Option (Unit × Mem)) (r : Option (Unit × Mem)) : Prop := ∃ (μ' ν' : Mem) (s' f' : Int), c = some ((), μ') ∧ CR T n b s' f' μ' ∧ Fr (P_sp b) μ μ' ∧ r = some ((), ν') ∧ RR T n s' f' ν' ∧ Fr P_rd ν ν' ∧ (f' = -1 → s < s' ∧ PBx b s' μ' ν')
theorem l_set (hT : tB T n) (hN : 500 ≤ N) (hb : kB b) (hC : CR T n b s (-1) μ) (hX : RX T n s (-1) ν) (hs : sk T n s = s) {k : Nat} (hk : k < 35) (hw : isW T n s k = true) (hP : PPu V Lm Am Lf Af K) (hc : PC b V Lm Am Lf Af K fo q μ) (hd : PD V Lm Am Lf Af K ν) (q0 : 0 ≤ q) (q1 : q ≤ s) {w : Int} (w0 : 4 ≤ w) (w1 : w ≤ 5) : LT T n b s μ ν (fX5_settingLine N (I_ w) μ) (bd (fX11_numberIn N (I_ 0) (I_ 99) (stI ν 0 16 (I_ (s + lw_ k)))) fun r μ => nm (stI μ 2 (28 + w).toNat r) fun μ => some ((), μ)) := by
  obtain ⟨w2, hR, k6, sn⟩ := r_kw hT hX hs hk hw
  have ci := hC.in_
  have n1 := hT.2.1
  have hnx := nx_in (T := T) (n := n) (s := s) (by omega)
  obtain ⟨hV, hNm, hNf, hKG⟩ := hP
  have hgB : ∀ {β : Type} (k : Nat → Option β), gB b k = k b := fun k => if_pos hb
  obtain ⟨μ1, e1, e2, e3⟩ := c_step hT hN hC
  obtain ⟨μ2, f1, f2, f3⟩ := c_number (N := N) (lo := 0) (hi := 99) hT hN (by omega) (by omega) (by omega) e2
  obtain ⟨ν2, g1, g2, g3⟩ := r_numberIn (N := N) (lo := 0) (hi := 99) hT hN (by omega) (by omega) (by omega) hR
  have bs := oS_in (T := T) (n := n) (ok := nOK T n (nx T n s) 5 0 99 = true) (s := nx T n s) (f := -1) (by omega)
  have gb : Fr (fun k j => k = b + 28) μ2 (stI μ2 (b + 28) w.toNat (I_ (if (-1 : Int) = -1 ∧ nOK T n (nx T n s) 5 0 99 = true then nv T n (nx T n s) else -1))) := Fr.rf.stI rfl
  have gr : Fr (fun k j => k = 2) ν2 (stI ν2 2 (28 + w).toNat (I_ (if (-1 : Int) = -1 ∧ nOK T n (nx T n s) 5 0 99 = true then nv T n (nx T n s) else 0))) := Fr.rf.stI rfl
  refine ⟨_, _, _, _, ?_, f2.bk hb gb (fun k j q => by omega), ((e3.mono (fun k j q => p1_sp q)).tr (f3.mono (fun k j q => p1_sp q))).tr (gb.mono (fun k j q => Or.inr ⟨by omega, by omega⟩)), ?_, g2.F gr (fun k j q => by omega), ((P_a16 Fr.rf).tr g3).mono (fun k j q => at_rd q) |>.tr (gr.mono (fun k j q => Or.inr (Or.inl q))), fun hf => ?_⟩
  · simp (disch := omega) only [fX5_settingLine, Int.reduceEq, Int.reduceNe, Int.reduceLT, Int.reduceLE, Int.reduceAdd, Int.reduceSub, Int.reduceMul, Int.reduceNeg, Int.zero_add, Int.add_zero, nm_eq, bd_some, bv_some, aI_ok, aL_ok, aS_ok, dv_ok, dw_ok, I_add, I_sub, I_mul, I_neg, I_lt, I_le, I_eq, I_nat, J_add, J_sub, J_mul, J_neg, J_lt, J_le, J_eq, I_l, J_i, I_div, J_div, b2_0, b2_1, b2_nar, nar_0, nar_1, zr_0, zr_1, zr_b2, cmp_eq, cmp_le, cmp_lt, cmp_gt, cmp_ge, mx_I, mn_I, mx_L, mn_L, az_I, if_true, if_false, not_true_eq_false, not_false_eq_true, Bool.false_eq_true, i_0, i_1, i_2, i_3, i_4, i_5, i_6, i_7, i_8, i_9, i_10, i_11, i_12, i_16, i_18, i_20, i_24, i_28, i_29, i_30, i_31, i_32, i_33, i_34, i_35, i_37, i_40, i_41, i_42, i_43, i_45, i_46, i_47, i_48, i_57, i_59, i_63, i_64, i_96, i_97, i_98, i_99, i_100, i_101, i_102, i_103, i_104, i_105, i_106, i_107, i_108, i_109, i_110, i_111, i_112, i_113, i_122, i_200, i_255, i_256, i_257, i_258, i_355, i_400, i_999, i_1000, i_1200, i_5680, i_9999, i_10000, i_99999, j_0, j_1, j_2, j_3, j_4, j_5, j_6, j_9, j_10, j_11, j_98, j_99, j_100, j_999, j_1000, j_9999, j_10000, j_99999, j_1000000, e1, e2.2.2.2.2.2.1, hgB, f1]
  · simp (disch := omega) only [Int.reduceEq, Int.reduceNe, Int.reduceLT, Int.reduceLE, Int.reduceAdd, Int.reduceSub, Int.reduceMul, Int.reduceNeg, Int.zero_add, Int.add_zero, nm_eq, bd_some, bv_some, aI_ok, aL_ok, aS_ok, dv_ok, dw_ok, I_add, I_sub, I_mul, I_neg, I_lt, I_le, I_eq, I_nat, J_add, J_sub, J_mul, J_neg, J_lt, J_le, J_eq, I_l, J_i, I_div, J_div, b2_0, b2_1, b2_nar, nar_0, nar_1, zr_0, zr_1, zr_b2, cmp_eq, cmp_le, cmp_lt, cmp_gt, cmp_ge, mx_I, mn_I, mx_L, mn_L, az_I, if_true, if_false, not_true_eq_false, not_false_eq_true, Bool.false_eq_true, i_0, i_1, i_2, i_3, i_4, i_5, i_6, i_7, i_8, i_9, i_10, i_11, i_12, i_16, i_18, i_20, i_24, i_28, i_29, i_30, i_31, i_32, i_33, i_34, i_35, i_37, i_40, i_41, i_42, i_43, i_45, i_46, i_47, i_48, i_57, i_59, i_63, i_64, i_96, i_97, i_98, i_99, i_100, i_101, i_102, i_103, i_104, i_105, i_106, i_107, i_108, i_109, i_110, i_111, i_112, i_113, i_122, i_200, i_255, i_256, i_257, i_258, i_355, i_400, i_999, i_1000, i_1200, i_5680, i_9999, i_10000, i_99999, j_0, j_1, j_2, j_3, j_4, j_5, j_6, j_9, j_10, j_11, j_98, j_99, j_100, j_999, j_1000, j_9999, j_10000, j_99999, j_1000000, g1]
  · obtain ⟨_, ho⟩ := oF_ok (by omega) hf
    rw [oS_y ho]
    have hnx2 := nx_in (T := T) (n := n) (s := nx T n s) (by omega)
    have ho' := ho
    rw [nOK_y] at ho'
    have hv : vB (vset V 16 w (nv T n (nx T n s))) := vB_set hV (by decide) (fun y a c => vS_set hV (by decide) a c) (by decide) (fun q => absurd q (by decide)) (fun q => absurd q (by decide)) (fun _ => ⟨fun q => by omega, fun q => by omega, fun q => by omega, fun q => by omega, fun _ => ⟨ho'.2.2.1, ho'.2.2.2⟩, fun _ => ⟨ho'.2.2.1, ho'.2.2.2⟩⟩)
    have hn := hV.1
    unfold vN at hn
    refine ⟨by omega, vset V 16 w (nv T n (nx T n s)), Lm, Am, Lf, Af, K, fo, q, ⟨hv, ?_, ?_, hKG⟩, ⟨?_, ?_, ?_, ?_, ?_⟩, ⟨?_, ?_, ?_, ?_, ?_⟩, q0, by omega⟩
    · rw [vs_m (by decide)]; exact hNm
    · rw [vs_f (by decide)]; exact hNf
    · rw [if_pos ⟨rfl, ho⟩, vs_s (by decide), vs_m (by decide)]
      exact ((hc.p1 hb e3).p1 hb f3).1.set (k0 := 16) (by unfold okk; omega) (by omega)
    · rw [vs_s (by decide), st_ne (by omega)]; exact ((hc.p1 hb e3).p1 hb f3).2.1
    · rw [vs_m (by decide)]; exact ((hc.p1 hb e3).p1 hb f3).2.2.1.F gb (fun k j q => by omega)
    · rw [vs_f (by decide)]; exact ((hc.p1 hb e3).p1 hb f3).2.2.2.1.F gb (fun k j q => by omega)
    · exact ((hc.p1 hb e3).p1 hb f3).2.2.2.2.fr (fun k j a c => by rw [st_ne (by omega)])
    · rw [if_pos ⟨rfl, ho⟩, vs_s (by decide), vs_m (by decide)]
      have hw' := ((hd.at_ hV (P_a16 Fr.rf)).at_ hV g3).1
      have e13 : (stI ν2 2 (28 + w).toNat (I_ (nv T n (nx T n s)))).1 13 = ν2.1 13 := funext (fun j => st_ne (by omega) j)
      rw [e13]
      exact hw'.set (by omega) (by omega) (k0 := 16) (z0 := w) (by unfold okk; omega) (by omega) (by omega) (by show w < 6; omega) (by rw [dI_16, at_S]) (fun j a _ _ => by rw [st_I, if_neg (fun q => a (by rw [dI_16]; exact q.2))])
    · rw [vs_s (by decide), st_I, if_neg (by omega)]; exact ((hd.at_ hV (P_a16 Fr.rf)).at_ hV g3).2.1
    · rw [vs_m (by decide)]; exact ((hd.at_ hV (P_a16 Fr.rf)).at_ hV g3).2.2.1.F gr (fun k j q => by omega)
    · rw [vs_f (by decide)]; exact ((hd.at_ hV (P_a16 Fr.rf)).at_ hV g3).2.2.2.1.F gr (fun k j q => by omega)
    · exact ((hd.at_ hV (P_a16 Fr.rf)).at_ hV g3).2.2.2.2.fr (fun k j a c => by rw [st_ne (by omega)])
end
