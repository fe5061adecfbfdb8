/-! The whole of what both sides hold of a case. -/
def offz (K : Int → List Int) (V : Vw) (z : Int) : Int := offv (K (s_mk V z)) (s_mn V z) (s_pr V z) (s_lv V z) (s_mo V z) (c_of V (s_fm V z) (s_md V z))
def netz (K : Int → List Int) (V : Vw) (z : Int) : Int := max 0 (min 99999 (s_pr V z - offz K V z))
def vW (K : Int → List Int) (V : Vw) : Vw := fun k z => if k = 8 then offz K V z else if k = 9 then netz K V z else V k z
def vE (K : Int → List Int) (V : Vw) : Prop := ∀ z, 0 ≤ z → z < sN V → s_of V z = offz K V z ∧ s_nt V z = netz K V z
def PE (V : Vw) (Lm : Int → Int) (Am : Int → Int → Int) (Lf : Int → Int) (Af : Int → Int → Int) (K : Int → List Int) (ν : Mem) : Prop := WF V (sN V) (mN V) (ν.1 1) (ν.1 6) ∧ ν.1 1 34 = I_ (sN V) ∧ NR 4 5 (mN V) (pP Lm Am) ν ∧ NR 5 6 (fN V) (pP Lf Af) ν ∧ RC K ν
def ON (b : Nat) (V : Vw) (μ : Mem) : Prop := ∀ z, 0 ≤ z → z < sN V → μ.1 (b + 20) z.toNat = I_ (s_of V z) ∧ μ.1 (b + 21) z.toNat = I_ (s_nt V z)
section
variable {N b : Nat} {μ μ' ν ν' : Mem} {V : Vw} {Lm Lf : Int → Int} {Am Af : Int → Int → Int} {K : Int → List Int} {fo : Int → Int} {q z : Int}
theorem vW_k {k : Int} (h8 : ¬ k = 8) (h9 : ¬ k = 9) (z : Int) : vW K V k z = V k z := by
  unfold vW
  rw [if_neg h8, if_neg h9]
theorem vW_s : sN (vW K V) = sN V := vW_k (by decide) (by decide) 0
theorem vW_m : mN (vW K V) = mN V := vW_k (by decide) (by decide) 1
theorem vW_f : fN (vW K V) = fN V := vW_k (by decide) (by decide) 2
theorem offz_c {V' : Vw} (h : ∀ k y, okk k → V' k y = V k y) : offz K V' z = offz K V z := by
  unfold offz c_of s_mk s_mn s_pr s_lv s_mo s_fm s_md t_co m_co
  have o1 : okk 1 := by unfold okk; omega
  have o2 : okk 2 := by unfold okk; omega
  have o3 : okk 3 := by unfold okk; omega
  have o4 : okk 4 := by unfold okk; omega
  have o5 : okk 5 := by unfold okk; omega
  have o6 : okk 6 := by unfold okk; omega
  have o7 : okk 7 := by unfold okk; omega
  have o11 : okk 11 := by unfold okk; omega
  have o14 : okk 14 := by unfold okk; omega
  rw [h 1 _ o1, h 2 _ o2, h 3 _ o3, h 4 _ o4, h 5 _ o5, h 6 _ o6, h 7 _ o7, h 11 _ o11, h 14 _ o14]
theorem netz_c {V' : Vw} (h : ∀ k y, okk k → V' k y = V k y) : netz K V' z = netz K V z := by
  unfold netz
  rw [offz_c h]
  unfold s_pr
  rw [h 7 _ (by unfold okk; omega)]
theorem vW_ok : ∀ k y, okk k → vW K V k y = V k y := fun k y h => vW_k (by unfold okk at h; omega) (by unfold okk at h; omega) y
theorem vE_W : vE K (vW K V) := fun z _ _ => by
  rw [offz_c vW_ok, netz_c vW_ok]
  exact ⟨rfl, rfl⟩
theorem sale_in (hV : vB V) (z0 : 0 ≤ z) (z1 : z < sN V) : (0 ≤ s_mk V z ∧ s_mk V z ≤ 2) ∧ (0 ≤ s_mn V z ∧ s_mn V z ≤ 9999) ∧ (0 ≤ s_pr V z ∧ s_pr V z ≤ 9999) ∧ (0 ≤ s_lv V z ∧ s_lv V z ≤ 9999) ∧ (0 ≤ s_mo V z ∧ s_mo V z ≤ 9999) ∧ (0 ≤ s_fm V z ∧ s_fm V z < fN V ∧ fN V ≤ 4) ∧ (0 ≤ s_md V z ∧ s_md V z < mN V ∧ mN V ≤ 6) ∧ (0 ≤ c_of V (s_fm V z) (s_md V z) ∧ c_of V (s_fm V z) (s_md V z) ≤ 9999) ∧ z < 40 := by
  have hv := hV.2.1 z z0 z1
  have hn := hV.1
  unfold vS at hv
  unfold vN at hn
  have hc := c_of_in hV (f := s_fm V z) (m := s_md V z) (by omega) (by omega) (by omega) (by omega)
  omega
theorem offz_in (hV : vB V) (hG : KG K) (z0 : 0 ≤ z) (z1 : z < sN V) : -1000000 ≤ offz K V z ∧ offz K V z ≤ 1000000 := by
  obtain ⟨h1, h2, h3, h4, h5, h6, h7, h8, h9⟩ := sale_in hV z0 z1
  exact offv_in (hG _ h1.1 h1.2).1 h2 h3 h4 h5 h8
theorem vB_W (hV : vB V) (hG : KG K) : vB (vW K V) := by
  obtain ⟨h1, h2, h3, h4, h5⟩ := hV
  have hV : vB V := ⟨h1, h2, h3, h4, h5⟩
  refine ⟨?_, fun z a c => ?_, fun m a c => ?_, fun p a c => ?_, fun f a c => ?_⟩
  · unfold vN at h1 ⊢
    rw [vW_s, vW_m, vW_f]
    unfold s_se at h1 ⊢
    rw [vW_k (by decide) (by decide), vW_k (by decide) (by decide), vW_k (by decide) (by decide), vW_k (by decide) (by decide), vW_k (by decide) (by decide), vW_k (by decide) (by decide)]
    exact h1
  · rw [vW_s] at c
    have hv := h2 z a c
    have ob := offz_in hV hG a c
    unfold vS at hv ⊢
    rw [vW_f, vW_m]
    have e8 : s_of (vW K V) z = offz K V z := rfl
    have e9 : s_nt (vW K V) z = netz K V z := rfl
    rw [e8, e9]
    unfold netz
    unfold s_mk s_fm s_md s_lv s_mo s_mn s_pr s_li at hv ⊢
    rw [vW_k (by decide) (by decide), vW_k (by decide) (by decide), vW_k (by decide) (by decide), vW_k (by decide) (by decide), vW_k (by decide) (by decide), vW_k (by decide) (by decide), vW_k (by decide) (by decide), vW_k (by decide) (by decide)]
    omega
  · rw [vW_m] at c
    unfold vM m_co m_lk m_tg
    rw [vW_k (by decide) (by decide), vW_k (by decide) (by decide), vW_k (by decide) (by decide)]
    exact h3 m a c
  · unfold t_co
    rw [vW_k (by decide) (by decide)]
    exact h4 p a c
  · unfold s_si
    rw [vW_k (by decide) (by decide)]
    exact h5 f a c
theorem vO_E (h : vE K V) : vO V := fun z a c => by
  rw [(h z a c).2, (h z a c).1]
  rfl
/-- the class's book out of its rows -/
theorem CB_of (hb : kB b) (h : PC b V Lm Am Lf Af K fo q μ) (ho : ON b V μ) : CB b V μ := by
  obtain ⟨h1, h2, h3, h4, h5⟩ := h
  have g : ∀ (k : Int) (hk : okk k) (z : Int), 0 ≤ z → z < szv (sN V) (mN V) k → μ.1 (b + 12 + k.toNat) z.toNat = I_ (V k z) := fun k hk z a c => h1 k z hk a c
  have o : ∀ k : Int, 1 ≤ k → k ≤ 16 → k ≠ 8 → k ≠ 9 → okk k := fun k a c d e => ⟨a, c, d, e⟩
  have hS : kS (b + 12) := by unfold kS; rcases hb with e | e <;> omega
  refine ⟨hb, ⟨hS, h2, fun z a c => ⟨g 1 (o _ (by omega) (by omega) (by omega) (by omega)) z a c, g 2 (o _ (by omega) (by omega) (by omega) (by omega)) z a c, g 3 (o _ (by omega) (by omega) (by omega) (by omega)) z a c, g 4 (o _ (by omega) (by omega) (by omega) (by omega)) z a c, g 5 (o _ (by omega) (by omega) (by omega) (by omega)) z a c, g 6 (o _ (by omega) (by omega) (by omega) (by omega)) z a c, g 7 (o _ (by omega) (by omega) (by omega) (by omega)) z a c, (ho z a c).1, (ho z a c).2, g 10 (o _ (by omega) (by omega) (by omega) (by omega)) z a c⟩⟩, h3.1, h4.1, fun m a c => ⟨g 11 (o _ (by omega) (by omega) (by omega) (by omega)) m a c, g 12 (o _ (by omega) (by omega) (by omega) (by omega)) m a c, g 13 (o _ (by omega) (by omega) (by omega) (by omega)) m a c⟩, fun p a c => g 14 (o _ (by omega) (by omega) (by omega) (by omega)) p a c, fun f a c => g 15 (o _ (by omega) (by omega) (by omega) (by omega)) f a c, fun k a c => g 16 (o _ (by omega) (by omega) (by omega) (by omega)) k a c⟩
theorem RB_of (h : PE V Lm Am Lf Af K ν) : RB V ν := by
  obtain ⟨h1, h2, h3, h4, h5⟩ := h
  have o : ∀ k : Int, 1 ≤ k → k ≤ 16 → k ≠ 8 → k ≠ 9 → okk k := fun k a c d e => ⟨a, c, d, e⟩
  have g : ∀ (k : Int) (hk : okk k) (z : Int), 0 ≤ z → z < szv (sN V) (mN V) k → ¬ (11 ≤ k ∧ k ≤ 13) → ν.1 1 (dI k z) = I_ (V k z) := fun k hk z a c d => by
    have := h1 k z hk a c
    rw [if_neg d] at this
    exact this
  have gm : ∀ (k : Int) (hk : okk k) (z : Int), 0 ≤ z → z < szv (sN V) (mN V) k → (11 ≤ k ∧ k ≤ 13) → ν.1 6 (dI k z) = I_ (V k z) := fun k hk z a c d => by
    have := h1 k z hk a c
    rw [if_pos d] at this
    exact this
  refine ⟨h3.1, h4.1, h2, fun z a c => ⟨?_, ?_, ?_, ?_, ?_, ?_, ?_, ?_⟩, fun p a c => ?_, fun f a c => ?_, fun k a c => ?_, fun m a c => ⟨?_, ?_, ?_⟩⟩
  · have := g 1 (o _ (by omega) (by omega) (by omega) (by omega)) z a c (by omega)
    rw [show (35 + 8 * z).toNat = dI 1 z by rw [dI_s (o _ (by omega) (by omega) (by omega) (by omega)) (by omega)]; congr 1; show 35 + 8 * z = 35 + 8 * z + 0; omega]
    exact this
  · exact g 2 (o _ (by omega) (by omega) (by omega) (by omega)) z a c (by omega)
  · exact g 3 (o _ (by omega) (by omega) (by omega) (by omega)) z a c (by omega)
  · exact g 4 (o _ (by omega) (by omega) (by omega) (by omega)) z a c (by omega)
  · exact g 5 (o _ (by omega) (by omega) (by omega) (by omega)) z a c (by omega)
  · exact g 6 (o _ (by omega) (by omega) (by omega) (by omega)) z a c (by omega)
  · exact g 7 (o _ (by omega) (by omega) (by omega) (by omega)) z a c (by omega)
  · exact g 10 (o _ (by omega) (by omega) (by omega) (by omega)) z a c (by omega)
  · exact g 14 (o _ (by omega) (by omega) (by omega) (by omega)) p a c (by omega)
  · exact g 15 (o _ (by omega) (by omega) (by omega) (by omega)) f a c (by omega)
  · exact g 16 (o _ (by omega) (by omega) (by omega) (by omega)) k a c (by omega)
  · have := gm 11 (o _ (by omega) (by omega) (by omega) (by omega)) m a c (by omega)
    rw [show (3 * m).toNat = dI 11 m by rw [dI_m (by omega) (by omega)]; congr 1; show 3 * m = 3 * m + 0; omega]
    exact this
  · exact gm 12 (o _ (by omega) (by omega) (by omega) (by omega)) m a c (by omega)
  · exact gm 13 (o _ (by omega) (by omega) (by omega) (by omega)) m a c (by omega)
/-- the reference takes off what the view says -/
theorem RS_of (hV : vB V) (hE : vE K V) (hG : KG K) (hN : 500 ≤ N) (hR : RB V ν) (hC : RC K ν) : RS N V ν := fun z z0 z1 ν' g => by
  obtain ⟨h1, h2, h3, h4, h5, h6, h7, h8, h9⟩ := sale_in hV z0 z1
  have g1 : ∀ j, ¬ (35 ≤ j ∧ (j - 35) % 8 = 7) → ν'.1 1 j = ν.1 1 j := fun j hj => g 1 j ⟨by unfold P_rb; omega, fun q => hj q.2⟩
  have g6 : ∀ k j, 6 ≤ k → k ≤ 9 → ν'.1 k j = ν.1 k j := fun k j a c => g k j ⟨by unfold P_rb; omega, fun q => by omega⟩
  have ht := hV.2.2.2.1 (s_fm V z * 6 + s_md V z) (by omega) (by omega)
  have hm := hV.2.2.1 (s_md V z) (by omega) (by omega)
  unfold vM at hm
  have hF : FS ν' z (s_mk V z) (s_fm V z) (s_md V z) (s_lv V z) (s_mo V z) (s_mn V z) (s_pr V z) (t_co V (s_fm V z * 6 + s_md V z)) (m_co V (s_md V z)) := by
    refine ⟨?_, ?_, ?_, ?_, ?_, ?_, ?_, ?_, ?_⟩
    · rw [g1 _ (by omega)]; exact RB_mk hR z0 z1
    · rw [g1 _ (by omega)]; exact RB_fm hR z0 z1
    · rw [g1 _ (by omega)]; exact RB_md hR z0 z1
    · rw [g1 _ (by omega)]; exact RB_lv hR z0 z1
    · rw [g1 _ (by omega)]; exact RB_mo hR z0 z1
    · rw [g1 _ (by omega)]; exact RB_mn hR z0 z1
    · rw [g1 _ (by omega)]; exact RB_pr hR z0 z1
    · rw [g1 _ (by omega), show (6 * s_fm V z + s_md V z) = s_fm V z * 6 + s_md V z by omega]; exact RB_tc hR (by omega) (by omega)
    · rw [g6 _ _ (by omega) (by omega)]; exact RB_co hR (by omega) (by omega)
  have hC' : RC K ν' := fun k k0 k2 => by
    obtain ⟨u1, u2⟩ := hC k k0 k2
    exact ⟨by rw [g6 _ _ (by omega) (by omega)]; exact u1, rsq_fr _ _ (by omega) (fun j _ _ => ⟨g6 _ _ (by omega) (by omega), g6 _ _ (by omega) (by omega)⟩) u2⟩
  obtain ⟨ν'', x1, x2⟩ := r_off (N := N) hN z0 h9 h1.1 h1.2 h6.1 (by omega) h7.1 (by omega) ht.1 ht.2 h2 h3 h4 h5 (by omega) hG hC' hF
  refine ⟨ν'', ?_, x2⟩
  rw [(hE z z0 z1).1]
  exact x1
/-! The class works a sale out. -/
def P_wo (b : Nat) (z : Int) (k j : Nat) : Prop := k = b + 11 ∨ ((k = b + 20 ∨ k = b + 21) ∧ j = z.toNat)
theorem PC.wo (hb : kB b) (h : PC b V Lm Am Lf Af K fo q μ) (g : ∀ k j, b ≤ k → k ≤ b + 28 → k ≠ b + 11 → k ≠ b + 20 → k ≠ b + 21 → μ'.1 k j = μ.1 k j) : PC b V Lm Am Lf Af K fo q μ' := by
  obtain ⟨h1, h2, h3, h4, h5⟩ := h
  refine ⟨fun k z hk a c => ?_, by rw [g _ _ (by omega) (by omega) (by omega) (by omega) (by omega)]; exact h2, ⟨by rw [g _ _ (by omega) (by omega) (by omega) (by omega) (by omega)]; exact h3.1, fun i i0 i1 => ⟨by rw [g _ _ (by omega) (by omega) (by omega) (by omega) (by omega)]; exact (h3.2 i i0 i1).1, fun j j0 j1 => by rw [g _ _ (by omega) (by omega) (by omega) (by omega) (by omega)]; exact (h3.2 i i0 i1).2 j j0 j1⟩⟩, ⟨by rw [g _ _ (by omega) (by omega) (by omega) (by omega) (by omega)]; exact h4.1, fun i i0 i1 => ⟨by rw [g _ _ (by omega) (by omega) (by omega) (by omega) (by omega)]; exact (h4.2 i i0 i1).1, fun j j0 j1 => by rw [g _ _ (by omega) (by omega) (by omega) (by omega) (by omega)]; exact (h4.2 i i0 i1).2 j j0 j1⟩⟩, h5.fr (fun k j a c => g k j (by omega) (by omega) (by omega) (by omega) (by omega))⟩
  have hk' := hk
  unfold okk at hk'
  rw [g _ _ (by omega) (by omega) (by omega) (by omega) (by omega)]
  exact h1 k z hk a c
theorem c_work (hb : kB b) (hN : 500 ≤ N) (hV : vB V) (hG : KG K) (q4 : q ≤ 400) (h : PC b V Lm Am Lf Af K fo q μ) (z0 : 0 ≤ z) (z1 : z < sN V) : ∃ μ', fX1_workOut N b (I_ z) μ = some ((), μ') ∧ μ'.1 (b + 20) z.toNat = I_ (offz K V z) ∧ μ'.1 (b + 21) z.toNat = I_ (netz K V z) ∧ Fr (P_wo b z) μ μ' := by
  obtain ⟨h1, h2, h3, h4, h5, h6, h7, h8, h9⟩ := sale_in hV z0 z1
  obtain ⟨a1, a2, a3, a4, a5⟩ := h
  have o : ∀ k : Int, 1 ≤ k → k ≤ 16 → k ≠ 8 → k ≠ 9 → okk k := fun k a c d e => ⟨a, c, d, e⟩
  have g : ∀ (k : Int), 1 ≤ k → k ≤ 7 → μ.1 (b + 12 + k.toNat) z.toNat = I_ (V k z) := fun k c d => a1 k z (o k c (by omega) (by omega) (by omega)) z0 (by rw [szv_s (by omega)]; exact z1)
  have ht := hV.2.2.2.1 (s_fm V z * 6 + s_md V z) (by omega) (by omega)
  have hm := hV.2.2.1 (s_md V z) (by omega) (by omega)
  unfold vM at hm
  have hfm : μ.1 (b + 14) z.toNat = I_ (s_fm V z) := g 2 (by omega) (by omega)
  have hmd : μ.1 (b + 15) z.toNat = I_ (s_md V z) := g 3 (by omega) (by omega)
  have hpr : μ.1 (b + 19) z.toNat = I_ (s_pr V z) := g 7 (by omega) (by omega)
  have htc : μ.1 (b + 26) (s_fm V z * 6 + s_md V z).toNat = I_ (t_co V (s_fm V z * 6 + s_md V z)) := a1 14 _ (o 14 (by omega) (by omega) (by omega) (by omega)) (by omega) (by show _ < 24; omega)
  have hmc : μ.1 (b + 23) (s_md V z).toNat = I_ (m_co V (s_md V z)) := a1 11 _ (o 11 (by omega) (by omega) (by omega) (by omega)) (by omega) (by rw [szv_m (by omega) (by omega)]; omega)
  have hco : fX1_costOf N b (I_ (s_fm V z)) (I_ (s_md V z)) μ = some (I_ (c_of V (s_fm V z) (s_md V z)), μ) := by
    unfold fX1_costOf c_of
    rw [if_pos hb]
    by_cases e : t_co V (s_fm V z * 6 + s_md V z) ≤ 0
    · rw [if_pos e]
      simp (disch := omega) only [Int.reduceEq, Int.reduceNe, Int.reduceLT, Int.reduceLE, Int.reduceAdd, Int.reduceSub, Int.reduceMul, Int.reduceNeg, Int.zero_add, Int.add_zero, nm_eq, bd_some, bv_some, aI_ok, aL_ok, aS_ok, dv_ok, dw_ok, I_add, I_sub, I_mul, I_neg, I_lt, I_le, I_eq, I_nat, J_add, J_sub, J_mul, J_neg, J_lt, J_le, J_eq, I_l, J_i, I_div, J_div, b2_0, b2_1, b2_nar, nar_0, nar_1, zr_0, zr_1, zr_b2, cmp_eq, cmp_le, cmp_lt, cmp_gt, cmp_ge, mx_I, mn_I, mx_L, mn_L, az_I, if_true, if_false, not_true_eq_false, not_false_eq_true, Bool.false_eq_true, i_0, i_1, i_2, i_3, i_4, i_5, i_6, i_7, i_8, i_9, i_10, i_11, i_12, i_16, i_18, i_20, i_24, i_28, i_29, i_30, i_31, i_32, i_33, i_34, i_35, i_37, i_40, i_41, i_42, i_43, i_45, i_46, i_47, i_48, i_57, i_59, i_63, i_64, i_96, i_97, i_98, i_99, i_100, i_101, i_102, i_103, i_104, i_105, i_106, i_107, i_108, i_109, i_110, i_111, i_112, i_113, i_122, i_200, i_255, i_256, i_257, i_258, i_355, i_400, i_999, i_1000, i_1200, i_5680, i_9999, i_10000, i_99999, j_0, j_1, j_2, j_3, j_4, j_5, j_6, j_9, j_10, j_11, j_98, j_99, j_100, j_999, j_1000, j_9999, j_10000, j_99999, j_1000000, htc, hmc, e]
    · rw [if_neg e]
      simp (disch := omega) only [Int.reduceEq, Int.reduceNe, Int.reduceLT, Int.reduceLE, Int.reduceAdd, Int.reduceSub, Int.reduceMul, Int.reduceNeg, Int.zero_add, Int.add_zero, nm_eq, bd_some, bv_some, aI_ok, aL_ok, aS_ok, dv_ok, dw_ok, I_add, I_sub, I_mul, I_neg, I_lt, I_le, I_eq, I_nat, J_add, J_sub, J_mul, J_neg, J_lt, J_le, J_eq, I_l, J_i, I_div, J_div, b2_0, b2_1, b2_nar, nar_0, nar_1, zr_0, zr_1, zr_b2, cmp_eq, cmp_le, cmp_lt, cmp_gt, cmp_ge, mx_I, mn_I, mx_L, mn_L, az_I, if_true, if_false, not_true_eq_false, not_false_eq_true, Bool.false_eq_true, i_0, i_1, i_2, i_3, i_4, i_5, i_6, i_7, i_8, i_9, i_10, i_11, i_12, i_16, i_18, i_20, i_24, i_28, i_29, i_30, i_31, i_32, i_33, i_34, i_35, i_37, i_40, i_41, i_42, i_43, i_45, i_46, i_47, i_48, i_57, i_59, i_63, i_64, i_96, i_97, i_98, i_99, i_100, i_101, i_102, i_103, i_104, i_105, i_106, i_107, i_108, i_109, i_110, i_111, i_112, i_113, i_122, i_200, i_255, i_256, i_257, i_258, i_355, i_400, i_999, i_1000, i_1200, i_5680, i_9999, i_10000, i_99999, j_0, j_1, j_2, j_3, j_4, j_5, j_6, j_9, j_10, j_11, j_98, j_99, j_100, j_999, j_1000, j_9999, j_10000, j_99999, j_1000000, htc, e]
  obtain ⟨μ1, x1, x2, x3⟩ := c_off (N := N) (c := c_of V (s_fm V z) (s_md V z)) hb hN z0 h9 h1.1 h1.2 h2 h3 h4 h5 h8 hG a5 q4 (g 1 (by omega) (by omega)) (g 6 (by omega) (by omega)) (g 7 (by omega) (by omega)) (g 4 (by omega) (by omega)) (g 5 (by omega) (by omega))
  have ob := offz_in hV hG z0 z1
  have hpr1 : μ1.1 (b + 19) z.toNat = I_ (s_pr V z) := by rw [x3]; exact hpr
  refine ⟨stI (stI μ1 (b + 20) z.toNat (I_ (offz K V z))) (b + 21) z.toNat (I_ (netz K V z)), ?_, ?_, at_S, ?_⟩
  · unfold fX1_workOut
    rw [if_pos hb]
    have x1' : fX9_offOf N (b + 7) (b + 12) (I_ z) (I_ (c_of V (s_fm V z) (s_md V z))) μ = some (I_ (offz K V z), μ1) := x1
    unfold netz
    simp (disch := omega) only [Int.reduceEq, Int.reduceNe, Int.reduceLT, Int.reduceLE, Int.reduceAdd, Int.reduceSub, Int.reduceMul, Int.reduceNeg, Int.zero_add, Int.add_zero, nm_eq, bd_some, bv_some, aI_ok, aL_ok, aS_ok, dv_ok, dw_ok, I_add, I_sub, I_mul, I_neg, I_lt, I_le, I_eq, I_nat, J_add, J_sub, J_mul, J_neg, J_lt, J_le, J_eq, I_l, J_i, I_div, J_div, b2_0, b2_1, b2_nar, nar_0, nar_1, zr_0, zr_1, zr_b2, cmp_eq, cmp_le, cmp_lt, cmp_gt, cmp_ge, mx_I, mn_I, mx_L, mn_L, az_I, if_true, if_false, not_true_eq_false, not_false_eq_true, Bool.false_eq_true, i_0, i_1, i_2, i_3, i_4, i_5, i_6, i_7, i_8, i_9, i_10, i_11, i_12, i_16, i_18, i_20, i_24, i_28, i_29, i_30, i_31, i_32, i_33, i_34, i_35, i_37, i_40, i_41, i_42, i_43, i_45, i_46, i_47, i_48, i_57, i_59, i_63, i_64, i_96, i_97, i_98, i_99, i_100, i_101, i_102, i_103, i_104, i_105, i_106, i_107, i_108, i_109, i_110, i_111, i_112, i_113, i_122, i_200, i_255, i_256, i_257, i_258, i_355, i_400, i_999, i_1000, i_1200, i_5680, i_9999, i_10000, i_99999, j_0, j_1, j_2, j_3, j_4, j_5, j_6, j_9, j_10, j_11, j_98, j_99, j_100, j_999, j_1000, j_9999, j_10000, j_99999, j_1000000, hfm, hmd, hco, x1', hpr1, st_ne]
  · rw [st_ne (by omega), at_S]
  · exact ((x2.mono (fun k j w => Or.inl w)).stI (Or.inr ⟨Or.inl rfl, rfl⟩)).stI (Or.inr ⟨Or.inr rfl, rfl⟩)
theorem c_workAll (hb : kB b) (hN : 500 ≤ N) (hV : vB V) (hG : KG K) (q4 : q ≤ 400) : ∀ (d m : Nat) (i : Int) (μ : Mem), d < m → 0 ≤ i → i + d = sN V → PC b V Lm Am Lf Af K fo q μ → (∀ z, 0 ≤ z → z < i → μ.1 (b + 20) z.toNat = I_ (offz K V z) ∧ μ.1 (b + 21) z.toNat = I_ (netz K V z)) → ∃ μ', fX1_workOutAll_2 N m b (I_ i) μ = some ((), μ') ∧ PC b V Lm Am Lf Af K fo q μ' ∧ (∀ z, 0 ≤ z → z < sN V → μ'.1 (b + 20) z.toNat = I_ (offz K V z) ∧ μ'.1 (b + 21) z.toNat = I_ (netz K V z)) ∧ Fr (fun k _ => k = b + 11 ∨ k = b + 20 ∨ k = b + 21) μ μ' := by
  have hn := hV.1
  unfold vN at hn
  intro d
  induction d with
  | zero =>
    intro m i μ h1 h2 h3 hc hr
    obtain ⟨m, rfl⟩ : ∃ mm, m = mm + 1 := ⟨m - 1, by omega⟩
    have hle : sN V ≤ i := by omega
    refine ⟨μ, ?_, hc, fun z a c => hr z a (by omega), Fr.rf⟩
    simp (disch := omega) only [fX1_workOutAll_2, Int.reduceEq, Int.reduceNe, Int.reduceLT, Int.reduceLE, Int.reduceAdd, Int.reduceSub, Int.reduceMul, Int.reduceNeg, Int.zero_add, Int.add_zero, nm_eq, bd_some, bv_some, aI_ok, aL_ok, aS_ok, dv_ok, dw_ok, I_add, I_sub, I_mul, I_neg, I_lt, I_le, I_eq, I_nat, J_add, J_sub, J_mul, J_neg, J_lt, J_le, J_eq, I_l, J_i, I_div, J_div, b2_0, b2_1, b2_nar, nar_0, nar_1, zr_0, zr_1, zr_b2, cmp_eq, cmp_le, cmp_lt, cmp_gt, cmp_ge, mx_I, mn_I, mx_L, mn_L, az_I, if_true, if_false, not_true_eq_false, not_false_eq_true, Bool.false_eq_true, i_0, i_1, i_2, i_3, i_4, i_5, i_6, i_7, i_8, i_9, i_10, i_11, i_12, i_16, i_18, i_20, i_24, i_28, i_29, i_30, i_31, i_32, i_33, i_34, i_35, i_37, i_40, i_41, i_42, i_43, i_45, i_46, i_47, i_48, i_57, i_59, i_63, i_64, i_96, i_97, i_98, i_99, i_100, i_101, i_102, i_103, i_104, i_105, i_106, i_107, i_108, i_109, i_110, i_111, i_112, i_113, i_122, i_200, i_255, i_256, i_257, i_258, i_355, i_400, i_999, i_1000, i_1200, i_5680, i_9999, i_10000, i_99999, j_0, j_1, j_2, j_3, j_4, j_5, j_6, j_9, j_10, j_11, j_98, j_99, j_100, j_999, j_1000, j_9999, j_10000, j_99999, j_1000000, hc.2.1, hle]
  | succ d ih =>
    intro m i μ h1 h2 h3 hc hr
    obtain ⟨m, rfl⟩ : ∃ mm, m = mm + 1 := ⟨m - 1, by omega⟩
    have hle : ¬ sN V ≤ i := by omega
    obtain ⟨μ1, a1, a2, a3, a4⟩ := c_work (N := N) hb hN hV hG q4 hc h2 (by omega)
    have hc1 := hc.wo hb (μ' := μ1) (fun k j _ _ c1 c2 c3 => (a4 k j (by unfold P_wo; omega)).1)
    obtain ⟨μ2, b1, b2', b3, b4⟩ := ih m (i + 1) μ1 (by omega) (by omega) (by omega) hc1 (fun z z0 z1 => by
      by_cases e : z = i
      · rw [e]; exact ⟨a2, a3⟩
      · rw [(a4 _ _ (by unfold P_wo; omega)).1, (a4 _ _ (by unfold P_wo; omega)).1]
        exact hr z z0 (by omega))
    refine ⟨μ2, ?_, b2', b3, (a4.mono (fun k j w => by unfold P_wo at w; omega)).tr b4⟩
    simp (disch := omega) only [fX1_workOutAll_2, Int.reduceEq, Int.reduceNe, Int.reduceLT, Int.reduceLE, Int.reduceAdd, Int.reduceSub, Int.reduceMul, Int.reduceNeg, Int.zero_add, Int.add_zero, nm_eq, bd_some, bv_some, aI_ok, aL_ok, aS_ok, dv_ok, dw_ok, I_add, I_sub, I_mul, I_neg, I_lt, I_le, I_eq, I_nat, J_add, J_sub, J_mul, J_neg, J_lt, J_le, J_eq, I_l, J_i, I_div, J_div, b2_0, b2_1, b2_nar, nar_0, nar_1, zr_0, zr_1, zr_b2, cmp_eq, cmp_le, cmp_lt, cmp_gt, cmp_ge, mx_I, mn_I, mx_L, mn_L, az_I, if_true, if_false, not_true_eq_false, not_false_eq_true, Bool.false_eq_true, i_0, i_1, i_2, i_3, i_4, i_5, i_6, i_7, i_8, i_9, i_10, i_11, i_12, i_16, i_18, i_20, i_24, i_28, i_29, i_30, i_31, i_32, i_33, i_34, i_35, i_37, i_40, i_41, i_42, i_43, i_45, i_46, i_47, i_48, i_57, i_59, i_63, i_64, i_96, i_97, i_98, i_99, i_100, i_101, i_102, i_103, i_104, i_105, i_106, i_107, i_108, i_109, i_110, i_111, i_112, i_113, i_122, i_200, i_255, i_256, i_257, i_258, i_355, i_400, i_999, i_1000, i_1200, i_5680, i_9999, i_10000, i_99999, j_0, j_1, j_2, j_3, j_4, j_5, j_6, j_9, j_10, j_11, j_98, j_99, j_100, j_999, j_1000, j_9999, j_10000, j_99999, j_1000000, hc.2.1, hle, a1, b1]
/-- the reference takes its draft -/
theorem r_takes (hN : 20000 ≤ N) (hV : vB V) (hG : KG K) (h : PD V Lm Am Lf Af K ν) : ∃ ν', fX11_takesAll N ν = some ((), ν') ∧ PE V Lm Am Lf Af K ν' ∧ ν'.1 0 4 = I_ 0 ∧ ν'.1 0 30 = I_ 0 ∧ Fr (fun k j => k = 1 ∨ (4 ≤ k ∧ k ≤ 9) ∨ (k = 0 ∧ (j = 4 ∨ j = 5 ∨ j = 6 ∨ j = 30))) ν ν' := by
  have hn := hV.1
  unfold vN at hn
  have z0' : ∀ t : Nat, ((t : Nat) : Int).toNat = t := fun t => Int.toNat_natCast t
  obtain ⟨ν1, a1, a2, a3⟩ := fill (loop := fun m i μ => fX11_takesAll_2 N m i μ) (fin := fun μ => fX11_takesAll_27 N μ) (c := 1) (o := 0) (L := 355) (i0 := 0) (g := fun j => ν.1 2 j) (μ0 := ν) (fun m t μ ht g => by
    have h : ¬ 355 ≤ (t : Int) := by omega
    have e2 : ((t + 1 : Nat) : Int) = (t : Int) + 1 := by omega
    have gv := (g 2 t (by omega)).1
    simp (disch := omega) only [fX11_takesAll_2, Int.reduceEq, Int.reduceNe, Int.reduceLT, Int.reduceLE, Int.reduceAdd, Int.reduceSub, Int.reduceMul, Int.reduceNeg, Int.zero_add, Int.add_zero, nm_eq, bd_some, bv_some, aI_ok, aL_ok, aS_ok, dv_ok, dw_ok, I_add, I_sub, I_mul, I_neg, I_lt, I_le, I_eq, I_nat, J_add, J_sub, J_mul, J_neg, J_lt, J_le, J_eq, I_l, J_i, I_div, J_div, b2_0, b2_1, b2_nar, nar_0, nar_1, zr_0, zr_1, zr_b2, cmp_eq, cmp_le, cmp_lt, cmp_gt, cmp_ge, mx_I, mn_I, mx_L, mn_L, az_I, if_true, if_false, not_true_eq_false, not_false_eq_true, Bool.false_eq_true, i_0, i_1, i_2, i_3, i_4, i_5, i_6, i_7, i_8, i_9, i_10, i_11, i_12, i_16, i_18, i_20, i_24, i_28, i_29, i_30, i_31, i_32, i_33, i_34, i_35, i_37, i_40, i_41, i_42, i_43, i_45, i_46, i_47, i_48, i_57, i_59, i_63, i_64, i_96, i_97, i_98, i_99, i_100, i_101, i_102, i_103, i_104, i_105, i_106, i_107, i_108, i_109, i_110, i_111, i_112, i_113, i_122, i_200, i_255, i_256, i_257, i_258, i_355, i_400, i_999, i_1000, i_1200, i_5680, i_9999, i_10000, i_99999, j_0, j_1, j_2, j_3, j_4, j_5, j_6, j_9, j_10, j_11, j_98, j_99, j_100, j_999, j_1000, j_9999, j_10000, j_99999, j_1000000, h, z0', e2, Nat.zero_add, gv]) (fun m μ _ => by
    simp (disch := omega) only [fX11_takesAll_2, Int.reduceEq, Int.reduceNe, Int.reduceLT, Int.reduceLE, Int.reduceAdd, Int.reduceSub, Int.reduceMul, Int.reduceNeg, Int.zero_add, Int.add_zero, nm_eq, bd_some, bv_some, aI_ok, aL_ok, aS_ok, dv_ok, dw_ok, I_add, I_sub, I_mul, I_neg, I_lt, I_le, I_eq, I_nat, J_add, J_sub, J_mul, J_neg, J_lt, J_le, J_eq, I_l, J_i, I_div, J_div, b2_0, b2_1, b2_nar, nar_0, nar_1, zr_0, zr_1, zr_b2, cmp_eq, cmp_le, cmp_lt, cmp_gt, cmp_ge, mx_I, mn_I, mx_L, mn_L, az_I, if_true, if_false, not_true_eq_false, not_false_eq_true, Bool.false_eq_true, i_0, i_1, i_2, i_3, i_4, i_5, i_6, i_7, i_8, i_9, i_10, i_11, i_12, i_16, i_18, i_20, i_24, i_28, i_29, i_30, i_31, i_32, i_33, i_34, i_35, i_37, i_40, i_41, i_42, i_43, i_45, i_46, i_47, i_48, i_57, i_59, i_63, i_64, i_96, i_97, i_98, i_99, i_100, i_101, i_102, i_103, i_104, i_105, i_106, i_107, i_108, i_109, i_110, i_111, i_112, i_113, i_122, i_200, i_255, i_256, i_257, i_258, i_355, i_400, i_999, i_1000, i_1200, i_5680, i_9999, i_10000, i_99999, j_0, j_1, j_2, j_3, j_4, j_5, j_6, j_9, j_10, j_11, j_98, j_99, j_100, j_999, j_1000, j_9999, j_10000, j_99999, j_1000000]
    rfl) N (by omega)
  obtain ⟨ν2, b1, b2', b3⟩ := fill (loop := fun m i μ => fX11_takesAll_45 N m i μ) (fin := fun μ => fX11_takesAll_71 N N (I_ 0) μ) (c := 4) (o := 0) (L := 6) (i0 := 0) (g := fun j => ν.1 11 j) (μ0 := stI (stI ν1 0 5 (I_ (mN V))) 0 6 (I_ (fN V))) (fun m t μ ht g => by
    have h : ¬ 6 ≤ (t : Int) := by omega
    have e2 : ((t + 1 : Nat) : Int) = (t : Int) + 1 := by omega
    have gv : μ.1 11 t = ν.1 11 t := by rw [(g 11 t (by omega)).1, st_ne (by omega), st_ne (by omega), (a3 11 t (by omega)).1]
    simp (disch := omega) only [fX11_takesAll_45, Int.reduceEq, Int.reduceNe, Int.reduceLT, Int.reduceLE, Int.reduceAdd, Int.reduceSub, Int.reduceMul, Int.reduceNeg, Int.zero_add, Int.add_zero, nm_eq, bd_some, bv_some, aI_ok, aL_ok, aS_ok, dv_ok, dw_ok, I_add, I_sub, I_mul, I_neg, I_lt, I_le, I_eq, I_nat, J_add, J_sub, J_mul, J_neg, J_lt, J_le, J_eq, I_l, J_i, I_div, J_div, b2_0, b2_1, b2_nar, nar_0, nar_1, zr_0, zr_1, zr_b2, cmp_eq, cmp_le, cmp_lt, cmp_gt, cmp_ge, mx_I, mn_I, mx_L, mn_L, az_I, if_true, if_false, not_true_eq_false, not_false_eq_true, Bool.false_eq_true, i_0, i_1, i_2, i_3, i_4, i_5, i_6, i_7, i_8, i_9, i_10, i_11, i_12, i_16, i_18, i_20, i_24, i_28, i_29, i_30, i_31, i_32, i_33, i_34, i_35, i_37, i_40, i_41, i_42, i_43, i_45, i_46, i_47, i_48, i_57, i_59, i_63, i_64, i_96, i_97, i_98, i_99, i_100, i_101, i_102, i_103, i_104, i_105, i_106, i_107, i_108, i_109, i_110, i_111, i_112, i_113, i_122, i_200, i_255, i_256, i_257, i_258, i_355, i_400, i_999, i_1000, i_1200, i_5680, i_9999, i_10000, i_99999, j_0, j_1, j_2, j_3, j_4, j_5, j_6, j_9, j_10, j_11, j_98, j_99, j_100, j_999, j_1000, j_9999, j_10000, j_99999, j_1000000, h, z0', e2, Nat.zero_add, gv]) (fun m μ _ => by
    simp (disch := omega) only [fX11_takesAll_45, Int.reduceEq, Int.reduceNe, Int.reduceLT, Int.reduceLE, Int.reduceAdd, Int.reduceSub, Int.reduceMul, Int.reduceNeg, Int.zero_add, Int.add_zero, nm_eq, bd_some, bv_some, aI_ok, aL_ok, aS_ok, dv_ok, dw_ok, I_add, I_sub, I_mul, I_neg, I_lt, I_le, I_eq, I_nat, J_add, J_sub, J_mul, J_neg, J_lt, J_le, J_eq, I_l, J_i, I_div, J_div, b2_0, b2_1, b2_nar, nar_0, nar_1, zr_0, zr_1, zr_b2, cmp_eq, cmp_le, cmp_lt, cmp_gt, cmp_ge, mx_I, mn_I, mx_L, mn_L, az_I, if_true, if_false, not_true_eq_false, not_false_eq_true, Bool.false_eq_true, i_0, i_1, i_2, i_3, i_4, i_5, i_6, i_7, i_8, i_9, i_10, i_11, i_12, i_16, i_18, i_20, i_24, i_28, i_29, i_30, i_31, i_32, i_33, i_34, i_35, i_37, i_40, i_41, i_42, i_43, i_45, i_46, i_47, i_48, i_57, i_59, i_63, i_64, i_96, i_97, i_98, i_99, i_100, i_101, i_102, i_103, i_104, i_105, i_106, i_107, i_108, i_109, i_110, i_111, i_112, i_113, i_122, i_200, i_255, i_256, i_257, i_258, i_355, i_400, i_999, i_1000, i_1200, i_5680, i_9999, i_10000, i_99999, j_0, j_1, j_2, j_3, j_4, j_5, j_6, j_9, j_10, j_11, j_98, j_99, j_100, j_999, j_1000, j_9999, j_10000, j_99999, j_1000000]
    rfl) N (by omega)
  obtain ⟨ν3, c1, c2, c3⟩ := fill (loop := fun m i μ => fX11_takesAll_71 N m i μ) (fin := fun μ => fX11_takesAll_96 N N (I_ 0) μ) (c := 5) (o := 0) (L := 4) (i0 := 0) (g := fun j => ν.1 12 j) (μ0 := ν2) (fun m t μ ht g => by
    have h : ¬ 4 ≤ (t : Int) := by omega
    have e2 : ((t + 1 : Nat) : Int) = (t : Int) + 1 := by omega
    have gv : μ.1 12 t = ν.1 12 t := by rw [(g 12 t (by omega)).1, (b3 12 t (by omega)).1, st_ne (by omega), st_ne (by omega), (a3 12 t (by omega)).1]
    simp (disch := omega) only [fX11_takesAll_71, Int.reduceEq, Int.reduceNe, Int.reduceLT, Int.reduceLE, Int.reduceAdd, Int.reduceSub, Int.reduceMul, Int.reduceNeg, Int.zero_add, Int.add_zero, nm_eq, bd_some, bv_some, aI_ok, aL_ok, aS_ok, dv_ok, dw_ok, I_add, I_sub, I_mul, I_neg, I_lt, I_le, I_eq, I_nat, J_add, J_sub, J_mul, J_neg, J_lt, J_le, J_eq, I_l, J_i, I_div, J_div, b2_0, b2_1, b2_nar, nar_0, nar_1, zr_0, zr_1, zr_b2, cmp_eq, cmp_le, cmp_lt, cmp_gt, cmp_ge, mx_I, mn_I, mx_L, mn_L, az_I, if_true, if_false, not_true_eq_false, not_false_eq_true, Bool.false_eq_true, i_0, i_1, i_2, i_3, i_4, i_5, i_6, i_7, i_8, i_9, i_10, i_11, i_12, i_16, i_18, i_20, i_24, i_28, i_29, i_30, i_31, i_32, i_33, i_34, i_35, i_37, i_40, i_41, i_42, i_43, i_45, i_46, i_47, i_48, i_57, i_59, i_63, i_64, i_96, i_97, i_98, i_99, i_100, i_101, i_102, i_103, i_104, i_105, i_106, i_107, i_108, i_109, i_110, i_111, i_112, i_113, i_122, i_200, i_255, i_256, i_257, i_258, i_355, i_400, i_999, i_1000, i_1200, i_5680, i_9999, i_10000, i_99999, j_0, j_1, j_2, j_3, j_4, j_5, j_6, j_9, j_10, j_11, j_98, j_99, j_100, j_999, j_1000, j_9999, j_10000, j_99999, j_1000000, h, z0', e2, Nat.zero_add, gv]) (fun m μ _ => by
    simp (disch := omega) only [fX11_takesAll_71, Int.reduceEq, Int.reduceNe, Int.reduceLT, Int.reduceLE, Int.reduceAdd, Int.reduceSub, Int.reduceMul, Int.reduceNeg, Int.zero_add, Int.add_zero, nm_eq, bd_some, bv_some, aI_ok, aL_ok, aS_ok, dv_ok, dw_ok, I_add, I_sub, I_mul, I_neg, I_lt, I_le, I_eq, I_nat, J_add, J_sub, J_mul, J_neg, J_lt, J_le, J_eq, I_l, J_i, I_div, J_div, b2_0, b2_1, b2_nar, nar_0, nar_1, zr_0, zr_1, zr_b2, cmp_eq, cmp_le, cmp_lt, cmp_gt, cmp_ge, mx_I, mn_I, mx_L, mn_L, az_I, if_true, if_false, not_true_eq_false, not_false_eq_true, Bool.false_eq_true, i_0, i_1, i_2, i_3, i_4, i_5, i_6, i_7, i_8, i_9, i_10, i_11, i_12, i_16, i_18, i_20, i_24, i_28, i_29, i_30, i_31, i_32, i_33, i_34, i_35, i_37, i_40, i_41, i_42, i_43, i_45, i_46, i_47, i_48, i_57, i_59, i_63, i_64, i_96, i_97, i_98, i_99, i_100, i_101, i_102, i_103, i_104, i_105, i_106, i_107, i_108, i_109, i_110, i_111, i_112, i_113, i_122, i_200, i_255, i_256, i_257, i_258, i_355, i_400, i_999, i_1000, i_1200, i_5680, i_9999, i_10000, i_99999, j_0, j_1, j_2, j_3, j_4, j_5, j_6, j_9, j_10, j_11, j_98, j_99, j_100, j_999, j_1000, j_9999, j_10000, j_99999, j_1000000]
    rfl) N (by omega)
  obtain ⟨ν4, d1, d2, d3⟩ := fill (loop := fun m i μ => fX11_takesAll_96 N m i μ) (fin := fun μ => fX11_takesAll_122 N N (I_ 0) μ) (c := 6) (o := 0) (L := 18) (i0 := 0) (g := fun j => ν.1 13 j) (μ0 := ν3) (fun m t μ ht g => by
    have h : ¬ 18 ≤ (t : Int) := by omega
    have e2 : ((t + 1 : Nat) : Int) = (t : Int) + 1 := by omega
    have gv : μ.1 13 t = ν.1 13 t := by rw [(g 13 t (by omega)).1, (c3 13 t (by omega)).1, (b3 13 t (by omega)).1, st_ne (by omega), st_ne (by omega), (a3 13 t (by omega)).1]
    simp (disch := omega) only [fX11_takesAll_96, Int.reduceEq, Int.reduceNe, Int.reduceLT, Int.reduceLE, Int.reduceAdd, Int.reduceSub, Int.reduceMul, Int.reduceNeg, Int.zero_add, Int.add_zero, nm_eq, bd_some, bv_some, aI_ok, aL_ok, aS_ok, dv_ok, dw_ok, I_add, I_sub, I_mul, I_neg, I_lt, I_le, I_eq, I_nat, J_add, J_sub, J_mul, J_neg, J_lt, J_le, J_eq, I_l, J_i, I_div, J_div, b2_0, b2_1, b2_nar, nar_0, nar_1, zr_0, zr_1, zr_b2, cmp_eq, cmp_le, cmp_lt, cmp_gt, cmp_ge, mx_I, mn_I, mx_L, mn_L, az_I, if_true, if_false, not_true_eq_false, not_false_eq_true, Bool.false_eq_true, i_0, i_1, i_2, i_3, i_4, i_5, i_6, i_7, i_8, i_9, i_10, i_11, i_12, i_16, i_18, i_20, i_24, i_28, i_29, i_30, i_31, i_32, i_33, i_34, i_35, i_37, i_40, i_41, i_42, i_43, i_45, i_46, i_47, i_48, i_57, i_59, i_63, i_64, i_96, i_97, i_98, i_99, i_100, i_101, i_102, i_103, i_104, i_105, i_106, i_107, i_108, i_109, i_110, i_111, i_112, i_113, i_122, i_200, i_255, i_256, i_257, i_258, i_355, i_400, i_999, i_1000, i_1200, i_5680, i_9999, i_10000, i_99999, j_0, j_1, j_2, j_3, j_4, j_5, j_6, j_9, j_10, j_11, j_98, j_99, j_100, j_999, j_1000, j_9999, j_10000, j_99999, j_1000000, h, z0', e2, Nat.zero_add, gv]) (fun m μ _ => by
    simp (disch := omega) only [fX11_takesAll_96, Int.reduceEq, Int.reduceNe, Int.reduceLT, Int.reduceLE, Int.reduceAdd, Int.reduceSub, Int.reduceMul, Int.reduceNeg, Int.zero_add, Int.add_zero, nm_eq, bd_some, bv_some, aI_ok, aL_ok, aS_ok, dv_ok, dw_ok, I_add, I_sub, I_mul, I_neg, I_lt, I_le, I_eq, I_nat, J_add, J_sub, J_mul, J_neg, J_lt, J_le, J_eq, I_l, J_i, I_div, J_div, b2_0, b2_1, b2_nar, nar_0, nar_1, zr_0, zr_1, zr_b2, cmp_eq, cmp_le, cmp_lt, cmp_gt, cmp_ge, mx_I, mn_I, mx_L, mn_L, az_I, if_true, if_false, not_true_eq_false, not_false_eq_true, Bool.false_eq_true, i_0, i_1, i_2, i_3, i_4, i_5, i_6, i_7, i_8, i_9, i_10, i_11, i_12, i_16, i_18, i_20, i_24, i_28, i_29, i_30, i_31, i_32, i_33, i_34, i_35, i_37, i_40, i_41, i_42, i_43, i_45, i_46, i_47, i_48, i_57, i_59, i_63, i_64, i_96, i_97, i_98, i_99, i_100, i_101, i_102, i_103, i_104, i_105, i_106, i_107, i_108, i_109, i_110, i_111, i_112, i_113, i_122, i_200, i_255, i_256, i_257, i_258, i_355, i_400, i_999, i_1000, i_1200, i_5680, i_9999, i_10000, i_99999, j_0, j_1, j_2, j_3, j_4, j_5, j_6, j_9, j_10, j_11, j_98, j_99, j_100, j_999, j_1000, j_9999, j_10000, j_99999, j_1000000]
    rfl) N (by omega)
  -- codes and their numbers, side by side
  have key : ∀ (d m t : Nat) (μ : Mem), d < m → t + d = 1200 → Fr (fun k j => (k = 7 ∨ k = 8) ∧ j < t) ν4 μ → (∀ p, p < t → μ.1 7 p = ν.1 14 p ∧ μ.1 8 p = ν.1 15 p) → ∃ μ', fX11_takesAll_122 N m (I_ (t : Int)) μ = fX11_takesAll_161 N N (I_ 0) μ' ∧ (∀ p, p < 1200 → μ'.1 7 p = ν.1 14 p ∧ μ'.1 8 p = ν.1 15 p) ∧ Fr (fun k j => (k = 7 ∨ k = 8) ∧ j < 1200) ν4 μ' := by
    intro d
    induction d with
    | zero =>
      intro m t μ h1 h2 h3 h4
      obtain ⟨m, rfl⟩ : ∃ mm, m = mm + 1 := ⟨m - 1, by omega⟩
      have e : t = 1200 := by omega
      subst e
      refine ⟨μ, ?_, h4, h3⟩
      have e2 : ((1200 : Nat) : Int) = 1200 := rfl
      rw [e2]
      simp (disch := omega) only [fX11_takesAll_122, Int.reduceEq, Int.reduceNe, Int.reduceLT, Int.reduceLE, Int.reduceAdd, Int.reduceSub, Int.reduceMul, Int.reduceNeg, Int.zero_add, Int.add_zero, nm_eq, bd_some, bv_some, aI_ok, aL_ok, aS_ok, dv_ok, dw_ok, I_add, I_sub, I_mul, I_neg, I_lt, I_le, I_eq, I_nat, J_add, J_sub, J_mul, J_neg, J_lt, J_le, J_eq, I_l, J_i, I_div, J_div, b2_0, b2_1, b2_nar, nar_0, nar_1, zr_0, zr_1, zr_b2, cmp_eq, cmp_le, cmp_lt, cmp_gt, cmp_ge, mx_I, mn_I, mx_L, mn_L, az_I, if_true, if_false, not_true_eq_false, not_false_eq_true, Bool.false_eq_true, i_0, i_1, i_2, i_3, i_4, i_5, i_6, i_7, i_8, i_9, i_10, i_11, i_12, i_16, i_18, i_20, i_24, i_28, i_29, i_30, i_31, i_32, i_33, i_34, i_35, i_37, i_40, i_41, i_42, i_43, i_45, i_46, i_47, i_48, i_57, i_59, i_63, i_64, i_96, i_97, i_98, i_99, i_100, i_101, i_102, i_103, i_104, i_105, i_106, i_107, i_108, i_109, i_110, i_111, i_112, i_113, i_122, i_200, i_255, i_256, i_257, i_258, i_355, i_400, i_999, i_1000, i_1200, i_5680, i_9999, i_10000, i_99999, j_0, j_1, j_2, j_3, j_4, j_5, j_6, j_9, j_10, j_11, j_98, j_99, j_100, j_999, j_1000, j_9999, j_10000, j_99999, j_1000000]
    | succ d ih =>
      intro m t μ h1 h2 h3 h4
      obtain ⟨m, rfl⟩ : ∃ mm, m = mm + 1 := ⟨m - 1, by omega⟩
      have h : ¬ 1200 ≤ (t : Int) := by omega
      have e2 : ((t + 1 : Nat) : Int) = (t : Int) + 1 := by omega
      have gv14 : μ.1 14 t = ν.1 14 t := by rw [(h3 14 t (by omega)).1, (d3 14 t (by omega)).1, (c3 14 t (by omega)).1, (b3 14 t (by omega)).1, st_ne (by omega), st_ne (by omega), (a3 14 t (by omega)).1]
      have gv15 : μ.1 15 t = ν.1 15 t := by rw [(h3 15 t (by omega)).1, (d3 15 t (by omega)).1, (c3 15 t (by omega)).1, (b3 15 t (by omega)).1, st_ne (by omega), st_ne (by omega), (a3 15 t (by omega)).1]
      obtain ⟨μ', x1, x2, x3⟩ := ih m (t + 1) (stI (stI μ 7 t (ν.1 14 t)) 8 t (ν.1 15 t)) (by omega) (by omega) (((h3.mono (fun k j w => ⟨w.1, by omega⟩)).stI ⟨Or.inl rfl, by omega⟩).stI ⟨Or.inr rfl, by omega⟩) (fun p hp => by
        by_cases e : p = t
        · rw [e]
          exact ⟨by rw [st_ne (by omega), at_S], at_S⟩
        · rw [st_ne (by omega), st_I, if_neg (by omega), st_I, if_neg (by omega), st_ne (by omega)]
          exact h4 p (by omega))
      refine ⟨μ', ?_, x2, x3⟩
      rw [← x1, e2]
      simp (disch := omega) only [fX11_takesAll_122, Int.reduceEq, Int.reduceNe, Int.reduceLT, Int.reduceLE, Int.reduceAdd, Int.reduceSub, Int.reduceMul, Int.reduceNeg, Int.zero_add, Int.add_zero, nm_eq, bd_some, bv_some, aI_ok, aL_ok, aS_ok, dv_ok, dw_ok, I_add, I_sub, I_mul, I_neg, I_lt, I_le, I_eq, I_nat, J_add, J_sub, J_mul, J_neg, J_lt, J_le, J_eq, I_l, J_i, I_div, J_div, b2_0, b2_1, b2_nar, nar_0, nar_1, zr_0, zr_1, zr_b2, cmp_eq, cmp_le, cmp_lt, cmp_gt, cmp_ge, mx_I, mn_I, mx_L, mn_L, az_I, if_true, if_false, not_true_eq_false, not_false_eq_true, Bool.false_eq_true, i_0, i_1, i_2, i_3, i_4, i_5, i_6, i_7, i_8, i_9, i_10, i_11, i_12, i_16, i_18, i_20, i_24, i_28, i_29, i_30, i_31, i_32, i_33, i_34, i_35, i_37, i_40, i_41, i_42, i_43, i_45, i_46, i_47, i_48, i_57, i_59, i_63, i_64, i_96, i_97, i_98, i_99, i_100, i_101, i_102, i_103, i_104, i_105, i_106, i_107, i_108, i_109, i_110, i_111, i_112, i_113, i_122, i_200, i_255, i_256, i_257, i_258, i_355, i_400, i_999, i_1000, i_1200, i_5680, i_9999, i_10000, i_99999, j_0, j_1, j_2, j_3, j_4, j_5, j_6, j_9, j_10, j_11, j_98, j_99, j_100, j_999, j_1000, j_9999, j_10000, j_99999, j_1000000, h, z0', gv14, gv15, st_ne]
  obtain ⟨ν5, e1, e2, e3⟩ := key 1200 N 0 ν4 (by omega) (by omega) Fr.rf (fun p hp => absurd hp (by omega))
  have e1' : fX11_takesAll_122 N N (I_ 0) ν4 = fX11_takesAll_161 N N (I_ 0) ν5 := e1
  obtain ⟨ν6, f1, f2, f3⟩ := fill (loop := fun m i μ => fX11_takesAll_161 N m i μ) (fin := fun μ => fX11_takesAll_184 N μ) (c := 9) (o := 0) (L := 3) (i0 := 0) (g := fun j => ν.1 16 j) (μ0 := ν5) (fun m t μ ht g => by
    have h : ¬ 3 ≤ (t : Int) := by omega
    have e2 : ((t + 1 : Nat) : Int) = (t : Int) + 1 := by omega
    have gv : μ.1 16 t = ν.1 16 t := by rw [(g 16 t (by omega)).1, (e3 16 t (by omega)).1, (d3 16 t (by omega)).1, (c3 16 t (by omega)).1, (b3 16 t (by omega)).1, st_ne (by omega), st_ne (by omega), (a3 16 t (by omega)).1]
    simp (disch := omega) only [fX11_takesAll_161, Int.reduceEq, Int.reduceNe, Int.reduceLT, Int.reduceLE, Int.reduceAdd, Int.reduceSub, Int.reduceMul, Int.reduceNeg, Int.zero_add, Int.add_zero, nm_eq, bd_some, bv_some, aI_ok, aL_ok, aS_ok, dv_ok, dw_ok, I_add, I_sub, I_mul, I_neg, I_lt, I_le, I_eq, I_nat, J_add, J_sub, J_mul, J_neg, J_lt, J_le, J_eq, I_l, J_i, I_div, J_div, b2_0, b2_1, b2_nar, nar_0, nar_1, zr_0, zr_1, zr_b2, cmp_eq, cmp_le, cmp_lt, cmp_gt, cmp_ge, mx_I, mn_I, mx_L, mn_L, az_I, if_true, if_false, not_true_eq_false, not_false_eq_true, Bool.false_eq_true, i_0, i_1, i_2, i_3, i_4, i_5, i_6, i_7, i_8, i_9, i_10, i_11, i_12, i_16, i_18, i_20, i_24, i_28, i_29, i_30, i_31, i_32, i_33, i_34, i_35, i_37, i_40, i_41, i_42, i_43, i_45, i_46, i_47, i_48, i_57, i_59, i_63, i_64, i_96, i_97, i_98, i_99, i_100, i_101, i_102, i_103, i_104, i_105, i_106, i_107, i_108, i_109, i_110, i_111, i_112, i_113, i_122, i_200, i_255, i_256, i_257, i_258, i_355, i_400, i_999, i_1000, i_1200, i_5680, i_9999, i_10000, i_99999, j_0, j_1, j_2, j_3, j_4, j_5, j_6, j_9, j_10, j_11, j_98, j_99, j_100, j_999, j_1000, j_9999, j_10000, j_99999, j_1000000, h, z0', e2, Nat.zero_add, gv]) (fun m μ _ => by
    simp (disch := omega) only [fX11_takesAll_161, Int.reduceEq, Int.reduceNe, Int.reduceLT, Int.reduceLE, Int.reduceAdd, Int.reduceSub, Int.reduceMul, Int.reduceNeg, Int.zero_add, Int.add_zero, nm_eq, bd_some, bv_some, aI_ok, aL_ok, aS_ok, dv_ok, dw_ok, I_add, I_sub, I_mul, I_neg, I_lt, I_le, I_eq, I_nat, J_add, J_sub, J_mul, J_neg, J_lt, J_le, J_eq, I_l, J_i, I_div, J_div, b2_0, b2_1, b2_nar, nar_0, nar_1, zr_0, zr_1, zr_b2, cmp_eq, cmp_le, cmp_lt, cmp_gt, cmp_ge, mx_I, mn_I, mx_L, mn_L, az_I, if_true, if_false, not_true_eq_false, not_false_eq_true, Bool.false_eq_true, i_0, i_1, i_2, i_3, i_4, i_5, i_6, i_7, i_8, i_9, i_10, i_11, i_12, i_16, i_18, i_20, i_24, i_28, i_29, i_30, i_31, i_32, i_33, i_34, i_35, i_37, i_40, i_41, i_42, i_43, i_45, i_46, i_47, i_48, i_57, i_59, i_63, i_64, i_96, i_97, i_98, i_99, i_100, i_101, i_102, i_103, i_104, i_105, i_106, i_107, i_108, i_109, i_110, i_111, i_112, i_113, i_122, i_200, i_255, i_256, i_257, i_258, i_355, i_400, i_999, i_1000, i_1200, i_5680, i_9999, i_10000, i_99999, j_0, j_1, j_2, j_3, j_4, j_5, j_6, j_9, j_10, j_11, j_98, j_99, j_100, j_999, j_1000, j_9999, j_10000, j_99999, j_1000000]
    rfl) N (by omega)
  have h18 : ν1.1 0 18 = I_ (mN V) := by rw [(a3 0 18 (by omega)).1]; exact h.2.2.1.1
  have h19 : ν1.1 0 19 = I_ (fN V) := by rw [(a3 0 19 (by omega)).1]; exact h.2.2.2.1.1
  have e27 : fX11_takesAll_27 N ν1 = fX11_takesAll_45 N N (I_ 0) (stI (stI ν1 0 5 (I_ (mN V))) 0 6 (I_ (fN V))) := by
    simp (disch := omega) only [fX11_takesAll_27, Int.reduceEq, Int.reduceNe, Int.reduceLT, Int.reduceLE, Int.reduceAdd, Int.reduceSub, Int.reduceMul, Int.reduceNeg, Int.zero_add, Int.add_zero, nm_eq, bd_some, bv_some, aI_ok, aL_ok, aS_ok, dv_ok, dw_ok, I_add, I_sub, I_mul, I_neg, I_lt, I_le, I_eq, I_nat, J_add, J_sub, J_mul, J_neg, J_lt, J_le, J_eq, I_l, J_i, I_div, J_div, b2_0, b2_1, b2_nar, nar_0, nar_1, zr_0, zr_1, zr_b2, cmp_eq, cmp_le, cmp_lt, cmp_gt, cmp_ge, mx_I, mn_I, mx_L, mn_L, az_I, if_true, if_false, not_true_eq_false, not_false_eq_true, Bool.false_eq_true, i_0, i_1, i_2, i_3, i_4, i_5, i_6, i_7, i_8, i_9, i_10, i_11, i_12, i_16, i_18, i_20, i_24, i_28, i_29, i_30, i_31, i_32, i_33, i_34, i_35, i_37, i_40, i_41, i_42, i_43, i_45, i_46, i_47, i_48, i_57, i_59, i_63, i_64, i_96, i_97, i_98, i_99, i_100, i_101, i_102, i_103, i_104, i_105, i_106, i_107, i_108, i_109, i_110, i_111, i_112, i_113, i_122, i_200, i_255, i_256, i_257, i_258, i_355, i_400, i_999, i_1000, i_1200, i_5680, i_9999, i_10000, i_99999, j_0, j_1, j_2, j_3, j_4, j_5, j_6, j_9, j_10, j_11, j_98, j_99, j_100, j_999, j_1000, j_9999, j_10000, j_99999, j_1000000, h18, h19, st_I, st_I2, st_L1, st_L2, st_R1, st_R2, Nat.reduceEqDiff, Nat.reduceAdd, and_true, true_and, and_false, false_and, and_self, if_false, if_true]
  have g26 : Fr (fun k j => k = 4 ∨ k = 5 ∨ k = 6 ∨ k = 7 ∨ k = 8 ∨ k = 9) (stI (stI ν1 0 5 (I_ (mN V))) 0 6 (I_ (fN V))) ν6 := (((b3.mono (fun k j w => by omega)).tr (c3.mono (fun k j w => by omega))).tr ((d3.mono (fun k j w => by omega)).tr (e3.mono (fun k j w => by omega)))).tr (f3.mono (fun k j w => by omega))
  have gL : Fr (fun k j => k = 0 ∧ (j = 4 ∨ j = 30)) ν6 (stI (stI ν6 0 4 (I_ 0)) 0 30 (I_ 0)) := (Fr.rf.stI ⟨rfl, Or.inl rfl⟩).stI ⟨rfl, Or.inr rfl⟩
  have row1 : ∀ j, j < 355 → (stI (stI ν6 0 4 (I_ 0)) 0 30 (I_ 0)).1 1 j = ν.1 2 j := fun j hj => by
    rw [(gL 1 j (by omega)).1, (g26 1 j (by omega)).1, st_ne (by omega), st_ne (by omega)]
    have := a2 j hj
    rw [Nat.zero_add] at this
    exact this
  have row6 : ∀ j, j < 18 → (stI (stI ν6 0 4 (I_ 0)) 0 30 (I_ 0)).1 6 j = ν.1 13 j := fun j hj => by
    rw [(gL 6 j (by omega)).1, (f3 6 j (by omega)).1, (e3 6 j (by omega)).1]
    have := d2 j hj
    rw [Nat.zero_add] at this
    exact this
  refine ⟨stI (stI ν6 0 4 (I_ 0)) 0 30 (I_ 0), ?_, ⟨fun k z hk a c => ?_, ?_, ⟨?_, fun i i0 i1 => ?_⟩, ⟨?_, fun i i0 i1 => ?_⟩, fun k k0 k2 => ⟨?_, ?_⟩⟩, ?_, at_S, ?_⟩
  · have e184 : fX11_takesAll_184 N ν6 = some ((), stI (stI ν6 0 4 (I_ 0)) 0 30 (I_ 0)) := rfl
    have ea : fX11_takesAll N ν = fX11_takesAll_27 N ν1 := a1
    have eb : fX11_takesAll_45 N N (I_ 0) (stI (stI ν1 0 5 (I_ (mN V))) 0 6 (I_ (fN V))) = fX11_takesAll_71 N N (I_ 0) ν2 := b1
    have ec : fX11_takesAll_71 N N (I_ 0) ν2 = fX11_takesAll_96 N N (I_ 0) ν3 := c1
    have ed : fX11_takesAll_96 N N (I_ 0) ν3 = fX11_takesAll_122 N N (I_ 0) ν4 := d1
    have ef : fX11_takesAll_161 N N (I_ 0) ν5 = fX11_takesAll_184 N ν6 := f1
    rw [ea, e27, eb, ec, ed, e1', ef, e184]
  · have hh := h.1 k z hk a c
    by_cases m : 11 ≤ k ∧ k ≤ 13
    · rw [if_pos m] at hh ⊢
      rw [szv_m m.1 m.2] at c
      rw [row6 _ (by rw [dI_m m.1 m.2]; omega)]
      exact hh
    · rw [if_neg m] at hh ⊢
      have i1 := dI_in hk m a c (by omega)
      rw [row1 _ i1.1]
      exact hh
  · rw [row1 34 (by omega)]; exact h.2.1
  · rw [(gL 0 5 (by omega)).1, (g26 0 5 (by omega)).1]
    simp (disch := omega) only [st_I, st_I2, st_L1, st_L2, st_R1, st_R2, Nat.reduceEqDiff, Nat.reduceAdd, and_true, true_and, and_false, false_and, and_self, if_false, if_true]
  · rw [(gL 4 _ (by omega)).1, (f3 4 _ (by omega)).1, (e3 4 _ (by omega)).1, (d3 4 _ (by omega)).1, (c3 4 _ (by omega)).1]
    have := b2' i.toNat (by omega)
    rw [Nat.zero_add] at this
    rw [this]
    exact h.2.2.1.2 i i0 i1
  · rw [(gL 0 6 (by omega)).1, (g26 0 6 (by omega)).1]
    simp (disch := omega) only [st_I, st_I2, st_L1, st_L2, st_R1, st_R2, Nat.reduceEqDiff, Nat.reduceAdd, and_true, true_and, and_false, false_and, and_self, if_false, if_true]
  · rw [(gL 5 _ (by omega)).1, (f3 5 _ (by omega)).1, (e3 5 _ (by omega)).1, (d3 5 _ (by omega)).1]
    have := c2 i.toNat (by omega)
    rw [Nat.zero_add] at this
    rw [this]
    exact h.2.2.2.1.2 i i0 i1
  · rw [(gL 9 _ (by omega)).1]
    have := f2 k.toNat (by omega)
    rw [Nat.zero_add] at this
    rw [this]
    exact (h.2.2.2.2 k k0 k2).1
  · have hl := (hG k k0 k2).2
    refine rsq_of _ _ (by omega) (fun j a c => ?_) (h.2.2.2.2 k k0 k2).2
    rw [(gL 7 _ (by omega)).1, (gL 8 _ (by omega)).1, (f3 7 _ (by omega)).1, (f3 8 _ (by omega)).1]
    exact e2 j (by omega)
  · simp (disch := omega) only [st_I, st_I2, st_L1, st_L2, st_R1, st_R2, Nat.reduceEqDiff, Nat.reduceAdd, and_true, true_and, and_false, false_and, and_self, if_false, if_true]
  · have g01 : Fr (fun k j => k = 1 ∨ (4 ≤ k ∧ k ≤ 9) ∨ (k = 0 ∧ (j = 4 ∨ j = 5 ∨ j = 6 ∨ j = 30))) ν (stI (stI ν1 0 5 (I_ (mN V))) 0 6 (I_ (fN V))) := ((a3.mono (fun k j w => by omega)).stI (by omega)).stI (by omega)
    exact (g01.tr (g26.mono (fun k j w => by omega))).tr (gL.mono (fun k j w => by omega))
end
