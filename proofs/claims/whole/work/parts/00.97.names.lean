/-! Tables of names: how many, how long, the letters; P: the numbers that hold them. -/
def mq (a c : Int → Int) : Nat → Nat → Bool
  | 0, _ => true
  | d + 1, j => decide (a j = c j) && mq a c d (j + 1)
theorem mq_y {a c : Int → Int} : ∀ (d j : Nat), (mq a c d j = true) ↔ ∀ i : Nat, j ≤ i → i < j + d → a i = c i := by
  intro d
  induction d with
  | zero => intro j; exact ⟨fun _ i h1 h2 => absurd h2 (by omega), fun _ => rfl⟩
  | succ d ih =>
    intro j
    show ((decide (a j = c j) && mq a c d (j + 1)) = true) ↔ _
    rw [Bool.and_eq_true, decide_eq_true_iff, ih]
    constructor
    · intro ⟨h1, h2⟩ i h3 h4
      by_cases hi : i = j
      · rw [hi]; exact h1
      · exact h2 i (by omega) (by omega)
    · intro h
      exact ⟨h j (by omega) (by omega), fun i h3 h4 => h i (by omega) (by omega)⟩
theorem mw_congr {k : Nat} {a c : Int → Int} : ∀ (d j : Nat), (∀ i : Nat, j ≤ i → i < j + d → a i = c i) → mw k a d j = mw k c d j := by
  intro d
  induction d with
  | zero => intro j _; rfl
  | succ d ih =>
    intro j h
    show (decide (I_ (a j) = chS k j) && mw k a d (j + 1)) = (decide (I_ (c j) = chS k j) && mw k c d (j + 1))
    rw [h j (by omega) (by omega), ih (j + 1) (fun i h1 h2 => h i (by omega) (by omega))]
def nkw (a : Int → Int) (l : Int) : Prop := ∀ k : Nat, k < 11 → ¬ (l = (lw_ k : Int) ∧ mw k a (lw_ k) 0 = true)
def NV (c : Int) (L : Int → Int) (A : Int → Int → Int) : Prop := 0 ≤ c ∧ c ≤ 6 ∧ ∀ i, 0 ≤ i → i < c → (1 ≤ L i ∧ L i ≤ 6) ∧ lets (A i) (L i).toNat ∧ nkw (A i) (L i)
def pP (L : Int → Int) (A : Int → Int → Int) (i : Int) : Int := pk (A i) (L i).toNat
def fnd (P : Int → Int) (p : Int) : Nat → Int → Int
  | 0, _ => -1
  | d + 1, i => if P i = p then i else fnd P p d (i + 1)
theorem fnd_in {P : Int → Int} {p : Int} : ∀ (d : Nat) (i : Int), fnd P p d i = -1 ∨ (i ≤ fnd P p d i ∧ fnd P p d i < i + d ∧ P (fnd P p d i) = p) := by
  intro d
  induction d with
  | zero => intro i; exact Or.inl rfl
  | succ d ih =>
    intro i
    by_cases h : P i = p
    · have e : fnd P p (d + 1) i = i := if_pos h
      rw [e]; right; exact ⟨by omega, by omega, h⟩
    · have e : fnd P p (d + 1) i = fnd P p d (i + 1) := if_neg h
      rw [e]
      rcases ih (i + 1) with q | q
      · exact Or.inl q
      · exact Or.inr ⟨by omega, by omega, q.2.2⟩
theorem fnd_nat {P : Int → Int} {p c : Int} (h : 0 ≤ c) : -1 ≤ fnd P p c.toNat 0 ∧ (fnd P p c.toNat 0 < c ∨ fnd P p c.toNat 0 = -1) := by
  rcases fnd_in (P := P) (p := p) c.toNat 0 with q | q
  · omega
  · omega
/-- the word at s as a number -/
def wpk (T : Int → Int) (n s : Int) : Int := pk (fun j => T (s + j)) (we T n s - s).toNat
def tdx (T : Int → Int) (n s c : Int) (P : Int → Int) : Int := if kd T n s = 256 then fnd P (wpk T n s) c.toNat 0 else -1
def nmK (T : Int → Int) (n s : Int) : Bool := decide (1 ≤ we T n s - s ∧ we T n s - s ≤ 6 ∧ kwd T n s = -1)
theorem nmK_y {T : Int → Int} {n s : Int} : (nmK T n s = true) = (1 ≤ we T n s - s ∧ we T n s - s ≤ 6 ∧ kwd T n s = -1) := by unfold nmK; exact propext decide_eq_true_iff
section
variable {T : Int → Int} {n s c : Int} {L : Int → Int} {A : Int → Int → Int}
theorem w_lets (hs : s ≤ n) : lets (fun j => T (s + j)) (we T n s - s).toNat := by
  intro j hj
  have hw := we_in (T := T) hs
  have := sca_all (p := cLe) (T := T) (n - s).toNat s (s + j) (by omega) (show s + j < we T n s by omega)
  rw [cLe_y] at this
  exact this
theorem kwd_w (h : ¬ kwd T n s = -1) : ∃ k : Nat, k < 11 ∧ isW T n s k = true := by
  unfold kwd at h
  by_cases h0 : isW T n s 0 = true
  · exact ⟨0, by omega, h0⟩
  rw [if_neg h0] at h
  by_cases h1 : isW T n s 1 = true
  · exact ⟨1, by omega, h1⟩
  rw [if_neg h1] at h
  by_cases h2 : isW T n s 2 = true
  · exact ⟨2, by omega, h2⟩
  rw [if_neg h2] at h
  by_cases h3 : isW T n s 3 = true
  · exact ⟨3, by omega, h3⟩
  rw [if_neg h3] at h
  by_cases h4 : isW T n s 4 = true
  · exact ⟨4, by omega, h4⟩
  rw [if_neg h4] at h
  by_cases h5 : isW T n s 5 = true
  · exact ⟨5, by omega, h5⟩
  rw [if_neg h5] at h
  by_cases h6 : isW T n s 6 = true
  · exact ⟨6, by omega, h6⟩
  rw [if_neg h6] at h
  by_cases h7 : isW T n s 7 = true
  · exact ⟨7, by omega, h7⟩
  rw [if_neg h7] at h
  by_cases h8 : isW T n s 8 = true
  · exact ⟨8, by omega, h8⟩
  rw [if_neg h8] at h
  by_cases h9 : isW T n s 9 = true
  · exact ⟨9, by omega, h9⟩
  rw [if_neg h9] at h
  by_cases h10 : isW T n s 10 = true
  · exact ⟨10, by omega, h10⟩
  rw [if_neg h10] at h
  exact absurd rfl h
theorem w_kwd {k : Nat} (hk : k < 11) (h : isW T n s k = true) : ¬ kwd T n s = -1 := by
  intro q
  unfold kwd at q
  have w : ∀ i : Nat, i = k → isW T n s i = true := fun i e => by rw [e]; exact h
  by_cases h0 : isW T n s 0 = true
  · rw [if_pos h0] at q; omega
  rw [if_neg h0] at q
  by_cases h1 : isW T n s 1 = true
  · rw [if_pos h1] at q; omega
  rw [if_neg h1] at q
  by_cases h2 : isW T n s 2 = true
  · rw [if_pos h2] at q; omega
  rw [if_neg h2] at q
  by_cases h3 : isW T n s 3 = true
  · rw [if_pos h3] at q; omega
  rw [if_neg h3] at q
  by_cases h4 : isW T n s 4 = true
  · rw [if_pos h4] at q; omega
  rw [if_neg h4] at q
  by_cases h5 : isW T n s 5 = true
  · rw [if_pos h5] at q; omega
  rw [if_neg h5] at q
  by_cases h6 : isW T n s 6 = true
  · rw [if_pos h6] at q; omega
  rw [if_neg h6] at q
  by_cases h7 : isW T n s 7 = true
  · rw [if_pos h7] at q; omega
  rw [if_neg h7] at q
  by_cases h8 : isW T n s 8 = true
  · rw [if_pos h8] at q; omega
  rw [if_neg h8] at q
  by_cases h9 : isW T n s 9 = true
  · rw [if_pos h9] at q; omega
  rw [if_neg h9] at q
  by_cases h10 : isW T n s 10 = true
  · rw [if_pos h10] at q; omega
  have hd : ∀ i : Nat, i ≠ k ∨ isW T n s i = true := fun i => by
    by_cases e : i = k
    · exact Or.inr (w i e)
    · exact Or.inl e
  have : k = 0 ∨ k = 1 ∨ k = 2 ∨ k = 3 ∨ k = 4 ∨ k = 5 ∨ k = 6 ∨ k = 7 ∨ k = 8 ∨ k = 9 ∨ k = 10 := by omega
  rcases this with e | e | e | e | e | e | e | e | e | e | e <;> subst e <;> contradiction
theorem w_nkw (h : kwd T n s = -1) : nkw (fun j => T (s + j)) (we T n s - s) := fun k hk q => by
  have : isW T n s k = true := by
    unfold isW
    rw [decide_eq_true q.1, q.2]
    rfl
  exact w_kwd hk this h
/-- a word that is told -/
theorem tdx_ok (hs : s ≤ n) (hT : tB T n) (hV : NV c L A) (h : 0 ≤ tdx T n s c (pP L A)) : kd T n s = 256 ∧ nmK T n s = true ∧ tdx T n s c (pP L A) = fnd (pP L A) (wpk T n s) c.toNat 0 ∧ tdx T n s c (pP L A) < c := by
  unfold tdx at h ⊢
  by_cases hk : kd T n s = 256
  · rw [if_pos hk] at h ⊢
    rcases fnd_in (P := pP L A) (p := wpk T n s) c.toNat 0 with q | q
    · omega
    · obtain ⟨q1, q2, q3⟩ := q
      have c0 := hV.1
      have hv := hV.2.2 _ q1 (by omega)
      have hi := pk_inj hv.2.1 (w_lets (T := T) hs) q3
      have hw := we_in (T := T) hs
      have el : L (fnd (pP L A) (wpk T n s) c.toNat 0) = we T n s - s := by omega
      refine ⟨hk, ?_, rfl, by omega⟩
      rw [nmK_y]
      refine ⟨by omega, by omega, ?_⟩
      by_cases hq : kwd T n s = -1
      · exact hq
      · exfalso
        obtain ⟨k, k1, k2⟩ := kwd_w hq
        unfold isW at k2
        rw [Bool.and_eq_true, decide_eq_true_iff] at k2
        refine hv.2.2 k k1 ⟨el.trans k2.1, ?_⟩
        rw [mw_congr (c := fun j => T (s + j)) (lw_ k) 0 (fun i h1 h2 => hi.2 i (by omega))]
        exact k2.2
  · rw [if_neg hk] at h; omega
theorem nmK_256 (hs : s ≤ n) (h : nmK T n s = true) : kd T n s = 256 := by
  rw [nmK_y] at h
  by_cases q : s < n ∧ cLe (T s) = true
  · exact kd_y q.1 q.2
  · exfalso
    have e : we T n s = s := by
      by_cases hs : s < n
      · exact sca_n hs (fun w => q ⟨hs, w⟩)
      · exact sca_0 (by omega)
    omega
end
/-! The class's tables. -/
def NC (t : Nat) (c : Int) (L : Int → Int) (A : Int → Int → Int) (μ : Mem) : Prop := μ.1 t 2 = I_ c ∧ ∀ i, 0 ≤ i → i < c → μ.1 (t + 2) i.toNat = I_ (L i) ∧ ∀ j, 0 ≤ j → j < L i → μ.1 (t + 1) (i * 6 + j).toNat = I_ (A i j)
theorem nar_b {x : Int} (h0 : -128 ≤ x) (h1 : x ≤ 127) : vp_nar .byte (I_ x) = I_ x := by
  have q : ∀ k : Fin 256, vp_nar .byte (I_ ((k.1 : Int) - 128)) = I_ ((k.1 : Int) - 128) := by decide +kernel
  have := q ⟨(x + 128).toNat, by omega⟩
  rw [show (((x + 128).toNat : Nat) : Int) - 128 = x by omega] at this
  exact this
section
variable {T : Int → Int} {n s f c : Int} {L : Int → Int} {A : Int → Int → Int} {N b t : Nat} {μ : Mem}
theorem NC.F {P : Nat → Nat → Prop} {μ' : Mem} (h : NC t c L A μ) (g : Fr P μ μ') (hp : ∀ k j, P k j → k ≠ t ∧ k ≠ t + 1 ∧ k ≠ t + 2) : NC t c L A μ' := by
  refine ⟨?_, fun i h0 h1 => ⟨?_, fun j j0 j1 => ?_⟩⟩
  · rw [(g t 2 (fun q => (hp _ _ q).1 rfl)).1]; exact h.1
  · rw [(g (t + 2) _ (fun q => (hp _ _ q).2.2 rfl)).1]; exact (h.2 i h0 h1).1
  · rw [(g (t + 1) _ (fun q => (hp _ _ q).2.1 rfl)).1]; exact (h.2 i h0 h1).2 j j0 j1
theorem c_isAt (hT : tB T n) (hC : CR T n b s f μ) (hV : NV c L A) (hN : NC t c L A μ) {i : Int} (i0 : 0 ≤ i) (i1 : i < c) (hl : s + L i ≤ n) : ∀ (d m j : Nat), d < m → (j : Int) + d = L i → fX4_isAt_3 N m t (I_ i) (I_ s) (I_ j) μ = some (I_ (b2 (mq (A i) (fun k => T (s + k)) d j = true)), μ) := by
  have hv := hV.2.2 i i0 i1
  have hc := hV.2.1
  have s0 := hC.2.2.2.2.2.2.2.1
  have n1 := hT.2.1
  intro d
  induction d with
  | zero =>
    intro m j h1 h2
    obtain ⟨m, rfl⟩ : ∃ mm, m = mm + 1 := ⟨m - 1, by omega⟩
    have hle : L i ≤ j := by omega
    have e : b2 (mq (A i) (fun k => T (s + k)) 0 j = true) = 1 := b2_t rfl
    rw [e]
    simp (disch := omega) only [fX4_isAt_3, Int.reduceEq, Int.reduceNe, Int.reduceLT, Int.reduceLE, Int.reduceAdd, Int.reduceSub, Int.reduceMul, Int.reduceNeg, Int.zero_add, Int.add_zero, nm_eq, bd_some, bv_some, aI_ok, aL_ok, aS_ok, dv_ok, dw_ok, I_add, I_sub, I_mul, I_neg, I_lt, I_le, I_eq, I_nat, J_add, J_sub, J_mul, J_neg, J_lt, J_le, J_eq, I_l, J_i, I_div, J_div, b2_0, b2_1, b2_nar, nar_0, nar_1, zr_0, zr_1, zr_b2, cmp_eq, cmp_le, cmp_lt, cmp_gt, cmp_ge, mx_I, mn_I, mx_L, mn_L, az_I, if_true, if_false, not_true_eq_false, not_false_eq_true, Bool.false_eq_true, i_0, i_1, i_2, i_3, i_4, i_5, i_6, i_7, i_8, i_9, i_10, i_11, i_12, i_16, i_18, i_20, i_24, i_28, i_29, i_30, i_31, i_32, i_33, i_34, i_35, i_37, i_40, i_41, i_42, i_43, i_45, i_46, i_47, i_48, i_57, i_59, i_63, i_64, i_96, i_97, i_98, i_99, i_100, i_101, i_102, i_103, i_104, i_105, i_106, i_107, i_108, i_109, i_110, i_111, i_112, i_113, i_122, i_200, i_255, i_256, i_257, i_258, i_355, i_400, i_999, i_1000, i_1200, i_5680, i_9999, i_10000, i_99999, j_0, j_1, j_2, j_3, j_4, j_5, j_6, j_9, j_10, j_11, j_98, j_99, j_100, j_999, j_1000, j_9999, j_10000, j_99999, j_1000000, (hN.2 i i0 i1).1, hle]
  | succ d ih =>
    intro m j h1 h2
    obtain ⟨m, rfl⟩ : ∃ mm, m = mm + 1 := ⟨m - 1, by omega⟩
    have hle : ¬ L i ≤ j := by omega
    have hv1 : μ.1 7 (s + j).toNat = I_ (T (s + j)) := hC.2.2.2.2.2.2.1 (s + j) (by omega) (by omega)
    have hv2 := (hN.2 i i0 i1).2 j (by omega) (by omega)
    have b1 := hT.2.2 (s + j)
    have b2' := hv.2.1 j (by omega)
    have hi := ih m (j + 1) (by omega) (by omega)
    rw [show ((j + 1 : Nat) : Int) = (j : Int) + 1 by omega] at hi
    by_cases q : A i j = T (s + j)
    · have e : (mq (A i) (fun k => T (s + k)) (d + 1) j = true) = (mq (A i) (fun k => T (s + k)) d (j + 1) = true) := by
        show ((decide (A i j = T (s + j)) && mq (A i) (fun k => T (s + k)) d (j + 1)) = true) = _
        rw [decide_eq_true q, Bool.true_and]
      simp (disch := omega) only [fX4_isAt_3, Int.reduceEq, Int.reduceNe, Int.reduceLT, Int.reduceLE, Int.reduceAdd, Int.reduceSub, Int.reduceMul, Int.reduceNeg, Int.zero_add, Int.add_zero, nm_eq, bd_some, bv_some, aI_ok, aL_ok, aS_ok, dv_ok, dw_ok, I_add, I_sub, I_mul, I_neg, I_lt, I_le, I_eq, I_nat, J_add, J_sub, J_mul, J_neg, J_lt, J_le, J_eq, I_l, J_i, I_div, J_div, b2_0, b2_1, b2_nar, nar_0, nar_1, zr_0, zr_1, zr_b2, cmp_eq, cmp_le, cmp_lt, cmp_gt, cmp_ge, mx_I, mn_I, mx_L, mn_L, az_I, if_true, if_false, not_true_eq_false, not_false_eq_true, Bool.false_eq_true, i_0, i_1, i_2, i_3, i_4, i_5, i_6, i_7, i_8, i_9, i_10, i_11, i_12, i_16, i_18, i_20, i_24, i_28, i_29, i_30, i_31, i_32, i_33, i_34, i_35, i_37, i_40, i_41, i_42, i_43, i_45, i_46, i_47, i_48, i_57, i_59, i_63, i_64, i_96, i_97, i_98, i_99, i_100, i_101, i_102, i_103, i_104, i_105, i_106, i_107, i_108, i_109, i_110, i_111, i_112, i_113, i_122, i_200, i_255, i_256, i_257, i_258, i_355, i_400, i_999, i_1000, i_1200, i_5680, i_9999, i_10000, i_99999, j_0, j_1, j_2, j_3, j_4, j_5, j_6, j_9, j_10, j_11, j_98, j_99, j_100, j_999, j_1000, j_9999, j_10000, j_99999, j_1000000, (hN.2 i i0 i1).1, hle, hv1, hv2, q, hi, e]
    · have e : ¬ (mq (A i) (fun k => T (s + k)) (d + 1) j = true) := by
        show ¬ ((decide (A i j = T (s + j)) && mq (A i) (fun k => T (s + k)) d (j + 1)) = true)
        rw [decide_eq_false q, Bool.false_and]
        exact Bool.false_ne_true
      rw [b2_f e]
      simp (disch := omega) only [fX4_isAt_3, Int.reduceEq, Int.reduceNe, Int.reduceLT, Int.reduceLE, Int.reduceAdd, Int.reduceSub, Int.reduceMul, Int.reduceNeg, Int.zero_add, Int.add_zero, nm_eq, bd_some, bv_some, aI_ok, aL_ok, aS_ok, dv_ok, dw_ok, I_add, I_sub, I_mul, I_neg, I_lt, I_le, I_eq, I_nat, J_add, J_sub, J_mul, J_neg, J_lt, J_le, J_eq, I_l, J_i, I_div, J_div, b2_0, b2_1, b2_nar, nar_0, nar_1, zr_0, zr_1, zr_b2, cmp_eq, cmp_le, cmp_lt, cmp_gt, cmp_ge, mx_I, mn_I, mx_L, mn_L, az_I, if_true, if_false, not_true_eq_false, not_false_eq_true, Bool.false_eq_true, i_0, i_1, i_2, i_3, i_4, i_5, i_6, i_7, i_8, i_9, i_10, i_11, i_12, i_16, i_18, i_20, i_24, i_28, i_29, i_30, i_31, i_32, i_33, i_34, i_35, i_37, i_40, i_41, i_42, i_43, i_45, i_46, i_47, i_48, i_57, i_59, i_63, i_64, i_96, i_97, i_98, i_99, i_100, i_101, i_102, i_103, i_104, i_105, i_106, i_107, i_108, i_109, i_110, i_111, i_112, i_113, i_122, i_200, i_255, i_256, i_257, i_258, i_355, i_400, i_999, i_1000, i_1200, i_5680, i_9999, i_10000, i_99999, j_0, j_1, j_2, j_3, j_4, j_5, j_6, j_9, j_10, j_11, j_98, j_99, j_100, j_999, j_1000, j_9999, j_10000, j_99999, j_1000000, (hN.2 i i0 i1).1, hle, hv1, hv2, q]
theorem c_find3 (hT : tB T n) (hNn : 500 ≤ N) (ht : kN t) (hC : CR T n b s f μ) (hV : NV c L A) (hN : NC t c L A μ) : ∀ (d m : Nat) (i : Int), d < m → 0 ≤ i → i + d = c → fX4_find_3 N m t (I_ s) (I_ (we T n s)) (I_ i) μ = some (I_ (fnd (pP L A) (wpk T n s) d i), μ) := by
  have s0 := hC.2.2.2.2.2.2.2.1
  have n1 := hT.2.1
  have hw := we_in (T := T) (n := n) (i := s) (by omega)
  have hc := hV.2.1
  intro d
  induction d with
  | zero =>
    intro m i h1 h2 h3
    obtain ⟨m, rfl⟩ : ∃ mm, m = mm + 1 := ⟨m - 1, by omega⟩
    have hle : c ≤ i := by omega
    simp (disch := omega) only [fX4_find_3, Int.reduceEq, Int.reduceNe, Int.reduceLT, Int.reduceLE, Int.reduceAdd, Int.reduceSub, Int.reduceMul, Int.reduceNeg, Int.zero_add, Int.add_zero, nm_eq, bd_some, bv_some, aI_ok, aL_ok, aS_ok, dv_ok, dw_ok, I_add, I_sub, I_mul, I_neg, I_lt, I_le, I_eq, I_nat, J_add, J_sub, J_mul, J_neg, J_lt, J_le, J_eq, I_l, J_i, I_div, J_div, b2_0, b2_1, b2_nar, nar_0, nar_1, zr_0, zr_1, zr_b2, cmp_eq, cmp_le, cmp_lt, cmp_gt, cmp_ge, mx_I, mn_I, mx_L, mn_L, az_I, if_true, if_false, not_true_eq_false, not_false_eq_true, Bool.false_eq_true, i_0, i_1, i_2, i_3, i_4, i_5, i_6, i_7, i_8, i_9, i_10, i_11, i_12, i_16, i_18, i_20, i_24, i_28, i_29, i_30, i_31, i_32, i_33, i_34, i_35, i_37, i_40, i_41, i_42, i_43, i_45, i_46, i_47, i_48, i_57, i_59, i_63, i_64, i_96, i_97, i_98, i_99, i_100, i_101, i_102, i_103, i_104, i_105, i_106, i_107, i_108, i_109, i_110, i_111, i_112, i_113, i_122, i_200, i_255, i_256, i_257, i_258, i_355, i_400, i_999, i_1000, i_1200, i_5680, i_9999, i_10000, i_99999, j_0, j_1, j_2, j_3, j_4, j_5, j_6, j_9, j_10, j_11, j_98, j_99, j_100, j_999, j_1000, j_9999, j_10000, j_99999, j_1000000, hN.1, hle]
    rfl
  | succ d ih =>
    intro m i h1 h2 h3
    obtain ⟨m, rfl⟩ : ∃ mm, m = mm + 1 := ⟨m - 1, by omega⟩
    have hle : ¬ c ≤ i := by omega
    have hv := hV.2.2 i h2 (by omega)
    by_cases ql : L i = we T n s - s
    · have ia := c_isAt (N := N) hT hC hV hN h2 (by omega) (by omega) (L i).toNat N 0 (by omega) (by omega)
      have ia' : fX4_isAt N t (I_ i) (I_ s) μ = some (I_ (b2 (mq (A i) (fun k => T (s + k)) (L i).toNat 0 = true)), μ) := by
        unfold fX4_isAt
        rw [if_pos ht]
        exact ia
      by_cases qm : mq (A i) (fun k => T (s + k)) (L i).toNat 0 = true
      · have e : fnd (pP L A) (wpk T n s) (d + 1) i = i := by
          refine if_pos ?_
          unfold pP wpk
          rw [ql]
          refine pk_congr (fun j hj => ?_)
          rw [mq_y] at qm
          exact qm j (by omega) (by omega)
        rw [e]
        rw [ql] at ia' qm
        simp (disch := omega) only [fX4_find_3, Int.reduceEq, Int.reduceNe, Int.reduceLT, Int.reduceLE, Int.reduceAdd, Int.reduceSub, Int.reduceMul, Int.reduceNeg, Int.zero_add, Int.add_zero, nm_eq, bd_some, bv_some, aI_ok, aL_ok, aS_ok, dv_ok, dw_ok, I_add, I_sub, I_mul, I_neg, I_lt, I_le, I_eq, I_nat, J_add, J_sub, J_mul, J_neg, J_lt, J_le, J_eq, I_l, J_i, I_div, J_div, b2_0, b2_1, b2_nar, nar_0, nar_1, zr_0, zr_1, zr_b2, cmp_eq, cmp_le, cmp_lt, cmp_gt, cmp_ge, mx_I, mn_I, mx_L, mn_L, az_I, if_true, if_false, not_true_eq_false, not_false_eq_true, Bool.false_eq_true, i_0, i_1, i_2, i_3, i_4, i_5, i_6, i_7, i_8, i_9, i_10, i_11, i_12, i_16, i_18, i_20, i_24, i_28, i_29, i_30, i_31, i_32, i_33, i_34, i_35, i_37, i_40, i_41, i_42, i_43, i_45, i_46, i_47, i_48, i_57, i_59, i_63, i_64, i_96, i_97, i_98, i_99, i_100, i_101, i_102, i_103, i_104, i_105, i_106, i_107, i_108, i_109, i_110, i_111, i_112, i_113, i_122, i_200, i_255, i_256, i_257, i_258, i_355, i_400, i_999, i_1000, i_1200, i_5680, i_9999, i_10000, i_99999, j_0, j_1, j_2, j_3, j_4, j_5, j_6, j_9, j_10, j_11, j_98, j_99, j_100, j_999, j_1000, j_9999, j_10000, j_99999, j_1000000, hN.1, hle, (hN.2 i h2 (by omega)).1, ql, ia', qm]
      · have e : fnd (pP L A) (wpk T n s) (d + 1) i = fnd (pP L A) (wpk T n s) d (i + 1) := by
          refine if_neg (fun w => qm ?_)
          have := pk_inj hv.2.1 (w_lets (T := T) (n := n) (s := s) (by omega)) w
          rw [mq_y]
          exact fun j h1 h2 => this.2 j (by omega)
        rw [e, ← ih m (i + 1) (by omega) (by omega) (by omega)]
        rw [ql] at ia' qm
        simp (disch := omega) only [fX4_find_3, Int.reduceEq, Int.reduceNe, Int.reduceLT, Int.reduceLE, Int.reduceAdd, Int.reduceSub, Int.reduceMul, Int.reduceNeg, Int.zero_add, Int.add_zero, nm_eq, bd_some, bv_some, aI_ok, aL_ok, aS_ok, dv_ok, dw_ok, I_add, I_sub, I_mul, I_neg, I_lt, I_le, I_eq, I_nat, J_add, J_sub, J_mul, J_neg, J_lt, J_le, J_eq, I_l, J_i, I_div, J_div, b2_0, b2_1, b2_nar, nar_0, nar_1, zr_0, zr_1, zr_b2, cmp_eq, cmp_le, cmp_lt, cmp_gt, cmp_ge, mx_I, mn_I, mx_L, mn_L, az_I, if_true, if_false, not_true_eq_false, not_false_eq_true, Bool.false_eq_true, i_0, i_1, i_2, i_3, i_4, i_5, i_6, i_7, i_8, i_9, i_10, i_11, i_12, i_16, i_18, i_20, i_24, i_28, i_29, i_30, i_31, i_32, i_33, i_34, i_35, i_37, i_40, i_41, i_42, i_43, i_45, i_46, i_47, i_48, i_57, i_59, i_63, i_64, i_96, i_97, i_98, i_99, i_100, i_101, i_102, i_103, i_104, i_105, i_106, i_107, i_108, i_109, i_110, i_111, i_112, i_113, i_122, i_200, i_255, i_256, i_257, i_258, i_355, i_400, i_999, i_1000, i_1200, i_5680, i_9999, i_10000, i_99999, j_0, j_1, j_2, j_3, j_4, j_5, j_6, j_9, j_10, j_11, j_98, j_99, j_100, j_999, j_1000, j_9999, j_10000, j_99999, j_1000000, hN.1, hle, (hN.2 i h2 (by omega)).1, ql, ia', qm]
    · have e : fnd (pP L A) (wpk T n s) (d + 1) i = fnd (pP L A) (wpk T n s) d (i + 1) := by
        refine if_neg (fun w => ql ?_)
        have := pk_inj hv.2.1 (w_lets (T := T) (n := n) (s := s) (by omega)) w
        omega
      rw [e, ← ih m (i + 1) (by omega) (by omega) (by omega)]
      simp (disch := omega) only [fX4_find_3, Int.reduceEq, Int.reduceNe, Int.reduceLT, Int.reduceLE, Int.reduceAdd, Int.reduceSub, Int.reduceMul, Int.reduceNeg, Int.zero_add, Int.add_zero, nm_eq, bd_some, bv_some, aI_ok, aL_ok, aS_ok, dv_ok, dw_ok, I_add, I_sub, I_mul, I_neg, I_lt, I_le, I_eq, I_nat, J_add, J_sub, J_mul, J_neg, J_lt, J_le, J_eq, I_l, J_i, I_div, J_div, b2_0, b2_1, b2_nar, nar_0, nar_1, zr_0, zr_1, zr_b2, cmp_eq, cmp_le, cmp_lt, cmp_gt, cmp_ge, mx_I, mn_I, mx_L, mn_L, az_I, if_true, if_false, not_true_eq_false, not_false_eq_true, Bool.false_eq_true, i_0, i_1, i_2, i_3, i_4, i_5, i_6, i_7, i_8, i_9, i_10, i_11, i_12, i_16, i_18, i_20, i_24, i_28, i_29, i_30, i_31, i_32, i_33, i_34, i_35, i_37, i_40, i_41, i_42, i_43, i_45, i_46, i_47, i_48, i_57, i_59, i_63, i_64, i_96, i_97, i_98, i_99, i_100, i_101, i_102, i_103, i_104, i_105, i_106, i_107, i_108, i_109, i_110, i_111, i_112, i_113, i_122, i_200, i_255, i_256, i_257, i_258, i_355, i_400, i_999, i_1000, i_1200, i_5680, i_9999, i_10000, i_99999, j_0, j_1, j_2, j_3, j_4, j_5, j_6, j_9, j_10, j_11, j_98, j_99, j_100, j_999, j_1000, j_9999, j_10000, j_99999, j_1000000, hN.1, hle, (hN.2 i h2 (by omega)).1, ql]
theorem c_find (hT : tB T n) (hNn : 500 ≤ N) (ht : kN t) (hC : CR T n b s f μ) (hV : NV c L A) (hN : NC t c L A μ) : fX4_find N t (I_ s) (I_ (we T n s)) μ = some (I_ (fnd (pP L A) (wpk T n s) c.toNat 0), μ) := by
  unfold fX4_find
  rw [if_pos ht]
  have c0 := hV.1
  have c1 := hV.2.1
  exact c_find3 hT hNn ht hC hV hN c.toNat N 0 (by omega) (by omega) (by omega)
theorem c_told (hT : tB T n) (hNn : 500 ≤ N) (ht : kN t) (hV : NV c L A) (h : CR T n b s f μ) (hN : NC t c L A μ) : ∃ μ', fX5_toldName N t μ = some (I_ (if f = -1 then tdx T n s c (pP L A) else -1), μ') ∧ CR T n b (oS T n (0 ≤ tdx T n s c (pP L A)) s f) (oF (0 ≤ tdx T n s c (pP L A)) s f) μ' ∧ Fr P_1 μ μ' := by
  have hk := kd_in hT s
  have h9 := h.2.2.2.2.2.2.2.2
  have h8 := h.2.2.2.2.2.2.2.1
  have c0 := hV.1
  have c1 := hV.2.1
  unfold fX5_toldName
  rw [if_pos ht]
  by_cases hf : f = -1
  · subst hf
    obtain ⟨μ', e1, e2, e3⟩ := c_go hT hNn h (ok := 0 ≤ tdx T n s c (pP L A))
    refine ⟨μ', ?_, e2, e3⟩
    rw [if_pos rfl]
    by_cases hw : kd T n s = 256
    · have et : tdx T n s c (pP L A) = fnd (pP L A) (wpk T n s) c.toNat 0 := if_pos hw
      have w3 := (kd_256 hw hT).2.2
      have fi := fnd_nat (P := pP L A) (p := wpk T n s) c0
      have cf := c_find (N := N) hT hNn ht h hV hN
      rw [et] at e1 ⊢
      by_cases q : 0 ≤ fnd (pP L A) (wpk T n s) c.toNat 0
      · rw [if_pos q] at e1
        have q' : ¬ fnd (pP L A) (wpk T n s) c.toNat 0 = -1 := by omega
        simp (disch := omega) only [fX5_toldName_40, Int.reduceEq, Int.reduceNe, Int.reduceLT, Int.reduceLE, Int.reduceAdd, Int.reduceSub, Int.reduceMul, Int.reduceNeg, Int.zero_add, Int.add_zero, nm_eq, bd_some, bv_some, aI_ok, aL_ok, aS_ok, dv_ok, dw_ok, I_add, I_sub, I_mul, I_neg, I_lt, I_le, I_eq, I_nat, J_add, J_sub, J_mul, J_neg, J_lt, J_le, J_eq, I_l, J_i, I_div, J_div, b2_0, b2_1, b2_nar, nar_0, nar_1, zr_0, zr_1, zr_b2, cmp_eq, cmp_le, cmp_lt, cmp_gt, cmp_ge, mx_I, mn_I, mx_L, mn_L, az_I, if_true, if_false, not_true_eq_false, not_false_eq_true, Bool.false_eq_true, i_0, i_1, i_2, i_3, i_4, i_5, i_6, i_7, i_8, i_9, i_10, i_11, i_12, i_16, i_18, i_20, i_24, i_28, i_29, i_30, i_31, i_32, i_33, i_34, i_35, i_37, i_40, i_41, i_42, i_43, i_45, i_46, i_47, i_48, i_57, i_59, i_63, i_64, i_96, i_97, i_98, i_99, i_100, i_101, i_102, i_103, i_104, i_105, i_106, i_107, i_108, i_109, i_110, i_111, i_112, i_113, i_122, i_200, i_255, i_256, i_257, i_258, i_355, i_400, i_999, i_1000, i_1200, i_5680, i_9999, i_10000, i_99999, j_0, j_1, j_2, j_3, j_4, j_5, j_6, j_9, j_10, j_11, j_98, j_99, j_100, j_999, j_1000, j_9999, j_10000, j_99999, j_1000000, h.2.1, h.2.2.2.1, h.2.2.1, h.2.2.2.2.1, hw, w3, cf, q', e1]
      · rw [if_neg q] at e1
        have q' : fnd (pP L A) (wpk T n s) c.toNat 0 = -1 := by omega
        simp (disch := omega) only [fX5_toldName_40, Int.reduceEq, Int.reduceNe, Int.reduceLT, Int.reduceLE, Int.reduceAdd, Int.reduceSub, Int.reduceMul, Int.reduceNeg, Int.zero_add, Int.add_zero, nm_eq, bd_some, bv_some, aI_ok, aL_ok, aS_ok, dv_ok, dw_ok, I_add, I_sub, I_mul, I_neg, I_lt, I_le, I_eq, I_nat, J_add, J_sub, J_mul, J_neg, J_lt, J_le, J_eq, I_l, J_i, I_div, J_div, b2_0, b2_1, b2_nar, nar_0, nar_1, zr_0, zr_1, zr_b2, cmp_eq, cmp_le, cmp_lt, cmp_gt, cmp_ge, mx_I, mn_I, mx_L, mn_L, az_I, if_true, if_false, not_true_eq_false, not_false_eq_true, Bool.false_eq_true, i_0, i_1, i_2, i_3, i_4, i_5, i_6, i_7, i_8, i_9, i_10, i_11, i_12, i_16, i_18, i_20, i_24, i_28, i_29, i_30, i_31, i_32, i_33, i_34, i_35, i_37, i_40, i_41, i_42, i_43, i_45, i_46, i_47, i_48, i_57, i_59, i_63, i_64, i_96, i_97, i_98, i_99, i_100, i_101, i_102, i_103, i_104, i_105, i_106, i_107, i_108, i_109, i_110, i_111, i_112, i_113, i_122, i_200, i_255, i_256, i_257, i_258, i_355, i_400, i_999, i_1000, i_1200, i_5680, i_9999, i_10000, i_99999, j_0, j_1, j_2, j_3, j_4, j_5, j_6, j_9, j_10, j_11, j_98, j_99, j_100, j_999, j_1000, j_9999, j_10000, j_99999, j_1000000, h.2.1, h.2.2.2.1, h.2.2.1, h.2.2.2.2.1, hw, w3, cf, q', e1]
    · have et : tdx T n s c (pP L A) = -1 := if_neg hw
      rw [et] at e1 ⊢
      rw [if_neg (by omega)] at e1
      simp (disch := omega) only [fX5_toldName_40, Int.reduceEq, Int.reduceNe, Int.reduceLT, Int.reduceLE, Int.reduceAdd, Int.reduceSub, Int.reduceMul, Int.reduceNeg, Int.zero_add, Int.add_zero, nm_eq, bd_some, bv_some, aI_ok, aL_ok, aS_ok, dv_ok, dw_ok, I_add, I_sub, I_mul, I_neg, I_lt, I_le, I_eq, I_nat, J_add, J_sub, J_mul, J_neg, J_lt, J_le, J_eq, I_l, J_i, I_div, J_div, b2_0, b2_1, b2_nar, nar_0, nar_1, zr_0, zr_1, zr_b2, cmp_eq, cmp_le, cmp_lt, cmp_gt, cmp_ge, mx_I, mn_I, mx_L, mn_L, az_I, if_true, if_false, not_true_eq_false, not_false_eq_true, Bool.false_eq_true, i_0, i_1, i_2, i_3, i_4, i_5, i_6, i_7, i_8, i_9, i_10, i_11, i_12, i_16, i_18, i_20, i_24, i_28, i_29, i_30, i_31, i_32, i_33, i_34, i_35, i_37, i_40, i_41, i_42, i_43, i_45, i_46, i_47, i_48, i_57, i_59, i_63, i_64, i_96, i_97, i_98, i_99, i_100, i_101, i_102, i_103, i_104, i_105, i_106, i_107, i_108, i_109, i_110, i_111, i_112, i_113, i_122, i_200, i_255, i_256, i_257, i_258, i_355, i_400, i_999, i_1000, i_1200, i_5680, i_9999, i_10000, i_99999, j_0, j_1, j_2, j_3, j_4, j_5, j_6, j_9, j_10, j_11, j_98, j_99, j_100, j_999, j_1000, j_9999, j_10000, j_99999, j_1000000, h.2.1, h.2.2.2.1, hw, e1]
  · rw [oS_f hf, oF_f hf, if_neg hf]
    refine ⟨μ, ?_, h, Fr.rf⟩
    simp (disch := omega) only [Int.reduceEq, Int.reduceNe, Int.reduceLT, Int.reduceLE, Int.reduceAdd, Int.reduceSub, Int.reduceMul, Int.reduceNeg, Int.zero_add, Int.add_zero, nm_eq, bd_some, bv_some, aI_ok, aL_ok, aS_ok, dv_ok, dw_ok, I_add, I_sub, I_mul, I_neg, I_lt, I_le, I_eq, I_nat, J_add, J_sub, J_mul, J_neg, J_lt, J_le, J_eq, I_l, J_i, I_div, J_div, b2_0, b2_1, b2_nar, nar_0, nar_1, zr_0, zr_1, zr_b2, cmp_eq, cmp_le, cmp_lt, cmp_gt, cmp_ge, mx_I, mn_I, mx_L, mn_L, az_I, if_true, if_false, not_true_eq_false, not_false_eq_true, Bool.false_eq_true, i_0, i_1, i_2, i_3, i_4, i_5, i_6, i_7, i_8, i_9, i_10, i_11, i_12, i_16, i_18, i_20, i_24, i_28, i_29, i_30, i_31, i_32, i_33, i_34, i_35, i_37, i_40, i_41, i_42, i_43, i_45, i_46, i_47, i_48, i_57, i_59, i_63, i_64, i_96, i_97, i_98, i_99, i_100, i_101, i_102, i_103, i_104, i_105, i_106, i_107, i_108, i_109, i_110, i_111, i_112, i_113, i_122, i_200, i_255, i_256, i_257, i_258, i_355, i_400, i_999, i_1000, i_1200, i_5680, i_9999, i_10000, i_99999, j_0, j_1, j_2, j_3, j_4, j_5, j_6, j_9, j_10, j_11, j_98, j_99, j_100, j_999, j_1000, j_9999, j_10000, j_99999, j_1000000, h.2.1, hf]
def nwK (T : Int → Int) (n s c : Int) (P : Int → Int) : Bool := nmK T n s && decide (fnd P (wpk T n s) c.toNat 0 = -1)
theorem nwK_y {P : Int → Int} : (nwK T n s c P = true) = (nmK T n s = true ∧ fnd P (wpk T n s) c.toNat 0 = -1) := by unfold nwK; rw [Bool.and_eq_true, decide_eq_true_iff]
def P_nm (t k _ : Nat) : Prop := t ≤ k ∧ k ≤ t + 2
def naL (c : Int) (L : Int → Int) (l : Int) (i : Int) : Int := if i = c then l else L i
def naA (c : Int) (A : Int → Int → Int) (a : Int → Int) (i j : Int) : Int := if i = c then a j else A i j
/-- the letters are laid -/
theorem c_add21 (hT : tB T n) {l : Int} (hl : s + l ≤ n) (l6 : l ≤ 6) (s0 : 0 ≤ s) (c0 : 0 ≤ c) (c5 : c < 6) (t8 : 8 ≤ t) {kk : Mem → Option (Unit × Mem)} (hk : ∀ μ, fX4_add_56 N t (I_ s) (I_ (s + l)) μ = kk μ) : ∀ (d m j : Nat) (μ : Mem), d < m → (j : Int) + d = l → μ.1 t 2 = I_ c → TP T n 7 μ → (∀ i : Nat, i < j → μ.1 (t + 1) (c * 6 + i).toNat = I_ (T (s + i))) → ∃ μ', fX4_add_21 N m t (I_ s) (I_ (s + l)) (I_ j) μ = kk μ' ∧ Fr (fun k p => k = t + 1 ∧ (c * 6).toNat ≤ p ∧ p < (c * 6 + 6).toNat) μ μ' ∧ (∀ i : Nat, (i : Int) < l → μ'.1 (t + 1) (c * 6 + i).toNat = I_ (T (s + i))) := by
  have n1 := hT.2.1
  intro d
  induction d with
  | zero =>
    intro m j μ h1 h2 h3 h4 h5
    obtain ⟨m, rfl⟩ : ∃ mm, m = mm + 1 := ⟨m - 1, by omega⟩
    have hle : l ≤ j := by omega
    have es : s + l - s = l := by omega
    refine ⟨μ, ?_, Fr.rf, fun i hi => h5 i (by omega)⟩
    rw [← hk μ]
    simp (disch := omega) only [fX4_add_21, Int.reduceEq, Int.reduceNe, Int.reduceLT, Int.reduceLE, Int.reduceAdd, Int.reduceSub, Int.reduceMul, Int.reduceNeg, Int.zero_add, Int.add_zero, nm_eq, bd_some, bv_some, aI_ok, aL_ok, aS_ok, dv_ok, dw_ok, I_add, I_sub, I_mul, I_neg, I_lt, I_le, I_eq, I_nat, J_add, J_sub, J_mul, J_neg, J_lt, J_le, J_eq, I_l, J_i, I_div, J_div, b2_0, b2_1, b2_nar, nar_0, nar_1, zr_0, zr_1, zr_b2, cmp_eq, cmp_le, cmp_lt, cmp_gt, cmp_ge, mx_I, mn_I, mx_L, mn_L, az_I, if_true, if_false, not_true_eq_false, not_false_eq_true, Bool.false_eq_true, i_0, i_1, i_2, i_3, i_4, i_5, i_6, i_7, i_8, i_9, i_10, i_11, i_12, i_16, i_18, i_20, i_24, i_28, i_29, i_30, i_31, i_32, i_33, i_34, i_35, i_37, i_40, i_41, i_42, i_43, i_45, i_46, i_47, i_48, i_57, i_59, i_63, i_64, i_96, i_97, i_98, i_99, i_100, i_101, i_102, i_103, i_104, i_105, i_106, i_107, i_108, i_109, i_110, i_111, i_112, i_113, i_122, i_200, i_255, i_256, i_257, i_258, i_355, i_400, i_999, i_1000, i_1200, i_5680, i_9999, i_10000, i_99999, j_0, j_1, j_2, j_3, j_4, j_5, j_6, j_9, j_10, j_11, j_98, j_99, j_100, j_999, j_1000, j_9999, j_10000, j_99999, j_1000000, es, hle]
  | succ d ih =>
    intro m j μ h1 h2 h3 h4 h5
    obtain ⟨m, rfl⟩ : ∃ mm, m = mm + 1 := ⟨m - 1, by omega⟩
    have hle : ¬ l ≤ j := by omega
    have es : s + l - s = l := by omega
    have hv : μ.1 7 (s + j).toNat = I_ (T (s + j)) := h4 (s + j) (by omega) (by omega)
    have bj := hT.2.2 (s + j)
    obtain ⟨μ', e1, e2, e3⟩ := ih m (j + 1) (stI μ (t + 1) (c * 6 + j).toNat (I_ (T (s + j)))) (by omega) (by omega) (by rw [st_ne (by omega)]; exact h3) (h4.st (by omega)) (fun i hi => by
      rw [st_I]
      by_cases q : t + 1 = t + 1 ∧ (c * 6 + i).toNat = (c * 6 + j).toNat
      · rw [if_pos q]
        have : i = j := by omega
        rw [this]
      · rw [if_neg q]
        exact h5 i (by omega))
    rw [show ((j + 1 : Nat) : Int) = (j : Int) + 1 by omega] at e1
    refine ⟨μ', ?_, Fr.tr (Fr.rf.stI ⟨rfl, by omega, by omega⟩) e2, e3⟩
    rw [← e1]
    simp (disch := omega) only [fX4_add_21, Int.reduceEq, Int.reduceNe, Int.reduceLT, Int.reduceLE, Int.reduceAdd, Int.reduceSub, Int.reduceMul, Int.reduceNeg, Int.zero_add, Int.add_zero, nm_eq, bd_some, bv_some, aI_ok, aL_ok, aS_ok, dv_ok, dw_ok, I_add, I_sub, I_mul, I_neg, I_lt, I_le, I_eq, I_nat, J_add, J_sub, J_mul, J_neg, J_lt, J_le, J_eq, I_l, J_i, I_div, J_div, b2_0, b2_1, b2_nar, nar_0, nar_1, zr_0, zr_1, zr_b2, cmp_eq, cmp_le, cmp_lt, cmp_gt, cmp_ge, mx_I, mn_I, mx_L, mn_L, az_I, if_true, if_false, not_true_eq_false, not_false_eq_true, Bool.false_eq_true, i_0, i_1, i_2, i_3, i_4, i_5, i_6, i_7, i_8, i_9, i_10, i_11, i_12, i_16, i_18, i_20, i_24, i_28, i_29, i_30, i_31, i_32, i_33, i_34, i_35, i_37, i_40, i_41, i_42, i_43, i_45, i_46, i_47, i_48, i_57, i_59, i_63, i_64, i_96, i_97, i_98, i_99, i_100, i_101, i_102, i_103, i_104, i_105, i_106, i_107, i_108, i_109, i_110, i_111, i_112, i_113, i_122, i_200, i_255, i_256, i_257, i_258, i_355, i_400, i_999, i_1000, i_1200, i_5680, i_9999, i_10000, i_99999, j_0, j_1, j_2, j_3, j_4, j_5, j_6, j_9, j_10, j_11, j_98, j_99, j_100, j_999, j_1000, j_9999, j_10000, j_99999, j_1000000, es, hle, h3, hv, nar_b]
theorem c_addN (hT : tB T n) (hNn : 500 ≤ N) (ht : kN t) {l : Int} (l0 : 0 ≤ l) (hl : s + l ≤ n) (l6 : l ≤ 6) (s0 : 0 ≤ s) (c5 : c < 6) (hV : NV c L A) (hN : NC t c L A μ) (hT7 : TP T n 7 μ) : ∃ μ', fX4_add N t (I_ s) (I_ (s + l)) μ = some ((), μ') ∧ NC t (c + 1) (naL c L l) (naA c A (fun j => T (s + j))) μ' ∧ Fr (P_nm t) μ μ' := by
  have c0 := hV.1
  have n1 := hT.2.1
  have t8 : 8 ≤ t := by omega
  have es : s + l - s = l := by omega
  have hc6 : ¬ 6 ≤ c := by omega
  obtain ⟨μ1, e1, e2, e3⟩ := c_add21 (N := N) (c := c) (t := t) hT hl l6 s0 c0 c5 t8 (kk := fX4_add_56 N t (I_ s) (I_ (s + l))) (fun _ => rfl) l.toNat N 0 μ (by omega) (by omega) hN.1 hT7 (fun i hi => absurd hi (by omega))
  have g2 : μ1.1 t 2 = I_ c := by
    rw [(e2 t 2 (fun q => by omega)).1]; exact hN.1
  refine ⟨stI (stI μ1 (t + 2) c.toNat (I_ l)) t 2 (I_ (c + 1)), ?_, ⟨at_S, fun i i0 i1 => ?_⟩, ?_⟩
  · have e0 : fX4_add N t (I_ s) (I_ (s + l)) μ = fX4_add_21 N N t (I_ s) (I_ (s + l)) (I_ 0) μ := by
      unfold fX4_add
      rw [if_pos ht]
      simp (disch := omega) only [Int.reduceEq, Int.reduceNe, Int.reduceLT, Int.reduceLE, Int.reduceAdd, Int.reduceSub, Int.reduceMul, Int.reduceNeg, Int.zero_add, Int.add_zero, nm_eq, bd_some, bv_some, aI_ok, aL_ok, aS_ok, dv_ok, dw_ok, I_add, I_sub, I_mul, I_neg, I_lt, I_le, I_eq, I_nat, J_add, J_sub, J_mul, J_neg, J_lt, J_le, J_eq, I_l, J_i, I_div, J_div, b2_0, b2_1, b2_nar, nar_0, nar_1, zr_0, zr_1, zr_b2, cmp_eq, cmp_le, cmp_lt, cmp_gt, cmp_ge, mx_I, mn_I, mx_L, mn_L, az_I, if_true, if_false, not_true_eq_false, not_false_eq_true, Bool.false_eq_true, i_0, i_1, i_2, i_3, i_4, i_5, i_6, i_7, i_8, i_9, i_10, i_11, i_12, i_16, i_18, i_20, i_24, i_28, i_29, i_30, i_31, i_32, i_33, i_34, i_35, i_37, i_40, i_41, i_42, i_43, i_45, i_46, i_47, i_48, i_57, i_59, i_63, i_64, i_96, i_97, i_98, i_99, i_100, i_101, i_102, i_103, i_104, i_105, i_106, i_107, i_108, i_109, i_110, i_111, i_112, i_113, i_122, i_200, i_255, i_256, i_257, i_258, i_355, i_400, i_999, i_1000, i_1200, i_5680, i_9999, i_10000, i_99999, j_0, j_1, j_2, j_3, j_4, j_5, j_6, j_9, j_10, j_11, j_98, j_99, j_100, j_999, j_1000, j_9999, j_10000, j_99999, j_1000000, hN.1, es, hc6, l6]
    rw [e0]
    refine e1.trans ?_
    simp (disch := omega) only [fX4_add_56, Int.reduceEq, Int.reduceNe, Int.reduceLT, Int.reduceLE, Int.reduceAdd, Int.reduceSub, Int.reduceMul, Int.reduceNeg, Int.zero_add, Int.add_zero, nm_eq, bd_some, bv_some, aI_ok, aL_ok, aS_ok, dv_ok, dw_ok, I_add, I_sub, I_mul, I_neg, I_lt, I_le, I_eq, I_nat, J_add, J_sub, J_mul, J_neg, J_lt, J_le, J_eq, I_l, J_i, I_div, J_div, b2_0, b2_1, b2_nar, nar_0, nar_1, zr_0, zr_1, zr_b2, cmp_eq, cmp_le, cmp_lt, cmp_gt, cmp_ge, mx_I, mn_I, mx_L, mn_L, az_I, if_true, if_false, not_true_eq_false, not_false_eq_true, Bool.false_eq_true, i_0, i_1, i_2, i_3, i_4, i_5, i_6, i_7, i_8, i_9, i_10, i_11, i_12, i_16, i_18, i_20, i_24, i_28, i_29, i_30, i_31, i_32, i_33, i_34, i_35, i_37, i_40, i_41, i_42, i_43, i_45, i_46, i_47, i_48, i_57, i_59, i_63, i_64, i_96, i_97, i_98, i_99, i_100, i_101, i_102, i_103, i_104, i_105, i_106, i_107, i_108, i_109, i_110, i_111, i_112, i_113, i_122, i_200, i_255, i_256, i_257, i_258, i_355, i_400, i_999, i_1000, i_1200, i_5680, i_9999, i_10000, i_99999, j_0, j_1, j_2, j_3, j_4, j_5, j_6, j_9, j_10, j_11, j_98, j_99, j_100, j_999, j_1000, j_9999, j_10000, j_99999, j_1000000, g2, es, st_ne]
  · by_cases hi : i = c
    · subst hi
      constructor
      · rw [st_ne (by omega), at_S]
        unfold naL
        rw [if_pos rfl]
      · intro j j0 j1
        rw [st_ne (by omega), st_ne (by omega)]
        unfold naL at j1
        rw [if_pos rfl] at j1
        unfold naA
        rw [if_pos rfl]
        have := e3 j.toNat (by omega)
        rw [show ((j.toNat : Nat) : Int) = j by omega] at this
        exact this
    · have := hN.2 i i0 (by omega)
      constructor
      · rw [st_ne (by omega), st_I, if_neg (by omega), (e2 _ _ (fun q => by omega)).1]
        unfold naL
        rw [if_neg hi]
        exact this.1
      · intro j j0 j1
        unfold naL at j1
        rw [if_neg hi] at j1
        have hv := (hV.2.2 i i0 (by omega)).1
        rw [st_ne (by omega), st_ne (by omega), (e2 _ _ (fun q => by omega)).1]
        unfold naA
        rw [if_neg hi]
        exact this.2 j j0 j1
  · have e2' : Fr (P_nm t) μ μ1 := e2.mono (fun k j q => by unfold P_nm; omega)
    exact (e2'.stI (by unfold P_nm; omega)).stI (by unfold P_nm; omega)
def P_1n (t k j : Nat) : Prop := P_1 k j ∨ P_nm t k j
theorem c_new (hT : tB T n) (hNn : 500 ≤ N) (ht : kN t) (c5 : c < 6) (hV : NV c L A) (h : CR T n b s f μ) (hN : NC t c L A μ) : ∃ μ', fX5_newName N t μ = some ((), μ') ∧ CR T n b (oS T n (nwK T n s c (pP L A) = true) s f) (oF (nwK T n s c (pP L A) = true) s f) μ' ∧ Fr (P_1n t) μ μ' ∧ (f = -1 → nwK T n s c (pP L A) = true → NC t (c + 1) (naL c L (we T n s - s)) (naA c A (fun j => T (s + j))) μ') := by
  have hk := kd_in hT s
  have h9 := h.2.2.2.2.2.2.2.2
  have h8 := h.2.2.2.2.2.2.2.1
  have hkw := kwd_in T n s
  have n1 := hT.2.1
  have ht7 : 8 ≤ t := by omega
  have m1 : ∀ k j, P_1 k j → P_1n t k j := fun k j q => Or.inl q
  unfold fX5_newName
  rw [if_pos ht]
  by_cases hf : f = -1
  · subst hf
    by_cases ho : nwK T n s c (pP L A) = true
    · have ho' := ho
      rw [nwK_y, nmK_y] at ho'
      obtain ⟨⟨o1, o2, o3⟩, o4⟩ := ho'
      have hw : kd T n s = 256 := nmK_256 (by omega) (by rw [nmK_y]; exact ⟨o1, o2, o3⟩)
      have w3 := (kd_256 hw hT).2.2
      have hwe := we_in (T := T) (n := n) (i := s) (by omega)
      have cf := c_find (N := N) hT hNn ht h hV hN
      obtain ⟨μ1, a1, a2, a3⟩ := c_addN (N := N) (s := s) hT hNn ht (l := we T n s - s) (by omega) (by omega) o2 (by omega) c5 hV hN h.2.2.2.2.2.2.1
      rw [show s + (we T n s - s) = we T n s by omega] at a1
      have hC1 : CR T n b s (-1) μ1 := h.F a3 (fun k j q => by unfold P_nm at q; omega)
      obtain ⟨μ2, s1, s2, s3⟩ := c_step hT hNn hC1
      refine ⟨μ2, ?_, ?_, (a3.mono (fun k j q => Or.inr q)).tr (s3.mono m1), fun _ _ => a2.F s3 (fun k j q => by unfold P_1 at q; omega)⟩
      · have h6 : ¬ 6 < we T n s - s := by omega
        have ck := c_keyword hT hNn h
        rw [o3] at ck
        rw [o4] at cf
        simp (disch := omega) only [fX5_newName_46, Int.reduceEq, Int.reduceNe, Int.reduceLT, Int.reduceLE, Int.reduceAdd, Int.reduceSub, Int.reduceMul, Int.reduceNeg, Int.zero_add, Int.add_zero, nm_eq, bd_some, bv_some, aI_ok, aL_ok, aS_ok, dv_ok, dw_ok, I_add, I_sub, I_mul, I_neg, I_lt, I_le, I_eq, I_nat, J_add, J_sub, J_mul, J_neg, J_lt, J_le, J_eq, I_l, J_i, I_div, J_div, b2_0, b2_1, b2_nar, nar_0, nar_1, zr_0, zr_1, zr_b2, cmp_eq, cmp_le, cmp_lt, cmp_gt, cmp_ge, mx_I, mn_I, mx_L, mn_L, az_I, if_true, if_false, not_true_eq_false, not_false_eq_true, Bool.false_eq_true, i_0, i_1, i_2, i_3, i_4, i_5, i_6, i_7, i_8, i_9, i_10, i_11, i_12, i_16, i_18, i_20, i_24, i_28, i_29, i_30, i_31, i_32, i_33, i_34, i_35, i_37, i_40, i_41, i_42, i_43, i_45, i_46, i_47, i_48, i_57, i_59, i_63, i_64, i_96, i_97, i_98, i_99, i_100, i_101, i_102, i_103, i_104, i_105, i_106, i_107, i_108, i_109, i_110, i_111, i_112, i_113, i_122, i_200, i_255, i_256, i_257, i_258, i_355, i_400, i_999, i_1000, i_1200, i_5680, i_9999, i_10000, i_99999, j_0, j_1, j_2, j_3, j_4, j_5, j_6, j_9, j_10, j_11, j_98, j_99, j_100, j_999, j_1000, j_9999, j_10000, j_99999, j_1000000, h.2.1, h.2.2.2.1, h.2.2.1, h.2.2.2.2.1, hw, w3, h6, ck, cf, a1, s1]
      · rw [oS_y ho, oF_y ho]; exact s2
    · rw [oS_n ho, oF_n ho]
      have := c_fail (N := N) h n1
      rw [if_pos rfl] at this
      obtain ⟨μ', e1, e2, e3⟩ := this
      refine ⟨μ', ?_, e2, e3.mono m1, fun _ q => absurd q ho⟩
      by_cases hw : kd T n s = 256
      · have w3 := (kd_256 hw hT).2.2
        have hwe := te_in (T := T) (n := n) (s := s) (by omega)
        have ws := (kd_256 hw hT).1
        have cf := c_find (N := N) hT hNn ht h hV hN
        have fi := fnd_nat (P := pP L A) (p := wpk T n s) hV.1
        have ck := c_keyword hT hNn h
        by_cases h6 : 6 < we T n s - s
        · simp (disch := omega) only [fX5_newName_46, Int.reduceEq, Int.reduceNe, Int.reduceLT, Int.reduceLE, Int.reduceAdd, Int.reduceSub, Int.reduceMul, Int.reduceNeg, Int.zero_add, Int.add_zero, nm_eq, bd_some, bv_some, aI_ok, aL_ok, aS_ok, dv_ok, dw_ok, I_add, I_sub, I_mul, I_neg, I_lt, I_le, I_eq, I_nat, J_add, J_sub, J_mul, J_neg, J_lt, J_le, J_eq, I_l, J_i, I_div, J_div, b2_0, b2_1, b2_nar, nar_0, nar_1, zr_0, zr_1, zr_b2, cmp_eq, cmp_le, cmp_lt, cmp_gt, cmp_ge, mx_I, mn_I, mx_L, mn_L, az_I, if_true, if_false, not_true_eq_false, not_false_eq_true, Bool.false_eq_true, i_0, i_1, i_2, i_3, i_4, i_5, i_6, i_7, i_8, i_9, i_10, i_11, i_12, i_16, i_18, i_20, i_24, i_28, i_29, i_30, i_31, i_32, i_33, i_34, i_35, i_37, i_40, i_41, i_42, i_43, i_45, i_46, i_47, i_48, i_57, i_59, i_63, i_64, i_96, i_97, i_98, i_99, i_100, i_101, i_102, i_103, i_104, i_105, i_106, i_107, i_108, i_109, i_110, i_111, i_112, i_113, i_122, i_200, i_255, i_256, i_257, i_258, i_355, i_400, i_999, i_1000, i_1200, i_5680, i_9999, i_10000, i_99999, j_0, j_1, j_2, j_3, j_4, j_5, j_6, j_9, j_10, j_11, j_98, j_99, j_100, j_999, j_1000, j_9999, j_10000, j_99999, j_1000000, h.2.1, h.2.2.2.1, h.2.2.1, h.2.2.2.2.1, hw, w3, h6, e1]
        · by_cases hq : kwd T n s = -1
          · have o4 : ¬ fnd (pP L A) (wpk T n s) c.toNat 0 = -1 := fun q => ho (by rw [nwK_y, nmK_y]; exact ⟨⟨by omega, by omega, hq⟩, q⟩)
            have c6 := hV.2.1
            rw [hq] at ck
            simp (disch := omega) only [fX5_newName_46, Int.reduceEq, Int.reduceNe, Int.reduceLT, Int.reduceLE, Int.reduceAdd, Int.reduceSub, Int.reduceMul, Int.reduceNeg, Int.zero_add, Int.add_zero, nm_eq, bd_some, bv_some, aI_ok, aL_ok, aS_ok, dv_ok, dw_ok, I_add, I_sub, I_mul, I_neg, I_lt, I_le, I_eq, I_nat, J_add, J_sub, J_mul, J_neg, J_lt, J_le, J_eq, I_l, J_i, I_div, J_div, b2_0, b2_1, b2_nar, nar_0, nar_1, zr_0, zr_1, zr_b2, cmp_eq, cmp_le, cmp_lt, cmp_gt, cmp_ge, mx_I, mn_I, mx_L, mn_L, az_I, if_true, if_false, not_true_eq_false, not_false_eq_true, Bool.false_eq_true, i_0, i_1, i_2, i_3, i_4, i_5, i_6, i_7, i_8, i_9, i_10, i_11, i_12, i_16, i_18, i_20, i_24, i_28, i_29, i_30, i_31, i_32, i_33, i_34, i_35, i_37, i_40, i_41, i_42, i_43, i_45, i_46, i_47, i_48, i_57, i_59, i_63, i_64, i_96, i_97, i_98, i_99, i_100, i_101, i_102, i_103, i_104, i_105, i_106, i_107, i_108, i_109, i_110, i_111, i_112, i_113, i_122, i_200, i_255, i_256, i_257, i_258, i_355, i_400, i_999, i_1000, i_1200, i_5680, i_9999, i_10000, i_99999, j_0, j_1, j_2, j_3, j_4, j_5, j_6, j_9, j_10, j_11, j_98, j_99, j_100, j_999, j_1000, j_9999, j_10000, j_99999, j_1000000, h.2.1, h.2.2.2.1, h.2.2.1, h.2.2.2.2.1, hw, w3, h6, ck, cf, o4, e1]
          · simp (disch := omega) only [fX5_newName_46, Int.reduceEq, Int.reduceNe, Int.reduceLT, Int.reduceLE, Int.reduceAdd, Int.reduceSub, Int.reduceMul, Int.reduceNeg, Int.zero_add, Int.add_zero, nm_eq, bd_some, bv_some, aI_ok, aL_ok, aS_ok, dv_ok, dw_ok, I_add, I_sub, I_mul, I_neg, I_lt, I_le, I_eq, I_nat, J_add, J_sub, J_mul, J_neg, J_lt, J_le, J_eq, I_l, J_i, I_div, J_div, b2_0, b2_1, b2_nar, nar_0, nar_1, zr_0, zr_1, zr_b2, cmp_eq, cmp_le, cmp_lt, cmp_gt, cmp_ge, mx_I, mn_I, mx_L, mn_L, az_I, if_true, if_false, not_true_eq_false, not_false_eq_true, Bool.false_eq_true, i_0, i_1, i_2, i_3, i_4, i_5, i_6, i_7, i_8, i_9, i_10, i_11, i_12, i_16, i_18, i_20, i_24, i_28, i_29, i_30, i_31, i_32, i_33, i_34, i_35, i_37, i_40, i_41, i_42, i_43, i_45, i_46, i_47, i_48, i_57, i_59, i_63, i_64, i_96, i_97, i_98, i_99, i_100, i_101, i_102, i_103, i_104, i_105, i_106, i_107, i_108, i_109, i_110, i_111, i_112, i_113, i_122, i_200, i_255, i_256, i_257, i_258, i_355, i_400, i_999, i_1000, i_1200, i_5680, i_9999, i_10000, i_99999, j_0, j_1, j_2, j_3, j_4, j_5, j_6, j_9, j_10, j_11, j_98, j_99, j_100, j_999, j_1000, j_9999, j_10000, j_99999, j_1000000, h.2.1, h.2.2.2.1, h.2.2.1, h.2.2.2.2.1, hw, w3, h6, ck, hq, e1]
      · simp (disch := omega) only [fX5_newName_46, Int.reduceEq, Int.reduceNe, Int.reduceLT, Int.reduceLE, Int.reduceAdd, Int.reduceSub, Int.reduceMul, Int.reduceNeg, Int.zero_add, Int.add_zero, nm_eq, bd_some, bv_some, aI_ok, aL_ok, aS_ok, dv_ok, dw_ok, I_add, I_sub, I_mul, I_neg, I_lt, I_le, I_eq, I_nat, J_add, J_sub, J_mul, J_neg, J_lt, J_le, J_eq, I_l, J_i, I_div, J_div, b2_0, b2_1, b2_nar, nar_0, nar_1, zr_0, zr_1, zr_b2, cmp_eq, cmp_le, cmp_lt, cmp_gt, cmp_ge, mx_I, mn_I, mx_L, mn_L, az_I, if_true, if_false, not_true_eq_false, not_false_eq_true, Bool.false_eq_true, i_0, i_1, i_2, i_3, i_4, i_5, i_6, i_7, i_8, i_9, i_10, i_11, i_12, i_16, i_18, i_20, i_24, i_28, i_29, i_30, i_31, i_32, i_33, i_34, i_35, i_37, i_40, i_41, i_42, i_43, i_45, i_46, i_47, i_48, i_57, i_59, i_63, i_64, i_96, i_97, i_98, i_99, i_100, i_101, i_102, i_103, i_104, i_105, i_106, i_107, i_108, i_109, i_110, i_111, i_112, i_113, i_122, i_200, i_255, i_256, i_257, i_258, i_355, i_400, i_999, i_1000, i_1200, i_5680, i_9999, i_10000, i_99999, j_0, j_1, j_2, j_3, j_4, j_5, j_6, j_9, j_10, j_11, j_98, j_99, j_100, j_999, j_1000, j_9999, j_10000, j_99999, j_1000000, h.2.1, h.2.2.2.1, hw, e1]
  · rw [oS_f hf, oF_f hf]
    refine ⟨μ, ?_, h, Fr.rf, fun q => absurd q hf⟩
    simp (disch := omega) only [Int.reduceEq, Int.reduceNe, Int.reduceLT, Int.reduceLE, Int.reduceAdd, Int.reduceSub, Int.reduceMul, Int.reduceNeg, Int.zero_add, Int.add_zero, nm_eq, bd_some, bv_some, aI_ok, aL_ok, aS_ok, dv_ok, dw_ok, I_add, I_sub, I_mul, I_neg, I_lt, I_le, I_eq, I_nat, J_add, J_sub, J_mul, J_neg, J_lt, J_le, J_eq, I_l, J_i, I_div, J_div, b2_0, b2_1, b2_nar, nar_0, nar_1, zr_0, zr_1, zr_b2, cmp_eq, cmp_le, cmp_lt, cmp_gt, cmp_ge, mx_I, mn_I, mx_L, mn_L, az_I, if_true, if_false, not_true_eq_false, not_false_eq_true, Bool.false_eq_true, i_0, i_1, i_2, i_3, i_4, i_5, i_6, i_7, i_8, i_9, i_10, i_11, i_12, i_16, i_18, i_20, i_24, i_28, i_29, i_30, i_31, i_32, i_33, i_34, i_35, i_37, i_40, i_41, i_42, i_43, i_45, i_46, i_47, i_48, i_57, i_59, i_63, i_64, i_96, i_97, i_98, i_99, i_100, i_101, i_102, i_103, i_104, i_105, i_106, i_107, i_108, i_109, i_110, i_111, i_112, i_113, i_122, i_200, i_255, i_256, i_257, i_258, i_355, i_400, i_999, i_1000, i_1200, i_5680, i_9999, i_10000, i_99999, j_0, j_1, j_2, j_3, j_4, j_5, j_6, j_9, j_10, j_11, j_98, j_99, j_100, j_999, j_1000, j_9999, j_10000, j_99999, j_1000000, h.2.1, hf]
end
