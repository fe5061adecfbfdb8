/-! Sums: codes as the class has them (0 and above a number; -1 .. -5 a letter; -6 .. -9 a sign), -10 a bracket that waits. -/
def rA (c : Int) : Int := if 0 ≤ c then 0 else if -5 ≤ c then 1 else -c - 4
def rB (c : Int) : Int := if 0 ≤ c then c else if -5 ≤ c then -1 - c else 0
def wW (c : Int) : Int := if c = -10 then 9 else -c - 4
def bnd (c : Int) : Int := if c = -10 then 0 else if c = -6 ∨ c = -7 then 1 else 2
def isO (c : Int) : Prop := -9 ≤ c ∧ c ≤ -6
def seg (k : Nat) (μ : Mem) : Int → List Int → Prop
  | _, [] => True
  | i, c :: l => μ.1 k i.toNat = I_ c ∧ seg k μ (i + 1) l
def rsg (μ : Mem) : Int → List Int → Prop
  | _, [] => True
  | i, c :: l => (μ.1 14 i.toNat = I_ (rA c) ∧ μ.1 15 i.toNat = I_ (rB c)) ∧ rsg μ (i + 1) l
def wsg (μ : Mem) : List Int → Prop
  | [] => True
  | c :: l => (μ.1 17 l.length = I_ (wW c) ∧ (c = -10 ∨ isO c)) ∧ wsg μ l
theorem seg_ap {k : Nat} {μ : Mem} : ∀ (l : List Int) (i : Int) (l' : List Int), seg k μ i (l ++ l') ↔ seg k μ i l ∧ seg k μ (i + l.length) l' := by
  intro l
  induction l with
  | nil => intro i l'; show seg k μ i l' ↔ True ∧ seg k μ (i + ((0 : Nat) : Int)) l'; rw [show i + ((0 : Nat) : Int) = i by omega]; exact ⟨fun h => ⟨trivial, h⟩, fun h => h.2⟩
  | cons c l ih =>
    intro i l'
    show (μ.1 k i.toNat = I_ c ∧ seg k μ (i + 1) (l ++ l')) ↔ (μ.1 k i.toNat = I_ c ∧ seg k μ (i + 1) l) ∧ seg k μ (i + ((l.length + 1 : Nat) : Int)) l'
    rw [ih, show i + ((l.length + 1 : Nat) : Int) = i + 1 + l.length by omega]
    exact ⟨fun h => ⟨⟨h.1, h.2.1⟩, h.2.2⟩, fun h => ⟨h.1.1, h.1.2, h.2⟩⟩
theorem rsg_ap {μ : Mem} : ∀ (l : List Int) (i : Int) (l' : List Int), rsg μ i (l ++ l') ↔ rsg μ i l ∧ rsg μ (i + l.length) l' := by
  intro l
  induction l with
  | nil => intro i l'; show rsg μ i l' ↔ True ∧ rsg μ (i + ((0 : Nat) : Int)) l'; rw [show i + ((0 : Nat) : Int) = i by omega]; exact ⟨fun h => ⟨trivial, h⟩, fun h => h.2⟩
  | cons c l ih =>
    intro i l'
    show ((μ.1 14 i.toNat = I_ (rA c) ∧ μ.1 15 i.toNat = I_ (rB c)) ∧ rsg μ (i + 1) (l ++ l')) ↔ ((μ.1 14 i.toNat = I_ (rA c) ∧ μ.1 15 i.toNat = I_ (rB c)) ∧ rsg μ (i + 1) l) ∧ rsg μ (i + ((l.length + 1 : Nat) : Int)) l'
    rw [ih, show i + ((l.length + 1 : Nat) : Int) = i + 1 + l.length by omega]
    exact ⟨fun h => ⟨⟨h.1, h.2.1⟩, h.2.2⟩, fun h => ⟨h.1.1, h.1.2, h.2⟩⟩
theorem seg_fr {k : Nat} {μ μ' : Mem} : ∀ (l : List Int) (i : Int), 0 ≤ i → (∀ j : Nat, i.toNat ≤ j → j < i.toNat + l.length → μ'.1 k j = μ.1 k j) → seg k μ i l → seg k μ' i l := by
  intro l
  induction l with
  | nil => intro _ _ _ _; trivial
  | cons c l ih =>
    intro i h0 h h2
    refine ⟨?_, ih (i + 1) (by omega) (fun j h3 h4 => h j (by omega) (by show j < i.toNat + (l.length + 1); omega)) h2.2⟩
    rw [h i.toNat (by omega) (by show i.toNat < i.toNat + (l.length + 1); omega)]
    exact h2.1
theorem rsg_fr {μ μ' : Mem} : ∀ (l : List Int) (i : Int), 0 ≤ i → (∀ j : Nat, i.toNat ≤ j → j < i.toNat + l.length → μ'.1 14 j = μ.1 14 j ∧ μ'.1 15 j = μ.1 15 j) → rsg μ i l → rsg μ' i l := by
  intro l
  induction l with
  | nil => intro _ _ _ _; trivial
  | cons c l ih =>
    intro i h0 h h2
    refine ⟨?_, ih (i + 1) (by omega) (fun j h3 h4 => h j (by omega) (by show j < i.toNat + (l.length + 1); omega)) h2.2⟩
    have := h i.toNat (by omega) (by show i.toNat < i.toNat + (l.length + 1); omega)
    rw [this.1, this.2]
    exact h2.1
theorem wsg_fr {μ μ' : Mem} : ∀ (l : List Int), (∀ j : Nat, j < l.length → μ'.1 17 j = μ.1 17 j) → wsg μ l → wsg μ' l := by
  intro l
  induction l with
  | nil => intro _ _; trivial
  | cons c l ih =>
    intro h h2
    refine ⟨⟨?_, h2.1.2⟩, ih (fun j h3 => h j (by show j < l.length + 1; omega)) h2.2⟩
    rw [h l.length (by show l.length < l.length + 1; omega)]
    exact h2.1.1
theorem wsg_in {μ : Mem} : ∀ {l : List Int}, wsg μ l → ∀ c ∈ l, c = -10 ∨ isO c := by
  intro l
  induction l with
  | nil => intro _ c hc; cases hc
  | cons a l ih =>
    intro h c hc
    rcases List.mem_cons.mp hc with q | q
    · rw [q]; exact h.1.2
    · exact ih h.2 c q
/-- heights of the stack on which codes are worked out -/
def gd : List Int → Nat → Nat → Prop
  | [], h, h' => h = h'
  | c :: l, h, h' => (-6 < c ∧ -5 ≤ c ∧ c ≤ 9999 ∧ h < 16 ∧ gd l (h + 1) h') ∨ (isO c ∧ 2 ≤ h ∧ gd l (h - 1) h')
theorem gd_ap : ∀ (l : List Int) {l' : List Int} {h h1 h2 : Nat}, gd l h h1 → gd l' h1 h2 → gd (l ++ l') h h2 := by
  intro l
  induction l with
  | nil => intro l' h h1 h2 a c; have e : h = h1 := a; rw [e]; exact c
  | cons c l ih =>
    intro l' h h1 h2 a e
    rcases a with ⟨a1, a2, a3, a4, a5⟩ | ⟨a1, a2, a3⟩
    · exact Or.inl ⟨a1, a2, a3, a4, ih a5 e⟩
    · exact Or.inr ⟨a1, a2, ih a3 e⟩
def P_cs (b : Nat) (q0 : Int) (k j : Nat) : Prop := k = 1 ∨ (k = b + 7 ∧ j = 4) ∨ (k = b + 8 ∧ q0.toNat ≤ j)
def P_rs (ad : Int) (k j : Nat) : Prop := (k = 0 ∧ (j = 16 ∨ j = 17 ∨ j = 27 ∨ j = 29)) ∨ k = 17 ∨ (k = 16 ∧ j = ad.toNat) ∨ ((k = 14 ∨ k = 15) ∧ (400 * ad).toNat ≤ j ∧ j < (400 * ad + 400).toNat)
def P_re (ad : Int) (k j : Nat) : Prop := (k = 0 ∧ j = 29) ∨ (k = 16 ∧ j = ad.toNat) ∨ ((k = 14 ∨ k = 15) ∧ (400 * ad).toNat ≤ j ∧ j < (400 * ad + 400).toNat)
theorem re_rs {ad : Int} {k j : Nat} (h : P_re ad k j) : P_rs ad k j := by unfold P_re at h; unfold P_rs; omega
section
variable {T : Int → Int} {n : Int} {N b : Nat} {μ ν : Mem} {s f q0 ad d0 z0 : Int} {K W : List Int}
def CSt (T : Int → Int) (n : Int) (b : Nat) (q0 s f : Int) (K : List Int) (μ : Mem) : Prop := CR T n b s f μ ∧ μ.1 (b + 7) 4 = I_ (q0 + K.length) ∧ seg (b + 8) μ q0 K
def CSf (T : Int → Int) (n : Int) (b : Nat) (q0 s f : Int) (μ : Mem) : Prop := CR T n b s f μ ∧ ∃ l, μ.1 (b + 7) 4 = I_ l ∧ q0 ≤ l ∧ l ≤ 400
/-- the reference's side; d: how many brackets are open -/
def RSt (T : Int → Int) (n ad s f : Int) (K W : List Int) (d : Int) (ν : Mem) : Prop := RR T n s f ν ∧ ν.1 16 ad.toNat = I_ K.length ∧ rsg ν (400 * ad) K ∧ ν.1 0 26 = I_ ad ∧ ν.1 0 27 = I_ d ∧ ν.1 0 29 = I_ W.length ∧ wsg ν W
theorem CSt.P1 (hb : kB b) {s' f' : Int} {μ' : Mem} (h : CSt T n b q0 s f K μ) (g : Fr P_1 μ μ') (hC : CR T n b s' f' μ') (h0 : 0 ≤ q0) : CSt T n b q0 s' f' K μ' := by
  refine ⟨hC, ?_, ?_⟩
  · rw [(g (b + 7) 4 (by unfold P_1; omega)).1]; exact h.2.1
  · exact seg_fr K q0 h0 (fun j _ _ => (g (b + 8) j (by unfold P_1; omega)).1) h.2.2
theorem CSf.P1 (hb : kB b) {s' f' : Int} {μ' : Mem} (h : CSf T n b q0 s f μ) (g : Fr P_1 μ μ') (hC : CR T n b s' f' μ') : CSf T n b q0 s' f' μ' := by
  obtain ⟨l, l1, l2⟩ := h.2
  refine ⟨hC, l, ?_, l2⟩
  rw [(g (b + 7) 4 (by unfold P_1; omega)).1]; exact l1
theorem CSt.toF (h : CSt T n b q0 s f K μ) (hl : q0 + K.length ≤ 400) : CSf T n b q0 s f μ := ⟨h.1, q0 + K.length, h.2.1, by omega, hl⟩
theorem P1_cs {k j : Nat} (h : P_1 k j) : P_cs b q0 k j := Or.inl h
theorem c_emit (hb : kB b) (h0 : 0 ≤ q0) (h : CSt T n b q0 s f K μ) (hl : q0 + K.length < 400) (c : Int) : ∃ μ', fX9_emit N (b + 7) (I_ c) μ = some ((), μ') ∧ CSt T n b q0 s f (K ++ [c]) μ' ∧ Fr (P_cs b q0) μ μ' := by
  have hu : kU (b + 7) := by unfold kU; rcases hb with e | e <;> omega
  have hle : ¬ 400 ≤ q0 + (K.length : Int) := by omega
  have g : Fr (P_cs b q0) μ (stI (stI μ (b + 8) (q0 + K.length).toNat (I_ c)) (b + 7) 4 (I_ (q0 + K.length + 1))) := (Fr.rf.stI (Or.inr (Or.inr ⟨rfl, by omega⟩))).stI (Or.inr (Or.inl ⟨rfl, rfl⟩))
  have gF : Fr (fun k j => k = b + 7 ∨ k = b + 8) μ (stI (stI μ (b + 8) (q0 + K.length).toNat (I_ c)) (b + 7) 4 (I_ (q0 + K.length + 1))) := (Fr.rf.stI (Or.inr rfl)).stI (Or.inl rfl)
  refine ⟨_, ?_, ⟨?_, ?_, ?_⟩, g⟩
  · unfold fX9_emit
    rw [if_pos hu]
    simp (disch := omega) only [Int.reduceEq, Int.reduceNe, Int.reduceLT, Int.reduceLE, Int.reduceAdd, Int.reduceSub, Int.reduceMul, Int.reduceNeg, Int.zero_add, Int.add_zero, nm_eq, bd_some, bv_some, aI_ok, aL_ok, aS_ok, dv_ok, dw_ok, I_add, I_sub, I_mul, I_neg, I_lt, I_le, I_eq, I_nat, J_add, J_sub, J_mul, J_neg, J_lt, J_le, J_eq, I_l, J_i, I_div, J_div, b2_0, b2_1, b2_nar, nar_0, nar_1, zr_0, zr_1, zr_b2, cmp_eq, cmp_le, cmp_lt, cmp_gt, cmp_ge, mx_I, mn_I, mx_L, mn_L, az_I, if_true, if_false, not_true_eq_false, not_false_eq_true, Bool.false_eq_true, i_0, i_1, i_2, i_3, i_4, i_5, i_6, i_7, i_8, i_9, i_10, i_11, i_12, i_16, i_18, i_20, i_24, i_28, i_29, i_30, i_31, i_32, i_33, i_34, i_35, i_37, i_40, i_41, i_42, i_43, i_45, i_46, i_47, i_48, i_57, i_59, i_63, i_64, i_96, i_97, i_98, i_99, i_100, i_101, i_102, i_103, i_104, i_105, i_106, i_107, i_108, i_109, i_110, i_111, i_112, i_113, i_122, i_200, i_255, i_256, i_257, i_258, i_355, i_400, i_999, i_1000, i_1200, i_5680, i_9999, i_10000, i_99999, j_0, j_1, j_2, j_3, j_4, j_5, j_6, j_9, j_10, j_11, j_98, j_99, j_100, j_999, j_1000, j_9999, j_10000, j_99999, j_1000000, h.2.1, hle, st_ne]
  · exact h.1.F gF (fun k j q => by rcases hb with e | e <;> omega)
  · rw [at_S, List.length_append]
    congr 1
    show q0 + K.length + 1 = q0 + ((K.length + 1 : Nat) : Int)
    omega
  · rw [seg_ap]
    refine ⟨seg_fr K q0 h0 (fun j h1 h2 => ?_) h.2.2, ?_, trivial⟩
    · rw [st_ne (by omega), st_I, if_neg (by omega)]
    · rw [st_ne (by omega), at_S]
theorem c_emitf (hb : kB b) (h0 : 0 ≤ q0) (h : CSf T n b q0 s f μ) (c : Int) : ∃ μ', fX9_emit N (b + 7) (I_ c) μ = some ((), μ') ∧ CSf T n b q0 s f μ' ∧ Fr (P_cs b q0) μ μ' := by
  have hu : kU (b + 7) := by unfold kU; rcases hb with e | e <;> omega
  obtain ⟨l, l1, l2, l3⟩ := h.2
  by_cases hle : 400 ≤ l
  · refine ⟨μ, ?_, h, Fr.rf⟩
    unfold fX9_emit
    rw [if_pos hu]
    simp (disch := omega) only [Int.reduceEq, Int.reduceNe, Int.reduceLT, Int.reduceLE, Int.reduceAdd, Int.reduceSub, Int.reduceMul, Int.reduceNeg, Int.zero_add, Int.add_zero, nm_eq, bd_some, bv_some, aI_ok, aL_ok, aS_ok, dv_ok, dw_ok, I_add, I_sub, I_mul, I_neg, I_lt, I_le, I_eq, I_nat, J_add, J_sub, J_mul, J_neg, J_lt, J_le, J_eq, I_l, J_i, I_div, J_div, b2_0, b2_1, b2_nar, nar_0, nar_1, zr_0, zr_1, zr_b2, cmp_eq, cmp_le, cmp_lt, cmp_gt, cmp_ge, mx_I, mn_I, mx_L, mn_L, az_I, if_true, if_false, not_true_eq_false, not_false_eq_true, Bool.false_eq_true, i_0, i_1, i_2, i_3, i_4, i_5, i_6, i_7, i_8, i_9, i_10, i_11, i_12, i_16, i_18, i_20, i_24, i_28, i_29, i_30, i_31, i_32, i_33, i_34, i_35, i_37, i_40, i_41, i_42, i_43, i_45, i_46, i_47, i_48, i_57, i_59, i_63, i_64, i_96, i_97, i_98, i_99, i_100, i_101, i_102, i_103, i_104, i_105, i_106, i_107, i_108, i_109, i_110, i_111, i_112, i_113, i_122, i_200, i_255, i_256, i_257, i_258, i_355, i_400, i_999, i_1000, i_1200, i_5680, i_9999, i_10000, i_99999, j_0, j_1, j_2, j_3, j_4, j_5, j_6, j_9, j_10, j_11, j_98, j_99, j_100, j_999, j_1000, j_9999, j_10000, j_99999, j_1000000, l1, hle]
  · have g : Fr (P_cs b q0) μ (stI (stI μ (b + 8) l.toNat (I_ c)) (b + 7) 4 (I_ (l + 1))) := (Fr.rf.stI (Or.inr (Or.inr ⟨rfl, by omega⟩))).stI (Or.inr (Or.inl ⟨rfl, rfl⟩))
    have gF : Fr (fun k j => k = b + 7 ∨ k = b + 8) μ (stI (stI μ (b + 8) l.toNat (I_ c)) (b + 7) 4 (I_ (l + 1))) := (Fr.rf.stI (Or.inr rfl)).stI (Or.inl rfl)
    refine ⟨_, ?_, ⟨h.1.F gF (fun k j q => by rcases hb with e | e <;> omega), l + 1, at_S, by omega, by omega⟩, g⟩
    unfold fX9_emit
    rw [if_pos hu]
    simp (disch := omega) only [Int.reduceEq, Int.reduceNe, Int.reduceLT, Int.reduceLE, Int.reduceAdd, Int.reduceSub, Int.reduceMul, Int.reduceNeg, Int.zero_add, Int.add_zero, nm_eq, bd_some, bv_some, aI_ok, aL_ok, aS_ok, dv_ok, dw_ok, I_add, I_sub, I_mul, I_neg, I_lt, I_le, I_eq, I_nat, J_add, J_sub, J_mul, J_neg, J_lt, J_le, J_eq, I_l, J_i, I_div, J_div, b2_0, b2_1, b2_nar, nar_0, nar_1, zr_0, zr_1, zr_b2, cmp_eq, cmp_le, cmp_lt, cmp_gt, cmp_ge, mx_I, mn_I, mx_L, mn_L, az_I, if_true, if_false, not_true_eq_false, not_false_eq_true, Bool.false_eq_true, i_0, i_1, i_2, i_3, i_4, i_5, i_6, i_7, i_8, i_9, i_10, i_11, i_12, i_16, i_18, i_20, i_24, i_28, i_29, i_30, i_31, i_32, i_33, i_34, i_35, i_37, i_40, i_41, i_42, i_43, i_45, i_46, i_47, i_48, i_57, i_59, i_63, i_64, i_96, i_97, i_98, i_99, i_100, i_101, i_102, i_103, i_104, i_105, i_106, i_107, i_108, i_109, i_110, i_111, i_112, i_113, i_122, i_200, i_255, i_256, i_257, i_258, i_355, i_400, i_999, i_1000, i_1200, i_5680, i_9999, i_10000, i_99999, j_0, j_1, j_2, j_3, j_4, j_5, j_6, j_9, j_10, j_11, j_98, j_99, j_100, j_999, j_1000, j_9999, j_10000, j_99999, j_1000000, l1, hle, st_ne]
/-! The reference's pieces. -/
theorem RSt.fr {s' f' : Int} {ν' : Mem} (h : RSt T n ad s f K W d0 ν) (g : Fr P_at ν ν') (hR : RR T n s' f' ν') (a0 : 0 ≤ ad) : RSt T n ad s' f' K W d0 ν' := by
  obtain ⟨h1, h2, h3, h4, h5, h6, h7⟩ := h
  have g0 : ∀ k j, k ≠ 0 → ν'.1 k j = ν.1 k j := fun k j q => (g k j (fun w => q w.1)).1
  refine ⟨hR, ?_, rsg_fr K _ (by omega) (fun j _ _ => ⟨g0 14 j (by omega), g0 15 j (by omega)⟩) h3, ?_, ?_, ?_, wsg_fr W (fun j _ => g0 17 j (by omega)) h7⟩
  · rw [g0 16 _ (by omega)]; exact h2
  · rw [(g 0 26 (by unfold P_at; omega)).1]; exact h4
  · rw [(g 0 27 (by unfold P_at; omega)).1]; exact h5
  · rw [(g 0 29 (by unfold P_at; omega)).1]; exact h6
theorem at_rs {k j : Nat} (h : P_at k j) : P_rs ad k j := Or.inl ⟨h.1, by have := h.2; omega⟩
theorem r_emits (a0 : 0 ≤ ad) (a2 : ad ≤ 2) {d : Int} (h : RSt T n ad s (-1) K W d ν) (hl : K.length < 400) (c : Int) : ∃ ν', fX11_emits N (I_ (rA c)) (I_ (rB c)) ν = some ((), ν') ∧ RSt T n ad s (-1) (K ++ [c]) W d ν' ∧ Fr (P_re ad) ν ν' := by
  obtain ⟨h1, h2, h3, h4, h5, h6, h7⟩ := h
  have g : Fr (P_re ad) ν (stI (stI (stI ν 14 (400 * ad + K.length).toNat (I_ (rA c))) 15 (400 * ad + K.length).toNat (I_ (rB c))) 16 ad.toNat (I_ (K.length + 1))) := ((Fr.rf.stI (Or.inr (Or.inr ⟨Or.inl rfl, by omega, by omega⟩))).stI (Or.inr (Or.inr ⟨Or.inr rfl, by omega, by omega⟩))).stI (Or.inr (Or.inl ⟨rfl, rfl⟩))
  have g' : ∀ k j, k ≠ 14 → k ≠ 15 → k ≠ 16 → (stI (stI (stI ν 14 (400 * ad + K.length).toNat (I_ (rA c))) 15 (400 * ad + K.length).toNat (I_ (rB c))) 16 ad.toNat (I_ (K.length + 1))).1 k j = ν.1 k j := fun k j a1 a2 a3 => by rw [st_ne a3, st_ne a2, st_ne a1]
  have gF : Fr (fun k j => k = 14 ∨ k = 15 ∨ k = 16) ν (stI (stI (stI ν 14 (400 * ad + K.length).toNat (I_ (rA c))) 15 (400 * ad + K.length).toNat (I_ (rB c))) 16 ad.toNat (I_ (K.length + 1))) := ((Fr.rf.stI (Or.inl rfl)).stI (Or.inr (Or.inl rfl))).stI (Or.inr (Or.inr rfl))
  refine ⟨_, ?_, ⟨h1.F gF (fun k j q => by omega), ?_, ?_, ?_, ?_, ?_, wsg_fr W (fun j _ => g' 17 j (by omega) (by omega) (by omega)) h7⟩, g⟩
  · simp (disch := omega) only [fX11_emits, Int.reduceEq, Int.reduceNe, Int.reduceLT, Int.reduceLE, Int.reduceAdd, Int.reduceSub, Int.reduceMul, Int.reduceNeg, Int.zero_add, Int.add_zero, nm_eq, bd_some, bv_some, aI_ok, aL_ok, aS_ok, dv_ok, dw_ok, I_add, I_sub, I_mul, I_neg, I_lt, I_le, I_eq, I_nat, J_add, J_sub, J_mul, J_neg, J_lt, J_le, J_eq, I_l, J_i, I_div, J_div, b2_0, b2_1, b2_nar, nar_0, nar_1, zr_0, zr_1, zr_b2, cmp_eq, cmp_le, cmp_lt, cmp_gt, cmp_ge, mx_I, mn_I, mx_L, mn_L, az_I, if_true, if_false, not_true_eq_false, not_false_eq_true, Bool.false_eq_true, i_0, i_1, i_2, i_3, i_4, i_5, i_6, i_7, i_8, i_9, i_10, i_11, i_12, i_16, i_18, i_20, i_24, i_28, i_29, i_30, i_31, i_32, i_33, i_34, i_35, i_37, i_40, i_41, i_42, i_43, i_45, i_46, i_47, i_48, i_57, i_59, i_63, i_64, i_96, i_97, i_98, i_99, i_100, i_101, i_102, i_103, i_104, i_105, i_106, i_107, i_108, i_109, i_110, i_111, i_112, i_113, i_122, i_200, i_255, i_256, i_257, i_258, i_355, i_400, i_999, i_1000, i_1200, i_5680, i_9999, i_10000, i_99999, j_0, j_1, j_2, j_3, j_4, j_5, j_6, j_9, j_10, j_11, j_98, j_99, j_100, j_999, j_1000, j_9999, j_10000, j_99999, j_1000000, h1.wq, h4, h2, st_ne]
  · rw [at_S, List.length_append]
    rfl
  · rw [rsg_ap]
    refine ⟨rsg_fr K _ (by omega) (fun j h1 h2 => ⟨?_, ?_⟩) h3, ⟨?_, ?_⟩, trivial⟩
    · rw [st_ne (by omega), st_ne (by omega), st_I, if_neg (by omega)]
    · rw [st_ne (by omega), st_I, if_neg (by omega), st_ne (by omega)]
    · rw [st_ne (by omega), st_ne (by omega), at_S]
    · rw [st_ne (by omega), at_S]
  · rw [g' 0 26 (by omega) (by omega) (by omega)]; exact h4
  · rw [g' 0 27 (by omega) (by omega) (by omega)]; exact h5
  · rw [g' 0 29 (by omega) (by omega) (by omega)]; exact h6
theorem r_emitsf (h : RR T n s f ν) (hf : ¬ f = -1) (x y : Int32) : fX11_emits N x y ν = some ((), ν) := by
  simp (disch := omega) only [fX11_emits, Int.reduceEq, Int.reduceNe, Int.reduceLT, Int.reduceLE, Int.reduceAdd, Int.reduceSub, Int.reduceMul, Int.reduceNeg, Int.zero_add, Int.add_zero, nm_eq, bd_some, bv_some, aI_ok, aL_ok, aS_ok, dv_ok, dw_ok, I_add, I_sub, I_mul, I_neg, I_lt, I_le, I_eq, I_nat, J_add, J_sub, J_mul, J_neg, J_lt, J_le, J_eq, I_l, J_i, I_div, J_div, b2_0, b2_1, b2_nar, nar_0, nar_1, zr_0, zr_1, zr_b2, cmp_eq, cmp_le, cmp_lt, cmp_gt, cmp_ge, mx_I, mn_I, mx_L, mn_L, az_I, if_true, if_false, not_true_eq_false, not_false_eq_true, Bool.false_eq_true, i_0, i_1, i_2, i_3, i_4, i_5, i_6, i_7, i_8, i_9, i_10, i_11, i_12, i_16, i_18, i_20, i_24, i_28, i_29, i_30, i_31, i_32, i_33, i_34, i_35, i_37, i_40, i_41, i_42, i_43, i_45, i_46, i_47, i_48, i_57, i_59, i_63, i_64, i_96, i_97, i_98, i_99, i_100, i_101, i_102, i_103, i_104, i_105, i_106, i_107, i_108, i_109, i_110, i_111, i_112, i_113, i_122, i_200, i_255, i_256, i_257, i_258, i_355, i_400, i_999, i_1000, i_1200, i_5680, i_9999, i_10000, i_99999, j_0, j_1, j_2, j_3, j_4, j_5, j_6, j_9, j_10, j_11, j_98, j_99, j_100, j_999, j_1000, j_9999, j_10000, j_99999, j_1000000, h.wq, hf]
theorem r_binds {c : Int} (hc : c = -10 ∨ isO c) : fX11_binds N (I_ (wW c)) ν = some (I_ (bnd c), ν) := by
  unfold isO at hc
  unfold wW bnd
  have : c = -10 ∨ c = -6 ∨ c = -7 ∨ c = -8 ∨ c = -9 := by omega
  rcases this with e | e | e | e | e <;> (subst e; rfl)
theorem rA_op {c : Int} (hc : isO c) : rA c = wW c ∧ rB c = 0 := by
  unfold isO at hc
  unfold rA rB wW
  rw [if_neg (by omega), if_neg (by omega), if_neg (by omega), if_neg (by omega), if_neg (by omega)]
  exact ⟨rfl, rfl⟩
/-- one more waits -/
theorem r_push (hT : tB T n) (a0 : 0 ≤ ad) {d : Int} (h : RSt T n ad s (-1) K W d ν) (hX : RX T n s (-1) ν) (hs : sk T n (s + 1) = z0) (sn : s < n) (hl : W.length < 410) {c : Int} (hc : c = -10 ∨ isO c) : ∃ ν', fX11_pushes N (I_ (wW c)) ν = some ((), ν') ∧ RSt T n ad z0 (-1) K (c :: W) d ν' ∧ Fr (P_rs ad) ν ν' := by
  obtain ⟨h1, h2, h3, h4, h5, h6, h7⟩ := h
  have i0 := hX.2.2.2.2.1
  have gF : Fr (fun k j => k = 17 ∨ (k = 0 ∧ j = 29)) ν (stI (stI ν 17 W.length (I_ (wW c))) 0 29 (I_ (W.length + 1))) := (Fr.rf.stI (Or.inl rfl)).stI (Or.inr ⟨rfl, rfl⟩)
  have hY := (hX.F gF (fun k j q => by omega)).at (i := s + 1) (by omega) (by omega)
  have gP : Fr (P_rs ad) ν (stI (stI (stI ν 17 W.length (I_ (wW c))) 0 29 (I_ (W.length + 1))) 0 16 (I_ (s + 1))) := ((Fr.rf.stI (Or.inr (Or.inl rfl))).stI (Or.inl ⟨rfl, by omega⟩)).stI (Or.inl ⟨rfl, by omega⟩)
  have g' : ∀ k j, k ≠ 0 → k ≠ 17 → (stI (stI (stI ν 17 W.length (I_ (wW c))) 0 29 (I_ (W.length + 1))) 0 16 (I_ (s + 1))).1 k j = ν.1 k j := fun k j a1 a2 => by rw [st_ne a1, st_ne a1, st_ne a2]
  refine ⟨stI (stI (stI ν 17 W.length (I_ (wW c))) 0 29 (I_ (W.length + 1))) 0 16 (I_ (s + 1)), ?_, ⟨⟨s + 1, hY, fun _ => hs⟩, ?_, rsg_fr K _ (by omega) (fun j _ _ => ⟨g' 14 j (by omega) (by omega), g' 15 j (by omega) (by omega)⟩) h3, ?_, ?_, ?_, ⟨⟨?_, hc⟩, wsg_fr W (fun j hj => ?_) h7⟩⟩, gP⟩
  · have w0 : ((W.length : Nat) : Int).toNat = W.length := Int.toNat_natCast _
    simp (disch := omega) only [fX11_pushes, Int.reduceEq, Int.reduceNe, Int.reduceLT, Int.reduceLE, Int.reduceAdd, Int.reduceSub, Int.reduceMul, Int.reduceNeg, Int.zero_add, Int.add_zero, nm_eq, bd_some, bv_some, aI_ok, aL_ok, aS_ok, dv_ok, dw_ok, I_add, I_sub, I_mul, I_neg, I_lt, I_le, I_eq, I_nat, J_add, J_sub, J_mul, J_neg, J_lt, J_le, J_eq, I_l, J_i, I_div, J_div, b2_0, b2_1, b2_nar, nar_0, nar_1, zr_0, zr_1, zr_b2, cmp_eq, cmp_le, cmp_lt, cmp_gt, cmp_ge, mx_I, mn_I, mx_L, mn_L, az_I, if_true, if_false, not_true_eq_false, not_false_eq_true, Bool.false_eq_true, i_0, i_1, i_2, i_3, i_4, i_5, i_6, i_7, i_8, i_9, i_10, i_11, i_12, i_16, i_18, i_20, i_24, i_28, i_29, i_30, i_31, i_32, i_33, i_34, i_35, i_37, i_40, i_41, i_42, i_43, i_45, i_46, i_47, i_48, i_57, i_59, i_63, i_64, i_96, i_97, i_98, i_99, i_100, i_101, i_102, i_103, i_104, i_105, i_106, i_107, i_108, i_109, i_110, i_111, i_112, i_113, i_122, i_200, i_255, i_256, i_257, i_258, i_355, i_400, i_999, i_1000, i_1200, i_5680, i_9999, i_10000, i_99999, j_0, j_1, j_2, j_3, j_4, j_5, j_6, j_9, j_10, j_11, j_98, j_99, j_100, j_999, j_1000, j_9999, j_10000, j_99999, j_1000000, h6, w0, st_I, st_I2, st_L1, st_L2, st_R1, st_R2, Nat.reduceEqDiff, Nat.reduceAdd, and_true, true_and, and_false, false_and, and_self, if_false, if_true, hX.2.2.1, st_ne]
  · rw [g' 16 _ (by omega) (by omega)]; exact h2
  · simp (disch := omega) only [st_I, st_I2, st_L1, st_L2, st_R1, st_R2, Nat.reduceEqDiff, Nat.reduceAdd, and_true, true_and, and_false, false_and, and_self, if_false, if_true]; exact h4
  · simp (disch := omega) only [st_I, st_I2, st_L1, st_L2, st_R1, st_R2, Nat.reduceEqDiff, Nat.reduceAdd, and_true, true_and, and_false, false_and, and_self, if_false, if_true]; exact h5
  · simp (disch := omega) only [st_I, st_I2, st_L1, st_L2, st_R1, st_R2, Nat.reduceEqDiff, Nat.reduceAdd, and_true, true_and, and_false, false_and, and_self, if_false, if_true]; rfl
  · rw [st_ne (by omega), st_ne (by omega), at_S]
  · rw [st_ne (by omega), st_ne (by omega), st_I, if_neg (by omega)]
end
