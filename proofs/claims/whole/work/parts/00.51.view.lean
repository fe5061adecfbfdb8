/-! The view of a case: what both sides hold. V k z: k = 0 how many (0 sales, 1 models, 2 firms); 1..10 of sale z: market, firm, model, level, month, many, price, off, net, live; 11..13 of model z: cost, likeness, target; 14 cost told (firm * 6 + model; 0: none); 15 silent; 16 settings. -/
abbrev Vw : Type := Int → Int → Int
def sN (V : Vw) : Int := V 0 0
def mN (V : Vw) : Int := V 0 1
def fN (V : Vw) : Int := V 0 2
def s_mk (V : Vw) (z : Int) : Int := V 1 z
def s_fm (V : Vw) (z : Int) : Int := V 2 z
def s_md (V : Vw) (z : Int) : Int := V 3 z
def s_lv (V : Vw) (z : Int) : Int := V 4 z
def s_mo (V : Vw) (z : Int) : Int := V 5 z
def s_mn (V : Vw) (z : Int) : Int := V 6 z
def s_pr (V : Vw) (z : Int) : Int := V 7 z
def s_of (V : Vw) (z : Int) : Int := V 8 z
def s_nt (V : Vw) (z : Int) : Int := V 9 z
def s_li (V : Vw) (z : Int) : Int := V 10 z
def m_co (V : Vw) (z : Int) : Int := V 11 z
def m_lk (V : Vw) (z : Int) : Int := V 12 z
def m_tg (V : Vw) (z : Int) : Int := V 13 z
def t_co (V : Vw) (p : Int) : Int := V 14 p
def s_si (V : Vw) (f : Int) : Int := V 15 f
def s_se (V : Vw) (k : Int) : Int := V 16 k
def vS (V : Vw) (z : Int) : Prop := (0 ≤ s_mk V z ∧ s_mk V z ≤ 2) ∧ (0 ≤ s_fm V z ∧ s_fm V z < fN V) ∧ (0 ≤ s_md V z ∧ s_md V z < mN V) ∧ (0 ≤ s_lv V z ∧ s_lv V z ≤ 3) ∧ (0 ≤ s_mo V z ∧ s_mo V z ≤ 11) ∧ (1 ≤ s_mn V z ∧ s_mn V z ≤ 999) ∧ (1 ≤ s_pr V z ∧ s_pr V z ≤ 9999) ∧ (-1000000 ≤ s_of V z ∧ s_of V z ≤ 1000000) ∧ (0 ≤ s_nt V z ∧ s_nt V z ≤ 99999) ∧ (0 ≤ s_li V z ∧ s_li V z ≤ 1)
def vM (V : Vw) (m : Int) : Prop := (1 ≤ m_co V m ∧ m_co V m ≤ 9999) ∧ (0 ≤ m_lk V m ∧ m_lk V m ≤ 99) ∧ (0 ≤ m_tg V m ∧ m_tg V m ≤ 9999)
def vN (V : Vw) : Prop := (0 ≤ sN V ∧ sN V ≤ 40) ∧ (0 ≤ mN V ∧ mN V ≤ 6) ∧ (0 ≤ fN V ∧ fN V ≤ 4) ∧ (0 ≤ s_se V 0 ∧ s_se V 0 ≤ 2) ∧ (0 ≤ s_se V 1 ∧ s_se V 1 ≤ 1) ∧ (0 ≤ s_se V 2 ∧ s_se V 2 ≤ 1) ∧ (0 ≤ s_se V 3 ∧ s_se V 3 ≤ 1) ∧ (0 ≤ s_se V 4 ∧ s_se V 4 ≤ 99) ∧ (0 ≤ s_se V 5 ∧ s_se V 5 ≤ 99)
def vB (V : Vw) : Prop := vN V ∧ (∀ z, 0 ≤ z → z < sN V → vS V z) ∧ (∀ m, 0 ≤ m → m < mN V → vM V m) ∧ (∀ p, 0 ≤ p → p < 24 → 0 ≤ t_co V p ∧ t_co V p ≤ 9999) ∧ (∀ f, 0 ≤ f → f < 4 → 0 ≤ s_si V f ∧ s_si V f ≤ 1)
/-- the cost of a model for a firm -/
def c_of (V : Vw) (f m : Int) : Int := if t_co V (f * 6 + m) ≤ 0 then m_co V m else t_co V (f * 6 + m)
theorem c_of_in {V : Vw} (hV : vB V) {f m : Int} (f0 : 0 ≤ f) (f1 : f < 4) (m0 : 0 ≤ m) (m1 : m < mN V) : 1 ≤ c_of V f m ∧ c_of V f m ≤ 9999 := by
  have h1 := hV.1.2.1
  have h2 := hV.2.2.1 m m0 m1
  have h3 := hV.2.2.2.1 (f * 6 + m) (by omega) (by omega)
  unfold vM at h2
  unfold c_of
  split <;> omega
/-! The class's book. -/
def SB (s : Nat) (V : Vw) (μ : Mem) : Prop := kS s ∧ μ.1 s 10 = I_ (sN V) ∧ ∀ z, 0 ≤ z → z < sN V → μ.1 (s + 1) z.toNat = I_ (s_mk V z) ∧ μ.1 (s + 2) z.toNat = I_ (s_fm V z) ∧ μ.1 (s + 3) z.toNat = I_ (s_md V z) ∧ μ.1 (s + 4) z.toNat = I_ (s_lv V z) ∧ μ.1 (s + 5) z.toNat = I_ (s_mo V z) ∧ μ.1 (s + 6) z.toNat = I_ (s_mn V z) ∧ μ.1 (s + 7) z.toNat = I_ (s_pr V z) ∧ μ.1 (s + 8) z.toNat = I_ (s_of V z) ∧ μ.1 (s + 9) z.toNat = I_ (s_nt V z) ∧ μ.1 (s + 10) z.toNat = I_ (s_li V z)
section
variable {s : Nat} {V : Vw} {μ : Mem}
theorem SB_n (h : SB s V μ) : μ.1 s 10 = I_ (sN V) := h.2.1
theorem SB_mk (h : SB s V μ) {z : Int} (h0 : 0 ≤ z) (h1 : z < sN V) : μ.1 (s + 1) z.toNat = I_ (s_mk V z) := (h.2.2 z h0 h1).1
theorem SB_fm (h : SB s V μ) {z : Int} (h0 : 0 ≤ z) (h1 : z < sN V) : μ.1 (s + 2) z.toNat = I_ (s_fm V z) := (h.2.2 z h0 h1).2.1
theorem SB_md (h : SB s V μ) {z : Int} (h0 : 0 ≤ z) (h1 : z < sN V) : μ.1 (s + 3) z.toNat = I_ (s_md V z) := (h.2.2 z h0 h1).2.2.1
theorem SB_lv (h : SB s V μ) {z : Int} (h0 : 0 ≤ z) (h1 : z < sN V) : μ.1 (s + 4) z.toNat = I_ (s_lv V z) := (h.2.2 z h0 h1).2.2.2.1
theorem SB_mo (h : SB s V μ) {z : Int} (h0 : 0 ≤ z) (h1 : z < sN V) : μ.1 (s + 5) z.toNat = I_ (s_mo V z) := (h.2.2 z h0 h1).2.2.2.2.1
theorem SB_mn (h : SB s V μ) {z : Int} (h0 : 0 ≤ z) (h1 : z < sN V) : μ.1 (s + 6) z.toNat = I_ (s_mn V z) := (h.2.2 z h0 h1).2.2.2.2.2.1
theorem SB_pr (h : SB s V μ) {z : Int} (h0 : 0 ≤ z) (h1 : z < sN V) : μ.1 (s + 7) z.toNat = I_ (s_pr V z) := (h.2.2 z h0 h1).2.2.2.2.2.2.1
theorem SB_of (h : SB s V μ) {z : Int} (h0 : 0 ≤ z) (h1 : z < sN V) : μ.1 (s + 8) z.toNat = I_ (s_of V z) := (h.2.2 z h0 h1).2.2.2.2.2.2.2.1
theorem SB_nt (h : SB s V μ) {z : Int} (h0 : 0 ≤ z) (h1 : z < sN V) : μ.1 (s + 9) z.toNat = I_ (s_nt V z) := (h.2.2 z h0 h1).2.2.2.2.2.2.2.2.1
theorem SB_li (h : SB s V μ) {z : Int} (h0 : 0 ≤ z) (h1 : z < sN V) : μ.1 (s + 10) z.toNat = I_ (s_li V z) := (h.2.2 z h0 h1).2.2.2.2.2.2.2.2.2
end
def CB (b : Nat) (V : Vw) (μ : Mem) : Prop := kB b ∧ SB (b + 12) V μ ∧ μ.1 (b + 1) 2 = I_ (mN V) ∧ μ.1 (b + 4) 2 = I_ (fN V) ∧ (∀ m, 0 ≤ m → m < mN V → μ.1 (b + 23) m.toNat = I_ (m_co V m) ∧ μ.1 (b + 24) m.toNat = I_ (m_lk V m) ∧ μ.1 (b + 25) m.toNat = I_ (m_tg V m)) ∧ (∀ p, 0 ≤ p → p < 24 → μ.1 (b + 26) p.toNat = I_ (t_co V p)) ∧ (∀ f, 0 ≤ f → f < 4 → μ.1 (b + 27) f.toNat = I_ (s_si V f)) ∧ ∀ k, 0 ≤ k → k < 6 → μ.1 (b + 28) k.toNat = I_ (s_se V k)
section
variable {b : Nat} {V : Vw} {μ : Mem}
theorem CB_m (h : CB b V μ) : μ.1 (b + 1) 2 = I_ (mN V) := h.2.2.1
theorem CB_f (h : CB b V μ) : μ.1 (b + 4) 2 = I_ (fN V) := h.2.2.2.1
theorem CB_co (h : CB b V μ) {m : Int} (h0 : 0 ≤ m) (h1 : m < mN V) : μ.1 (b + 23) m.toNat = I_ (m_co V m) := (h.2.2.2.2.1 m h0 h1).1
theorem CB_lk (h : CB b V μ) {m : Int} (h0 : 0 ≤ m) (h1 : m < mN V) : μ.1 (b + 24) m.toNat = I_ (m_lk V m) := (h.2.2.2.2.1 m h0 h1).2.1
theorem CB_tg (h : CB b V μ) {m : Int} (h0 : 0 ≤ m) (h1 : m < mN V) : μ.1 (b + 25) m.toNat = I_ (m_tg V m) := (h.2.2.2.2.1 m h0 h1).2.2
theorem CB_tc (h : CB b V μ) {p : Int} (h0 : 0 ≤ p) (h1 : p < 24) : μ.1 (b + 26) p.toNat = I_ (t_co V p) := h.2.2.2.2.2.1 p h0 h1
theorem CB_si (h : CB b V μ) {f : Int} (h0 : 0 ≤ f) (h1 : f < 4) : μ.1 (b + 27) f.toNat = I_ (s_si V f) := h.2.2.2.2.2.2.1 f h0 h1
theorem CB_se (h : CB b V μ) {k : Int} (h0 : 0 ≤ k) (h1 : k < 6) : μ.1 (b + 28) k.toNat = I_ (s_se V k) := h.2.2.2.2.2.2.2 k h0 h1
end
/-- an export of a firm -/

def p_of (V : Vw) (z f m : Int) : Prop := s_li V z = 1 ∧ s_fm V z = f ∧ s_mk V z = m
section
variable {N : Nat} {s : Nat} {V : Vw} {μ : Mem}
theorem c_isOf (hV : vB V) (hS : SB s V μ) {i f m : Int} (h0 : 0 ≤ i) (h1 : i < sN V) (f0 : -10 ≤ f) (f1 : f ≤ 10) (m0 : -10 ≤ m) (m1 : m ≤ 10) : fX7_isOf N s (I_ i) (I_ f) (I_ m) μ = some (I_ (b2 (s_li V i = 1 ∧ s_fm V i = f ∧ s_mk V i = m)), μ) := by
  have hv := hV.2.1 i h0 h1
  have hn := hV.1
  unfold vS at hv
  unfold vN at hn
  unfold fX7_isOf
  rw [if_pos hS.1]
  simp (disch := omega) only [nm_eq, bd_some, bv_some, aI_ok, aL_ok, aS_ok, dv_ok, dw_ok, I_add, I_sub, I_mul, I_neg, I_lt, I_le, I_eq, I_nat, J_add, J_sub, J_mul, J_neg, J_lt, J_le, J_eq, I_l, J_i, I_div, J_div, b2_0, b2_1, b2_nar, nar_0, nar_1, zr_0, zr_1, zr_b2, cmp_eq, cmp_le, cmp_lt, cmp_gt, cmp_ge, mx_I, mn_I, mx_L, mn_L, az_I, if_true, if_false, i_0, i_1, i_2, i_3, i_4, i_5, i_6, i_7, i_8, i_9, i_10, i_11, i_12, i_16, i_18, i_20, i_24, i_28, i_29, i_30, i_31, i_32, i_33, i_34, i_35, i_37, i_40, i_41, i_42, i_43, i_45, i_46, i_47, i_48, i_57, i_59, i_63, i_64, i_96, i_97, i_98, i_99, i_100, i_101, i_102, i_103, i_104, i_105, i_106, i_107, i_108, i_109, i_110, i_111, i_112, i_113, i_122, i_200, i_255, i_256, i_257, i_258, i_355, i_400, i_999, i_1000, i_1200, i_5680, i_9999, i_10000, i_99999, j_0, j_1, j_2, j_3, j_4, j_5, j_6, j_9, j_10, j_11, j_98, j_99, j_100, j_999, j_1000, j_9999, j_10000, j_99999, j_1000000, SB_n hS, SB_mk hS, SB_fm hS, SB_md hS, SB_lv hS, SB_mo hS, SB_mn hS, SB_pr hS, SB_of hS, SB_nt hS, SB_li hS]
  unfold b2
  (repeat' split) <;> first | rfl | (exfalso; omega)
theorem c_valueAt (hV : vB V) (hS : SB s V μ) {i : Int} (h0 : 0 ≤ i) (h1 : i < sN V) : fX7_valueAt N s (I_ i) μ = some (J_ (1000 * s_nt V i * s_mn V i), μ) := by
  have hv := hV.2.1 i h0 h1
  have hn := hV.1
  unfold vS at hv
  unfold vN at hn
  unfold fX7_valueAt
  rw [if_pos hS.1]
  simp (disch := omega) only [nm_eq, bd_some, bv_some, aI_ok, aL_ok, aS_ok, dv_ok, dw_ok, I_add, I_sub, I_mul, I_neg, I_lt, I_le, I_eq, I_nat, J_add, J_sub, J_mul, J_neg, J_lt, J_le, J_eq, I_l, J_i, I_div, J_div, b2_0, b2_1, b2_nar, nar_0, nar_1, zr_0, zr_1, zr_b2, cmp_eq, cmp_le, cmp_lt, cmp_gt, cmp_ge, mx_I, mn_I, mx_L, mn_L, az_I, if_true, if_false, i_0, i_1, i_2, i_3, i_4, i_5, i_6, i_7, i_8, i_9, i_10, i_11, i_12, i_16, i_18, i_20, i_24, i_28, i_29, i_30, i_31, i_32, i_33, i_34, i_35, i_37, i_40, i_41, i_42, i_43, i_45, i_46, i_47, i_48, i_57, i_59, i_63, i_64, i_96, i_97, i_98, i_99, i_100, i_101, i_102, i_103, i_104, i_105, i_106, i_107, i_108, i_109, i_110, i_111, i_112, i_113, i_122, i_200, i_255, i_256, i_257, i_258, i_355, i_400, i_999, i_1000, i_1200, i_5680, i_9999, i_10000, i_99999, j_0, j_1, j_2, j_3, j_4, j_5, j_6, j_9, j_10, j_11, j_98, j_99, j_100, j_999, j_1000, j_9999, j_10000, j_99999, j_1000000, SB_n hS, SB_mk hS, SB_fm hS, SB_md hS, SB_lv hS, SB_mo hS, SB_mn hS, SB_pr hS, SB_of hS, SB_nt hS, SB_li hS]
/-- the value of a firm's exports -/
def g_val (V : Vw) (f z : Int) : Int := if s_li V z = 1 ∧ s_fm V z = f ∧ s_mk V z = 1 then 1000 * s_nt V z * s_mn V z else 0
def x_val (V : Vw) (f : Int) : Int := sg (sN V).toNat 0 (g_val V f)
theorem c_exVal_l (hV : vB V) (hS : SB s V μ) {f : Int} (f0 : -10 ≤ f) (f1 : f ≤ 10) : ∀ (d n : Nat) (i acc : Int), d < n → 0 ≤ i → i + d = sN V → fX7_exportValue_5 N n s (I_ f) (J_ acc) (I_ i) μ = some (J_ (acc + sg d i (g_val V f)), μ) := by
  have hn := hV.1
  unfold vN at hn
  intro d
  induction d with
  | zero =>
    intro n i acc h1 h2 h3
    obtain ⟨n, rfl⟩ : ∃ m, n = m + 1 := ⟨n - 1, by omega⟩
    have hle : sN V ≤ i := by omega
    simp (disch := omega) only [fX7_exportValue_5, nm_eq, bd_some, bv_some, aI_ok, aL_ok, aS_ok, dv_ok, dw_ok, I_add, I_sub, I_mul, I_neg, I_lt, I_le, I_eq, I_nat, J_add, J_sub, J_mul, J_neg, J_lt, J_le, J_eq, I_l, J_i, I_div, J_div, b2_0, b2_1, b2_nar, nar_0, nar_1, zr_0, zr_1, zr_b2, cmp_eq, cmp_le, cmp_lt, cmp_gt, cmp_ge, mx_I, mn_I, mx_L, mn_L, az_I, if_true, if_false, i_0, i_1, i_2, i_3, i_4, i_5, i_6, i_7, i_8, i_9, i_10, i_11, i_12, i_16, i_18, i_20, i_24, i_28, i_29, i_30, i_31, i_32, i_33, i_34, i_35, i_37, i_40, i_41, i_42, i_43, i_45, i_46, i_47, i_48, i_57, i_59, i_63, i_64, i_96, i_97, i_98, i_99, i_100, i_101, i_102, i_103, i_104, i_105, i_106, i_107, i_108, i_109, i_110, i_111, i_112, i_113, i_122, i_200, i_255, i_256, i_257, i_258, i_355, i_400, i_999, i_1000, i_1200, i_5680, i_9999, i_10000, i_99999, j_0, j_1, j_2, j_3, j_4, j_5, j_6, j_9, j_10, j_11, j_98, j_99, j_100, j_999, j_1000, j_9999, j_10000, j_99999, j_1000000, SB_n hS, SB_mk hS, SB_fm hS, SB_md hS, SB_lv hS, SB_mo hS, SB_mn hS, SB_pr hS, SB_of hS, SB_nt hS, SB_li hS, hle, sg, Int.add_zero]
  | succ d ih =>
    intro n i acc h1 h2 h3
    obtain ⟨n, rfl⟩ : ∃ m, n = m + 1 := ⟨n - 1, by omega⟩
    have hle : ¬ sN V ≤ i := by omega
    simp (disch := omega) only [fX7_exportValue_5, nm_eq, bd_some, bv_some, aI_ok, aL_ok, aS_ok, dv_ok, dw_ok, I_add, I_sub, I_mul, I_neg, I_lt, I_le, I_eq, I_nat, J_add, J_sub, J_mul, J_neg, J_lt, J_le, J_eq, I_l, J_i, I_div, J_div, b2_0, b2_1, b2_nar, nar_0, nar_1, zr_0, zr_1, zr_b2, cmp_eq, cmp_le, cmp_lt, cmp_gt, cmp_ge, mx_I, mn_I, mx_L, mn_L, az_I, if_true, if_false, i_0, i_1, i_2, i_3, i_4, i_5, i_6, i_7, i_8, i_9, i_10, i_11, i_12, i_16, i_18, i_20, i_24, i_28, i_29, i_30, i_31, i_32, i_33, i_34, i_35, i_37, i_40, i_41, i_42, i_43, i_45, i_46, i_47, i_48, i_57, i_59, i_63, i_64, i_96, i_97, i_98, i_99, i_100, i_101, i_102, i_103, i_104, i_105, i_106, i_107, i_108, i_109, i_110, i_111, i_112, i_113, i_122, i_200, i_255, i_256, i_257, i_258, i_355, i_400, i_999, i_1000, i_1200, i_5680, i_9999, i_10000, i_99999, j_0, j_1, j_2, j_3, j_4, j_5, j_6, j_9, j_10, j_11, j_98, j_99, j_100, j_999, j_1000, j_9999, j_10000, j_99999, j_1000000, SB_n hS, SB_mk hS, SB_fm hS, SB_md hS, SB_lv hS, SB_mo hS, SB_mn hS, SB_pr hS, SB_of hS, SB_nt hS, SB_li hS, hle, c_isOf hV hS, c_valueAt hV hS]
    by_cases hp : s_li V i = 1 ∧ s_fm V i = f ∧ s_mk V i = 1
    · simp (disch := omega) only [hp, and_self, not_true, if_false, ih, sg, g_val, if_true, Int.add_assoc]
    · simp (disch := omega) only [hp, not_false_eq_true, if_true, ih, sg, g_val, if_false, Int.zero_add]
theorem c_exVal (hV : vB V) (hS : SB s V μ) (hN : 100 ≤ N) {f : Int} (f0 : -10 ≤ f) (f1 : f ≤ 10) : fX7_exportValue N s (I_ f) μ = some (J_ (x_val V f), μ) := by
  have hn := hV.1
  unfold vN at hn
  unfold fX7_exportValue x_val
  rw [if_pos hS.1]
  simp (disch := omega) only [nm_eq, bd_some, bv_some, aI_ok, aL_ok, aS_ok, dv_ok, dw_ok, I_add, I_sub, I_mul, I_neg, I_lt, I_le, I_eq, I_nat, J_add, J_sub, J_mul, J_neg, J_lt, J_le, J_eq, I_l, J_i, I_div, J_div, b2_0, b2_1, b2_nar, nar_0, nar_1, zr_0, zr_1, zr_b2, cmp_eq, cmp_le, cmp_lt, cmp_gt, cmp_ge, mx_I, mn_I, mx_L, mn_L, az_I, if_true, if_false, i_0, i_1, i_2, i_3, i_4, i_5, i_6, i_7, i_8, i_9, i_10, i_11, i_12, i_16, i_18, i_20, i_24, i_28, i_29, i_30, i_31, i_32, i_33, i_34, i_35, i_37, i_40, i_41, i_42, i_43, i_45, i_46, i_47, i_48, i_57, i_59, i_63, i_64, i_96, i_97, i_98, i_99, i_100, i_101, i_102, i_103, i_104, i_105, i_106, i_107, i_108, i_109, i_110, i_111, i_112, i_113, i_122, i_200, i_255, i_256, i_257, i_258, i_355, i_400, i_999, i_1000, i_1200, i_5680, i_9999, i_10000, i_99999, j_0, j_1, j_2, j_3, j_4, j_5, j_6, j_9, j_10, j_11, j_98, j_99, j_100, j_999, j_1000, j_9999, j_10000, j_99999, j_1000000, c_exVal_l hV hS, Int.zero_add]
  rw [c_exVal_l hV hS f0 f1 (sN V).toNat N 0 0 (by omega) (by omega) (by omega), Int.zero_add]
end
