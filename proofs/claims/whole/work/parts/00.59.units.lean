/-! The units of a firm's exports by a method: their keys, first sales, sums. -/
def ky (V : Vw) (t z : Int) : Int := if t = 0 then (s_md V z * 4 + s_lv V z) * 13 + (mtc V z + 1) else z
abbrev p_ex (V : Vw) (f z : Int) : Prop := s_li V z = 1 ∧ s_fm V z = f ∧ s_mk V z = 1
def ixs (u : Int → Int) (y : Int) : Nat → Int → Int
  | 0, k => k
  | d + 1, k => if u k = y then k else ixs u y d (k + 1)
def gSt (V : Vw) (f t i : Int) (s : Int × (Int → Int)) : Int × (Int → Int) := if p_ex V f i then (if ixs (fun k => ky V t (s.2 k)) (ky V t i) s.1.toNat 0 = s.1 then (s.1 + 1, fun k => if k = s.1 then i else s.2 k) else s) else s
def gS (V : Vw) (f t : Int) : Nat → Int × (Int → Int)
  | 0 => (0, fun _ => 0)
  | i + 1 => gSt V f t i (gS V f t i)
def uN (V : Vw) (f t : Int) : Int := (gS V f t (zN V)).1
def uZ (V : Vw) (f t k : Int) : Int := (gS V f t (zN V)).2 k
def g_um (V : Vw) (f t y z : Int) : Int := if p_ex V f z ∧ ky V t z = y then s_mn V z else 0
def g_uv (V : Vw) (f t y z : Int) : Int := if p_ex V f z ∧ ky V t z = y then 1000 * s_nt V z * s_mn V z else 0
def uM (V : Vw) (f t k : Int) : Int := sg (zN V) 0 (g_um V f t (ky V t (uZ V f t k)))
def uV (V : Vw) (f t k : Int) : Int := sg (zN V) 0 (g_uv V f t (ky V t (uZ V f t k)))
def uA (V : Vw) (f t k : Int) : Int := if 0 < uM V f t k then uV V f t k / uM V f t k else 0
def uW (V : Vw) (f t k : Int) : Int := x_wf V (uZ V f t k) t
def uD (V : Vw) (f t r k : Int) : Int := (uW V f t k - uA V f t k - 1000 * r) * uM V f t k
theorem ixs_lo {u : Int → Int} {y : Int} : ∀ (d : Nat) (k : Int), k ≤ ixs u y d k ∧ ixs u y d k ≤ k + d := by
  intro d
  induction d with
  | zero => intro k; simp [ixs]
  | succ d ih =>
    intro k
    unfold ixs
    split
    · omega
    · have := ih (k + 1); omega
theorem ixs_hit {u : Int → Int} {y : Int} : ∀ (d : Nat) (k : Int), ixs u y d k < k + d → u (ixs u y d k) = y := by
  intro d
  induction d with
  | zero => intro k h; simp [ixs] at h
  | succ d ih =>
    intro k h
    unfold ixs at h ⊢
    split
    · assumption
    · rename_i hne
      rw [if_neg hne] at h
      exact ih (k + 1) (by omega)
theorem ixs_no {u : Int → Int} {y : Int} : ∀ (d : Nat) (k : Int), ixs u y d k = k + d → ∀ j, k ≤ j → j < k + d → u j ≠ y := by
  intro d
  induction d with
  | zero => intro k _ j a c; omega
  | succ d ih =>
    intro k h j a c
    unfold ixs at h
    by_cases hk : u k = y
    · rw [if_pos hk] at h; omega
    · rw [if_neg hk] at h
      by_cases hj : j = k
      · rw [hj]; exact hk
      · exact ih (k + 1) (by omega) j (by omega) (by omega)
/-- what holds of the units found among the first i sales -/
def gI (V : Vw) (f t i : Int) (s : Int × (Int → Int)) : Prop := (0 ≤ s.1 ∧ s.1 ≤ i) ∧ (∀ k, 0 ≤ k → k < s.1 → 0 ≤ s.2 k ∧ s.2 k < i ∧ p_ex V f (s.2 k)) ∧ (∀ j k, 0 ≤ j → j < s.1 → 0 ≤ k → k < s.1 → ky V t (s.2 j) = ky V t (s.2 k) → j = k) ∧ ∀ z, 0 ≤ z → z < i → p_ex V f z → ∃ k, 0 ≤ k ∧ k < s.1 ∧ ky V t (s.2 k) = ky V t z
section
variable {N : Nat} {b : Nat} {V : Vw} {f t : Int}
theorem gI_0 : gI V f t 0 (0, fun _ => 0) := by
  refine ⟨⟨by show (0 : Int) ≤ 0; omega, by show (0 : Int) ≤ 0; omega⟩, fun k a c => ?_, fun j k a c => ?_, fun z a c => ?_⟩
  · have : k < 0 := c; omega
  · have : j < 0 := c; omega
  · omega
theorem gI_new {i : Int} {s : Int × (Int → Int)} (h : gI V f t i s) (h0 : 0 ≤ i) (he : p_ex V f i) (hx : ∀ k, 0 ≤ k → k < s.1 → ky V t (s.2 k) ≠ ky V t i) : gI V f t (i + 1) (s.1 + 1, fun k => if k = s.1 then i else s.2 k) := by
  obtain ⟨⟨a0, a1⟩, h2, h3, h4⟩ := h
  refine ⟨⟨by show 0 ≤ s.1 + 1; omega, by show s.1 + 1 ≤ i + 1; omega⟩, fun k k0 k1 => ?_, fun j k j0 j1 k0 k1 e => ?_, fun z z0 z1 hz => ?_⟩
  · have k1 : k < s.1 + 1 := k1
    show 0 ≤ (if k = s.1 then i else s.2 k) ∧ (if k = s.1 then i else s.2 k) < i + 1 ∧ p_ex V f (if k = s.1 then i else s.2 k)
    by_cases hk : k = s.1
    · rw [if_pos hk]; exact ⟨h0, by omega, he⟩
    · rw [if_neg hk]
      obtain ⟨q1, q2, q3⟩ := h2 k k0 (by omega)
      exact ⟨q1, by omega, q3⟩
  · have j1 : j < s.1 + 1 := j1
    have k1 : k < s.1 + 1 := k1
    have e : ky V t (if j = s.1 then i else s.2 j) = ky V t (if k = s.1 then i else s.2 k) := e
    by_cases hj : j = s.1
    · by_cases hk : k = s.1
      · omega
      · rw [if_pos hj, if_neg hk] at e
        exact absurd e.symm (hx k k0 (by omega))
    · by_cases hk : k = s.1
      · rw [if_neg hj, if_pos hk] at e
        exact absurd e (hx j j0 (by omega))
      · rw [if_neg hj, if_neg hk] at e
        exact h3 j k j0 (by omega) k0 (by omega) e
  · by_cases hzi : z = i
    · exact ⟨s.1, a0, by show s.1 < s.1 + 1; omega, by show ky V t (if s.1 = s.1 then i else _) = _; rw [if_pos rfl, hzi]⟩
    · obtain ⟨k, q0, q1, q2⟩ := h4 z z0 (by omega) hz
      exact ⟨k, q0, by show k < s.1 + 1; omega, by show ky V t (if k = s.1 then i else s.2 k) = _; rw [if_neg (by omega)]; exact q2⟩
theorem gI_step {i : Int} {s : Int × (Int → Int)} (h : gI V f t i s) (h0 : 0 ≤ i) : gI V f t (i + 1) (gSt V f t i s) := by
  obtain ⟨⟨a0, a1⟩, h2, h3, h4⟩ := id h
  unfold gSt
  by_cases he : p_ex V f i
  · rw [if_pos he]
    have hlo := ixs_lo (u := fun k => ky V t (s.2 k)) (y := ky V t i) s.1.toNat 0
    by_cases hx : ixs (fun k => ky V t (s.2 k)) (ky V t i) s.1.toNat 0 = s.1
    · rw [if_pos hx]
      exact gI_new h h0 he (fun k k0 k1 => ixs_no (u := fun k => ky V t (s.2 k)) s.1.toNat 0 (by omega) k (by omega) (by omega))
    · rw [if_neg hx]
      have hh := ixs_hit (u := fun k => ky V t (s.2 k)) (y := ky V t i) s.1.toNat 0 (by omega)
      refine ⟨⟨a0, by omega⟩, fun k k0 k1 => ?_, h3, fun z z0 z1 hz => ?_⟩
      · obtain ⟨q1, q2, q3⟩ := h2 k k0 k1
        exact ⟨q1, by omega, q3⟩
      · by_cases hzi : z = i
        · exact ⟨_, hlo.1, by omega, by rw [hzi]; exact hh⟩
        · exact h4 z z0 (by omega) hz
  · rw [if_neg he]
    refine ⟨⟨a0, by omega⟩, fun k k0 k1 => ?_, h3, fun z z0 z1 hz => ?_⟩
    · obtain ⟨q1, q2, q3⟩ := h2 k k0 k1
      exact ⟨q1, by omega, q3⟩
    · by_cases hzi : z = i
      · exact absurd (by rw [← hzi]; exact hz) he
      · exact h4 z z0 (by omega) hz
theorem gI_all : ∀ i : Nat, gI V f t i (gS V f t i) := by
  intro i
  induction i with
  | zero => exact gI_0
  | succ i ih =>
    have := gI_step ih (by omega)
    have e : ((i + 1 : Nat) : Int) = (i : Int) + 1 := by omega
    rw [e]
    exact this
theorem uN_in (hV : vB V) (f t : Int) : 0 ≤ uN V f t ∧ uN V f t ≤ sN V := by
  have := (gI_all (V := V) (f := f) (t := t) (zN V)).1
  have hz := zN_le hV
  unfold uN
  omega
theorem uZ_in (hV : vB V) {f t k : Int} (k0 : 0 ≤ k) (k1 : k < uN V f t) : 0 ≤ uZ V f t k ∧ uZ V f t k < sN V ∧ p_ex V f (uZ V f t k) := by
  have := (gI_all (V := V) (f := f) (t := t) (zN V)).2.1 k k0 k1
  have hz := zN_le hV
  unfold uZ
  exact ⟨this.1, by omega, this.2.2⟩
theorem ky_eq (hV : vB V) {r z : Int} (r0 : 0 ≤ r) (r1 : r < sN V) (z0 : 0 ≤ z) (z1 : z < sN V) : (ky V 0 r = ky V 0 z) ↔ (s_md V r = s_md V z ∧ s_lv V r = s_lv V z ∧ mtc V r = mtc V z) := by
  have hv := hV.2.1 r r0 r1
  have hw := hV.2.1 z z0 z1
  unfold vS at hv hw
  have a := mtc_in hV r0 r1
  have c := mtc_in hV z0 z1
  unfold ky
  rw [if_pos rfl, if_pos rfl]
  omega
theorem g_um_or (V : Vw) (f t y z : Int) : g_um V f t y z = 0 ∨ g_um V f t y z = s_mn V z := by
  unfold g_um; split
  · exact Or.inr rfl
  · exact Or.inl rfl
theorem uM_in (hV : vB V) (f t k : Int) : 0 ≤ uM V f t k ∧ uM V f t k ≤ 39960 := sg_small hV (zN_le hV) (fun z _ _ => g_um_or V f t _ z)
theorem uV_in (hV : vB V) (f t k : Int) : 0 ≤ uV V f t k ∧ uV V f t k ≤ 99999000 * uM V f t k := sg_val hV (zN_le hV) (fun z _ _ => by
  unfold g_uv g_um; split
  · exact Or.inr ⟨rfl, rfl⟩
  · exact Or.inl ⟨rfl, rfl⟩)
theorem uA_in (hV : vB V) (f t k : Int) : 0 ≤ uA V f t k ∧ uA V f t k ≤ 99999000 := by
  have a := uV_in hV f t k
  unfold uA
  split
  · rename_i h; exact dv_in a.1 h a.2
  · omega
theorem uW_in (hV : vB V) {f t k : Int} (k0 : 0 ≤ k) (k1 : k < uN V f t) : 0 ≤ uW V f t k ∧ uW V f t k ≤ 200000000 := by
  have h := uZ_in hV k0 k1
  exact x_wf_in hV h.1 h.2.1
theorem sg_ge {g : Int → Int} : ∀ (d : Nat) (i : Int), (∀ z, i ≤ z → z < i + d → 0 ≤ g z) → ∀ j, i ≤ j → j < i + d → g j ≤ sg d i g := by
  intro d
  induction d with
  | zero => intro i _ j a c; omega
  | succ d ih =>
    intro i hz j a c
    have h1 := hz i (by omega) (by omega)
    have e : sg (d + 1) i g = g i + sg d (i + 1) g := rfl
    have nn : 0 ≤ sg d (i + 1) g := by
      have e0 : ∀ (d : Nat) (i : Int), sg d i (fun _ => 0) = 0 := by
        intro d
        induction d with
        | zero => intro i; rfl
        | succ d ih => intro i; show 0 + sg d (i + 1) _ = 0; rw [ih]; rfl
      have := sg_le (g := fun _ => 0) (h := g) d (i + 1) (fun z a c => hz z (by omega) (by omega))
      rw [e0] at this
      exact this
    by_cases hj : j = i
    · rw [hj]; omega
    · have := ih (i + 1) (fun z a c => hz z (by omega) (by omega)) j (by omega) (by omega)
      omega
theorem uM_pos (hV : vB V) {f t k : Int} (k0 : 0 ≤ k) (k1 : k < uN V f t) : 1 ≤ uM V f t k := by
  have h := uZ_in hV k0 k1
  have hz : (zN V : Int) = sN V := by
    have hn := hV.1
    unfold vN at hn
    unfold zN
    omega
  have hv := hV.2.1 _ h.1 h.2.1
  unfold vS at hv
  have := sg_ge (g := g_um V f t (ky V t (uZ V f t k))) (zN V) 0 (fun z a c => by
    have hw := hV.2.1 z a (by omega)
    unfold vS at hw
    rcases g_um_or V f t (ky V t (uZ V f t k)) z with q | q <;> omega) (uZ V f t k) h.1 (by omega)
  have e : g_um V f t (ky V t (uZ V f t k)) (uZ V f t k) = s_mn V (uZ V f t k) := by unfold g_um; rw [if_pos ⟨h.2.2, rfl⟩]
  unfold uM
  omega
end
