/-! The view, row by row (k) and place by place (z), on both sides; c0 sales, c1 models. -/
def okk (k : Int) : Prop := 1 ≤ k ∧ k ≤ 16 ∧ k ≠ 8 ∧ k ≠ 9
def szv (c0 c1 k : Int) : Int := if k ≤ 10 then c0 else if k ≤ 13 then c1 else if k = 14 then 24 else if k = 15 then 4 else 6
def CBg (b : Nat) (V : Vw) (c0 c1 : Int) (μ : Mem) : Prop := ∀ k z, okk k → 0 ≤ z → z < szv c0 c1 k → μ.1 (b + 12 + k.toNat) z.toNat = I_ (V k z)
def dI (k z : Int) : Nat := if k = 10 then (35 + 8 * z + 7).toNat else if k ≤ 7 then (35 + 8 * z + (k - 1)).toNat else if k ≤ 13 then (3 * z + (k - 11)).toNat else if k = 14 then z.toNat else if k = 15 then (24 + z).toNat else (28 + z).toNat
def WF (V : Vw) (c0 c1 : Int) (g h : Nat → Int32) : Prop := ∀ k z, okk k → 0 ≤ z → z < szv c0 c1 k → (if 11 ≤ k ∧ k ≤ 13 then h (dI k z) else g (dI k z)) = I_ (V k z)
/-- a sale's row, a model's row -/
def vrow (V : Vw) (c : Int) (r : Int → Int) : Vw := fun a z => if (1 ≤ a ∧ a ≤ 10) ∧ z = c then r a else V a z
def vmod (V : Vw) (c : Int) (r : Int → Int) : Vw := fun a z => if (11 ≤ a ∧ a ≤ 13) ∧ z = c then r a else V a z
section
variable {b : Nat} {V : Vw} {c0 c1 : Int} {μ μ' : Mem} {g g' h h' : Nat → Int32}
theorem szv_s {k : Int} (h : k ≤ 10) : szv c0 c1 k = c0 := if_pos h
theorem szv_m {k : Int} (h0 : 11 ≤ k) (h1 : k ≤ 13) : szv c0 c1 k = c1 := by unfold szv; rw [if_neg (by omega), if_pos h1]
theorem CBg.fr (H : CBg b V c0 c1 μ) (f : ∀ k j, b + 13 ≤ k → k ≤ b + 28 → μ'.1 k j = μ.1 k j) : CBg b V c0 c1 μ' := fun k z a e i => by
  unfold okk at a
  rw [f _ _ (by omega) (by omega)]
  exact H k z a e i
theorem CBg.cong {V' : Vw} (H : CBg b V c0 c1 μ) (f : ∀ k z, okk k → 0 ≤ z → z < szv c0 c1 k → V' k z = V k z) : CBg b V' c0 c1 μ := fun k z a e i => by
  rw [f k z a e i]
  exact H k z a e i
theorem WF.cong {V' : Vw} (H : WF V c0 c1 g h) (f : ∀ k z, okk k → 0 ≤ z → z < szv c0 c1 k → V' k z = V k z) : WF V' c0 c1 g h := fun k z a e i => by
  rw [f k z a e i]
  exact H k z a e i
theorem CBg.set (H : CBg b V c0 c1 μ) {k0 z0 v : Int} (hk : okk k0) (hz : 0 ≤ z0) : CBg b (vset V k0 z0 v) c0 c1 (stI μ (b + 12 + k0.toNat) z0.toNat (I_ v)) := fun k z a e i => by
  unfold okk at hk
  have a' := a
  unfold okk at a'
  rw [st_I]
  unfold vset
  by_cases q : k = k0 ∧ z = z0
  · rw [if_pos q, if_pos (by rw [q.1, q.2]; exact ⟨rfl, rfl⟩)]
  · rw [if_neg q, if_neg (by omega)]
    exact H k z a e i
theorem CBg.row (H : CBg b V c0 c1 μ) (z0 : 0 ≤ c0) {r : Int → Int} (f1 : ∀ k, okk k → k ≤ 10 → μ'.1 (b + 12 + k.toNat) c0.toNat = I_ (r k)) (f2 : ∀ k j, b + 13 ≤ k → k ≤ b + 28 → ¬ (k ≤ b + 22 ∧ j = c0.toNat) → μ'.1 k j = μ.1 k j) : CBg b (vrow V c0 r) (c0 + 1) c1 μ' := fun k z a e i => by
  have a' := a
  unfold okk at a'
  unfold vrow
  by_cases q : (1 ≤ k ∧ k ≤ 10) ∧ z = c0
  · rw [if_pos q, q.2]
    exact f1 k a q.1.2
  · rw [if_neg q, f2 _ _ (by omega) (by omega) (by omega)]
    refine H k z a e ?_
    by_cases k10 : k ≤ 10
    · rw [szv_s k10] at i ⊢
      omega
    · unfold szv at i ⊢
      rw [if_neg k10] at i ⊢
      exact i
theorem CBg.mod (H : CBg b V c0 c1 μ) (z0 : 0 ≤ c1) {r : Int → Int} (f1 : ∀ k, 11 ≤ k → k ≤ 13 → μ'.1 (b + 12 + k.toNat) c1.toNat = I_ (r k)) (f2 : ∀ k j, b + 13 ≤ k → k ≤ b + 28 → ¬ ((b + 23 ≤ k ∧ k ≤ b + 25) ∧ j = c1.toNat) → μ'.1 k j = μ.1 k j) : CBg b (vmod V c1 r) c0 (c1 + 1) μ' := fun k z a e i => by
  have a' := a
  unfold okk at a'
  unfold vmod
  by_cases q : (11 ≤ k ∧ k ≤ 13) ∧ z = c1
  · rw [if_pos q, q.2]
    exact f1 k q.1.1 q.1.2
  · rw [if_neg q, f2 _ _ (by omega) (by omega) (by omega)]
    refine H k z a e ?_
    unfold szv at i ⊢
    by_cases k10 : k ≤ 10
    · rw [if_pos k10] at i ⊢; exact i
    · rw [if_neg k10] at i ⊢
      by_cases k13 : k ≤ 13
      · rw [if_pos k13] at i ⊢
        omega
      · rw [if_neg k13] at i ⊢
        exact i
/-- places of the row w -/
theorem dI_s {k z : Int} (hk : okk k) (k10 : k ≤ 10) : dI k z = (35 + 8 * z + (if k = 10 then 7 else k - 1)).toNat := by
  unfold okk at hk
  unfold dI
  by_cases e : k = 10
  · rw [if_pos e, if_pos e]
  · rw [if_neg e, if_neg e, if_pos (by omega)]
theorem dI_m {k z : Int} (h0 : 11 ≤ k) (h1 : k ≤ 13) : dI k z = (3 * z + (k - 11)).toNat := by
  unfold dI
  rw [if_neg (by omega), if_neg (by omega), if_pos h1]
theorem dI_14 {z : Int} : dI 14 z = z.toNat := rfl
theorem dI_15 {z : Int} : dI 15 z = (24 + z).toNat := rfl
theorem dI_16 {z : Int} : dI 16 z = (28 + z).toNat := rfl
theorem okk_r {k : Int} (h : okk k) : (k ≤ 10) ∨ (11 ≤ k ∧ k ≤ 13) ∨ k = 14 ∨ k = 15 ∨ k = 16 := by unfold okk at h; omega
/-- where a place of w lies -/
theorem dI_in {k z : Int} (hk : okk k) (hm : ¬ (11 ≤ k ∧ k ≤ 13)) (z0 : 0 ≤ z) (z1 : z < szv c0 c1 k) (hc : c0 ≤ 40) : dI k z < 355 ∧ dI k z ≠ 34 ∧ (k ≤ 10 → 35 + 8 * z.toNat ≤ dI k z ∧ dI k z < 35 + 8 * z.toNat + 8) ∧ (¬ k ≤ 10 → dI k z < 34) := by
  rcases okk_r hk with q | q | q | q | q
  · rw [szv_s q] at z1
    rw [dI_s hk q]
    unfold okk at hk
    by_cases e : k = 10
    · rw [if_pos e]; omega
    · rw [if_neg e]; omega
  · exact absurd q hm
  · subst q
    have : szv c0 c1 14 = 24 := rfl
    rw [dI_14]; omega
  · subst q
    have : szv c0 c1 15 = 4 := rfl
    rw [dI_15]; omega
  · subst q
    have : szv c0 c1 16 = 6 := rfl
    rw [dI_16]; omega
theorem dI_inj {k z k' z' : Int} (hk : okk k) (hk' : okk k') (hm : ¬ (11 ≤ k ∧ k ≤ 13)) (hm' : ¬ (11 ≤ k' ∧ k' ≤ 13)) (z0 : 0 ≤ z) (z1 : z < szv 40 6 k) (z0' : 0 ≤ z') (z1' : z' < szv 40 6 k') (e : dI k z = dI k' z') : k = k' ∧ z = z' := by
  have i1 := dI_in hk hm z0 z1 (by omega)
  have i2 := dI_in hk' hm' z0' z1' (by omega)
  rcases okk_r hk with q | q | q | q | q
  · rcases okk_r hk' with q' | q' | q' | q' | q'
    · rw [dI_s hk q, dI_s hk' q'] at e
      unfold okk at hk hk'
      by_cases x : k = 10
      · rw [if_pos x] at e
        by_cases x' : k' = 10
        · rw [if_pos x'] at e; omega
        · rw [if_neg x'] at e; omega
      · rw [if_neg x] at e
        by_cases x' : k' = 10
        · rw [if_pos x'] at e; omega
        · rw [if_neg x'] at e; omega
    · exact absurd q' hm'
    · omega
    · omega
    · omega
  · exact absurd q hm
  · rcases okk_r hk' with q' | q' | q' | q' | q'
    · omega
    · exact absurd q' hm'
    · subst q; subst q'; rw [dI_14, dI_14] at e; omega
    · subst q; subst q'; rw [dI_14, dI_15] at e; have : szv 40 6 14 = 24 := rfl; omega
    · subst q; subst q'; rw [dI_14, dI_16] at e; have : szv 40 6 14 = 24 := rfl; omega
  · rcases okk_r hk' with q' | q' | q' | q' | q'
    · omega
    · exact absurd q' hm'
    · subst q; subst q'; rw [dI_15, dI_14] at e; have : szv 40 6 14 = 24 := rfl; omega
    · subst q; subst q'; rw [dI_15, dI_15] at e; omega
    · subst q; subst q'; rw [dI_15, dI_16] at e; have : szv 40 6 15 = 4 := rfl; omega
  · rcases okk_r hk' with q' | q' | q' | q' | q'
    · omega
    · exact absurd q' hm'
    · subst q; subst q'; rw [dI_16, dI_14] at e; have : szv 40 6 14 = 24 := rfl; omega
    · subst q; subst q'; rw [dI_16, dI_15] at e; have : szv 40 6 15 = 4 := rfl; omega
    · subst q; subst q'; rw [dI_16, dI_16] at e; omega
theorem szv_le {k : Int} (hc : c0 ≤ 40) (hc1 : c1 ≤ 6) {z : Int} (h : z < szv c0 c1 k) : z < szv 40 6 k := by
  unfold szv at h ⊢
  by_cases a : k ≤ 10
  · rw [if_pos a] at h ⊢; omega
  · rw [if_neg a] at h ⊢
    by_cases e : k ≤ 13
    · rw [if_pos e] at h ⊢; omega
    · rw [if_neg e] at h ⊢; exact h
/-- one place is written -/
theorem WF.set (H : WF V c0 c1 g h) (hc : c0 ≤ 40) (hc1 : c1 ≤ 6) {k0 z0 v : Int} (hk : okk k0) (hm : ¬ (11 ≤ k0 ∧ k0 ≤ 13)) (hz : 0 ≤ z0) (hz1 : z0 < szv 40 6 k0) (f1 : g' (dI k0 z0) = I_ v) (f2 : ∀ j, j ≠ dI k0 z0 → j ≠ 34 → j < 355 → g' j = g j) : WF (vset V k0 z0 v) c0 c1 g' h := fun k z a e i => by
  have hh := H k z a e i
  unfold vset
  by_cases q : k = k0 ∧ z = z0
  · rw [if_pos q, q.1, q.2, if_neg hm]
    exact f1
  · rw [if_neg q]
    by_cases m : 11 ≤ k ∧ k ≤ 13
    · rw [if_pos m] at hh ⊢
      exact hh
    · rw [if_neg m] at hh ⊢
      have i1 := dI_in a m e i hc
      rw [f2 _ (fun w => q (dI_inj a hk m hm e (szv_le hc hc1 i) hz hz1 w)) i1.2.1 i1.1]
      exact hh
theorem WF.row (H : WF V c0 c1 g h) (z0 : 0 ≤ c0) (hc : c0 < 40) {r : Int → Int} (f1 : ∀ k, okk k → k ≤ 10 → g' (dI k c0) = I_ (r k)) (f2 : ∀ j, ¬ (35 + 8 * c0.toNat ≤ j ∧ j < 35 + 8 * c0.toNat + 8) → j ≠ 34 → j < 355 → g' j = g j) : WF (vrow V c0 r) (c0 + 1) c1 g' h := fun k z a e i => by
  unfold vrow
  by_cases q : (1 ≤ k ∧ k ≤ 10) ∧ z = c0
  · rw [if_pos q, q.2, if_neg (by omega)]
    exact f1 k a q.1.2
  · rw [if_neg q]
    have a' := a
    unfold okk at a'
    have i' : z < szv c0 c1 k := by
      by_cases k10 : k ≤ 10
      · rw [szv_s k10] at i ⊢
        omega
      · unfold szv at i ⊢
        rw [if_neg k10] at i ⊢
        exact i
    have hh := H k z a e i'
    by_cases m : 11 ≤ k ∧ k ≤ 13
    · rw [if_pos m] at hh ⊢
      exact hh
    · rw [if_neg m] at hh ⊢
      have i1 := dI_in a m e i' (by omega)
      rw [f2 _ (by by_cases k10 : k ≤ 10
                   · have := i1.2.2.1 k10; have : ¬ z = c0 := fun w => q ⟨⟨by omega, k10⟩, w⟩; omega
                   · have := i1.2.2.2 k10; omega) i1.2.1 i1.1]
      exact hh
theorem WF.mod (H : WF V c0 c1 g h) (z0 : 0 ≤ c1) {r : Int → Int} (f1 : ∀ k, 11 ≤ k → k ≤ 13 → h' (dI k c1) = I_ (r k)) (f2 : ∀ j, j < (3 * c1).toNat → h' j = h j) : WF (vmod V c1 r) c0 (c1 + 1) g h' := fun k z a e i => by
  unfold vmod
  by_cases q : (11 ≤ k ∧ k ≤ 13) ∧ z = c1
  · rw [if_pos q, q.2, if_pos q.1]
    exact f1 k q.1.1 q.1.2
  · rw [if_neg q]
    have a' := a
    unfold okk at a'
    by_cases m : 11 ≤ k ∧ k ≤ 13
    · have i2 := i
      rw [szv_m m.1 m.2] at i2
      have hh := H k z a e (by rw [szv_m m.1 m.2]; omega)
      rw [if_pos m] at hh ⊢
      rw [f2 _ (by rw [dI_m m.1 m.2]; omega)]
      exact hh
    · have i' : z < szv c0 c1 k := by
        unfold szv at i ⊢
        by_cases k10 : k ≤ 10
        · rw [if_pos k10] at i ⊢; exact i
        · rw [if_neg k10] at i ⊢
          by_cases k13 : k ≤ 13
          · exact absurd ⟨by omega, k13⟩ m
          · rw [if_neg k13] at i ⊢; exact i
      have hh := H k z a e i'
      rw [if_neg m] at hh ⊢
      exact hh
theorem WF.fr (H : WF V c0 c1 g h) (hc : c0 ≤ 40) (f1 : ∀ j, j < 355 → j ≠ 34 → g' j = g j) (f2 : ∀ j, h' j = h j) : WF V c0 c1 g' h' := fun k z a e i => by
  have hh := H k z a e i
  by_cases m : 11 ≤ k ∧ k ≤ 13
  · rw [if_pos m] at hh ⊢
    rw [f2]; exact hh
  · rw [if_neg m] at hh ⊢
    have i1 := dI_in a m e i hc
    rw [f1 _ i1.1 i1.2.1]; exact hh
end
