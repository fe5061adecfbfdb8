/-! Views that a line makes. -/
def vMo (V : Vw) (r : Int → Int) : Vw := vset (vmod V (mN V) r) 0 1 (mN V + 1)
def vSa (V : Vw) (r : Int → Int) : Vw := vset (vrow V (sN V) r) 0 0 (sN V + 1)
def vFi (V : Vw) : Vw := vset V 0 2 (fN V + 1)
def v00 : Vw := fun k z => if k = 16 ∧ z = 4 then 10 else 0
section
variable {V : Vw} {r : Int → Int}
theorem vMo_k {k z : Int} (h : ¬ k = 0) (h2 : ¬ ((11 ≤ k ∧ k ≤ 13) ∧ z = mN V)) : vMo V r k z = V k z := by
  unfold vMo
  rw [vset_ne h]
  exact if_neg h2
theorem vMo_r {k : Int} (h1 : 11 ≤ k) (h2 : k ≤ 13) : vMo V r k (mN V) = r k := by
  unfold vMo
  rw [vset_ne (by omega)]
  exact if_pos ⟨⟨h1, h2⟩, rfl⟩
theorem vMo_m : mN (vMo V r) = mN V + 1 := by
  show vset (vmod V (mN V) r) 0 1 (mN V + 1) 0 1 = _
  rw [vset_at, if_pos rfl]
theorem vMo_s : sN (vMo V r) = sN V := by
  show vset (vmod V (mN V) r) 0 1 (mN V + 1) 0 0 = V 0 0
  rw [vset_at, if_neg (by decide)]
  exact if_neg (by omega)
theorem vMo_f : fN (vMo V r) = fN V := by
  show vset (vmod V (mN V) r) 0 1 (mN V + 1) 0 2 = V 0 2
  rw [vset_at, if_neg (by decide)]
  exact if_neg (by omega)
theorem vSa_k {k z : Int} (h : ¬ k = 0) (h2 : ¬ ((1 ≤ k ∧ k ≤ 10) ∧ z = sN V)) : vSa V r k z = V k z := by
  unfold vSa
  rw [vset_ne h]
  exact if_neg h2
theorem vSa_r {k : Int} (h1 : 1 ≤ k) (h2 : k ≤ 10) : vSa V r k (sN V) = r k := by
  unfold vSa
  rw [vset_ne (by omega)]
  exact if_pos ⟨⟨h1, h2⟩, rfl⟩
theorem vSa_s : sN (vSa V r) = sN V + 1 := by
  show vset (vrow V (sN V) r) 0 0 (sN V + 1) 0 0 = _
  rw [vset_at, if_pos rfl]
theorem vSa_m : mN (vSa V r) = mN V := by
  show vset (vrow V (sN V) r) 0 0 (sN V + 1) 0 1 = V 0 1
  rw [vset_at, if_neg (by decide)]
  exact if_neg (by omega)
theorem vSa_f : fN (vSa V r) = fN V := by
  show vset (vrow V (sN V) r) 0 0 (sN V + 1) 0 2 = V 0 2
  rw [vset_at, if_neg (by decide)]
  exact if_neg (by omega)
theorem vFi_k {k z : Int} (h : ¬ k = 0) : vFi V k z = V k z := vset_ne h
theorem vFi_f : fN (vFi V) = fN V + 1 := by
  show vset V 0 2 (fN V + 1) 0 2 = _
  rw [vset_at, if_pos rfl]
theorem vFi_m : mN (vFi V) = mN V := by
  show vset V 0 2 (fN V + 1) 0 1 = V 0 1
  rw [vset_at, if_neg (by decide)]
theorem vFi_s : sN (vFi V) = sN V := by
  show vset V 0 2 (fN V + 1) 0 0 = V 0 0
  rw [vset_at, if_neg (by decide)]
theorem vB_mo (h : vB V) (h6 : mN V < 6) (r1 : 1 ≤ r 11 ∧ r 11 ≤ 9999) (r2 : 0 ≤ r 12 ∧ r 12 ≤ 99) (r3 : 0 ≤ r 13 ∧ r 13 ≤ 9999) : vB (vMo V r) := by
  obtain ⟨h1, h2, h3, h4, h5⟩ := h
  have hk : ∀ {k z : Int}, ¬ k = 0 → ¬ (11 ≤ k ∧ k ≤ 13) → vMo V r k z = V k z := fun a c => vMo_k a (fun q => c q.1)
  refine ⟨?_, fun z a c => ?_, fun m a c => ?_, fun p a c => ?_, fun f a c => ?_⟩
  · unfold vN at h1 ⊢
    rw [vMo_s, vMo_m, vMo_f]
    unfold s_se at h1 ⊢
    rw [hk (by decide) (by decide), hk (by decide) (by decide), hk (by decide) (by decide), hk (by decide) (by decide), hk (by decide) (by decide), hk (by decide) (by decide)]
    omega
  · rw [vMo_s] at c
    have := h2 z a c
    unfold vS at this ⊢
    rw [vMo_f, vMo_m]
    unfold s_mk s_fm s_md s_lv s_mo s_mn s_pr s_of s_nt s_li at this ⊢
    rw [hk (by decide) (by decide), hk (by decide) (by decide), hk (by decide) (by decide), hk (by decide) (by decide), hk (by decide) (by decide), hk (by decide) (by decide), hk (by decide) (by decide), hk (by decide) (by decide), hk (by decide) (by decide), hk (by decide) (by decide)]
    omega
  · rw [vMo_m] at c
    unfold vM m_co m_lk m_tg
    by_cases e : m = mN V
    · rw [e, vMo_r (by omega) (by omega), vMo_r (by omega) (by omega), vMo_r (by omega) (by omega)]
      exact ⟨r1, r2, r3⟩
    · rw [vMo_k (by decide) (fun q => e q.2), vMo_k (by decide) (fun q => e q.2), vMo_k (by decide) (fun q => e q.2)]
      exact h3 m a (by omega)
  · unfold t_co
    rw [hk (by decide) (by decide)]
    exact h4 p a c
  · unfold s_si
    rw [hk (by decide) (by decide)]
    exact h5 f a c
theorem vB_sa (h : vB V) (h4 : sN V < 40) (r1 : 0 ≤ r 1 ∧ r 1 ≤ 2) (r2 : 0 ≤ r 2 ∧ r 2 < fN V) (r3 : 0 ≤ r 3 ∧ r 3 < mN V) (r4 : 0 ≤ r 4 ∧ r 4 ≤ 3) (r5 : 0 ≤ r 5 ∧ r 5 ≤ 11) (r6 : 1 ≤ r 6 ∧ r 6 ≤ 999) (r7 : 1 ≤ r 7 ∧ r 7 ≤ 9999) (r8 : -1000000 ≤ r 8 ∧ r 8 ≤ 1000000) (r9 : 0 ≤ r 9 ∧ r 9 ≤ 99999) (r10 : 0 ≤ r 10 ∧ r 10 ≤ 1) : vB (vSa V r) := by
  obtain ⟨h1, h2, h3, h4', h5⟩ := h
  have hk : ∀ {k z : Int}, ¬ k = 0 → ¬ (1 ≤ k ∧ k ≤ 10) → vSa V r k z = V k z := fun a c => vSa_k a (fun q => c q.1)
  refine ⟨?_, fun z a c => ?_, fun m a c => ?_, fun p a c => ?_, fun f a c => ?_⟩
  · unfold vN at h1 ⊢
    rw [vSa_s, vSa_m, vSa_f]
    unfold s_se at h1 ⊢
    rw [hk (by decide) (by decide), hk (by decide) (by decide), hk (by decide) (by decide), hk (by decide) (by decide), hk (by decide) (by decide), hk (by decide) (by decide)]
    omega
  · rw [vSa_s] at c
    unfold vS
    rw [vSa_f, vSa_m]
    unfold s_mk s_fm s_md s_lv s_mo s_mn s_pr s_of s_nt s_li
    by_cases e : z = sN V
    · rw [e, vSa_r (by omega) (by omega), vSa_r (by omega) (by omega), vSa_r (by omega) (by omega), vSa_r (by omega) (by omega), vSa_r (by omega) (by omega), vSa_r (by omega) (by omega), vSa_r (by omega) (by omega), vSa_r (by omega) (by omega), vSa_r (by omega) (by omega), vSa_r (by omega) (by omega)]
      exact ⟨r1, r2, r3, r4, r5, r6, r7, r8, r9, r10⟩
    · have := h2 z a (by omega)
      unfold vS s_mk s_fm s_md s_lv s_mo s_mn s_pr s_of s_nt s_li at this
      have hz : ∀ {k : Int}, ¬ k = 0 → vSa V r k z = V k z := fun a => vSa_k a (fun q => e q.2)
      rw [hz (by decide), hz (by decide), hz (by decide), hz (by decide), hz (by decide), hz (by decide), hz (by decide), hz (by decide), hz (by decide), hz (by decide)]
      exact this
  · rw [vSa_m] at c
    unfold vM m_co m_lk m_tg
    rw [hk (by decide) (by decide), hk (by decide) (by decide), hk (by decide) (by decide)]
    exact h3 m a c
  · unfold t_co
    rw [hk (by decide) (by decide)]
    exact h4' p a c
  · unfold s_si
    rw [hk (by decide) (by decide)]
    exact h5 f a c
theorem vB_fi (h : vB V) (h4 : fN V < 4) : vB (vFi V) := by
  obtain ⟨h1, h2, h3, h4', h5⟩ := h
  have hk : ∀ {k z : Int}, ¬ k = 0 → vFi V k z = V k z := fun a => vFi_k a
  refine ⟨?_, fun z a c => ?_, fun m a c => ?_, fun p a c => ?_, fun f a c => ?_⟩
  · unfold vN at h1 ⊢
    rw [vFi_s, vFi_m, vFi_f]
    unfold s_se at h1 ⊢
    rw [hk (by decide), hk (by decide), hk (by decide), hk (by decide), hk (by decide), hk (by decide)]
    omega
  · rw [vFi_s] at c
    have := h2 z a c
    unfold vS at this ⊢
    rw [vFi_f, vFi_m]
    unfold s_mk s_fm s_md s_lv s_mo s_mn s_pr s_of s_nt s_li at this ⊢
    rw [hk (by decide), hk (by decide), hk (by decide), hk (by decide), hk (by decide), hk (by decide), hk (by decide), hk (by decide), hk (by decide), hk (by decide)]
    omega
  · rw [vFi_m] at c
    unfold vM m_co m_lk m_tg
    rw [hk (by decide), hk (by decide), hk (by decide)]
    exact h3 m a c
  · unfold t_co
    rw [hk (by decide)]
    exact h4' p a c
  · unfold s_si
    rw [hk (by decide)]
    exact h5 f a c
theorem vs_s {k z v : Int} (h : ¬ k = 0) : sN (vset V k z v) = sN V := vset_ne (fun q => h q.symm)
theorem vs_m {k z v : Int} (h : ¬ k = 0) : mN (vset V k z v) = mN V := vset_ne (fun q => h q.symm)
theorem vs_f {k z v : Int} (h : ¬ k = 0) : fN (vset V k z v) = fN V := vset_ne (fun q => h q.symm)
/-- a place of the costs, the silent ones, the settings, a sale's price, its life, its off and net -/
theorem vB_set (h : vB V) {k z v : Int} (hk : ¬ k = 0) (hs : ∀ y, 0 ≤ y → y < sN V → vS (vset V k z v) y) (hm : ¬ (11 ≤ k ∧ k ≤ 13)) (h14 : k = 14 → 0 ≤ v ∧ v ≤ 9999) (h15 : k = 15 → 0 ≤ v ∧ v ≤ 1) (h16 : k = 16 → (z = 0 → 0 ≤ v ∧ v ≤ 2) ∧ (z = 1 → 0 ≤ v ∧ v ≤ 1) ∧ (z = 2 → 0 ≤ v ∧ v ≤ 1) ∧ (z = 3 → 0 ≤ v ∧ v ≤ 1) ∧ (z = 4 → 0 ≤ v ∧ v ≤ 99) ∧ (z = 5 → 0 ≤ v ∧ v ≤ 99)) : vB (vset V k z v) := by
  obtain ⟨h1, h2, h3, h4', h5⟩ := h
  refine ⟨?_, fun y a c => ?_, fun m a c => ?_, fun p a c => ?_, fun f a c => ?_⟩
  · unfold vN at h1 ⊢
    rw [vs_s hk, vs_m hk, vs_f hk]
    unfold s_se at h1 ⊢
    by_cases e : k = 16
    · subst e
      have h16' := h16 rfl
      rw [vset_at, vset_at, vset_at, vset_at, vset_at, vset_at]
      (repeat' split) <;> omega
    · have hh : ∀ y, vset V k z v 16 y = V 16 y := fun y => vset_ne (fun q => e q.symm)
      rw [hh, hh, hh, hh, hh, hh]
      exact h1
  · rw [vs_s hk] at c
    exact hs y a c
  · rw [vs_m hk] at c
    unfold vM m_co m_lk m_tg
    rw [vset_ne (by omega), vset_ne (by omega), vset_ne (by omega)]
    exact h3 m a c
  · unfold t_co
    by_cases e : k = 14
    · subst e
      rw [vset_at]
      have := h14 rfl
      have := h4' p a c
      unfold t_co at this
      split <;> omega
    · rw [vset_ne (fun q => e q.symm)]
      exact h4' p a c
  · unfold s_si
    by_cases e : k = 15
    · subst e
      rw [vset_at]
      have := h15 rfl
      have := h5 f a c
      unfold s_si at this
      split <;> omega
    · rw [vset_ne (fun q => e q.symm)]
      exact h5 f a c
theorem vS_set (h : vB V) {k z v : Int} (hk : 11 ≤ k) {y : Int} (y0 : 0 ≤ y) (y1 : y < sN V) : vS (vset V k z v) y := by
  have := h.2.1 y y0 y1
  unfold vS at this ⊢
  rw [vs_f (by omega), vs_m (by omega)]
  unfold s_mk s_fm s_md s_lv s_mo s_mn s_pr s_of s_nt s_li at this ⊢
  rw [vset_ne (by omega), vset_ne (by omega), vset_ne (by omega), vset_ne (by omega), vset_ne (by omega), vset_ne (by omega), vset_ne (by omega), vset_ne (by omega), vset_ne (by omega), vset_ne (by omega)]
  exact this
theorem vB_00 : vB v00 := by
  refine ⟨?_, fun z a c => ?_, fun m a c => ?_, fun p a c => ?_, fun f a c => ?_⟩
  · unfold vN sN mN fN s_se v00
    decide
  · exfalso
    have : sN v00 = 0 := rfl
    omega
  · exfalso
    have : mN v00 = 0 := rfl
    omega
  · have : t_co v00 p = 0 := by unfold t_co v00; exact if_neg (by omega)
    omega
  · have : s_si v00 f = 0 := by unfold s_si v00; exact if_neg (by omega)
    omega
end
