/-! The relation that every call keeps. -/
def FA (b : Nat) (V : Vw) (Lm : Int → Int) (Am : Int → Int → Int) (Lf : Int → Int) (Af : Int → Int → Int) (K : Int → List Int) (fo : Int → Int) (q : Int) (μ ν : Mem) : Prop := PPu V Lm Am Lf Af K ∧ vE K V ∧ (0 ≤ q ∧ q ≤ 400) ∧ kB b ∧ PC b V Lm Am Lf Af K fo q μ ∧ ON b V μ ∧ μ.2.2 0 6 = b ∧ PE V Lm Am Lf Af K ν ∧ LF V ν
def FB (K : Int → List Int) (G : Nat → Vw) (a : Nat) (nx : Int) (μ ν : Mem) : Prop := RG G a nx μ ∧ HS G a ν ∧ ∀ t, t ≤ a → vB (G t) ∧ vE K (G t)
def FC (b : Nat) (μ : Mem) : Prop := ∃ b', kB b' ∧ b' ≠ b ∧ μ.2.2 0 7 = b'
def FT (μ ν : Mem) : Prop := ∃ T n ft, tB T n ∧ μ.1 1 1 = I_ n ∧ ν.1 0 14 = I_ n ∧ TP T n 7 μ ∧ TP T n 10 ν ∧ μ.1 1 2 = I_ ft ∧ ν.1 0 17 = I_ ft ∧ (-1 ≤ ft ∧ ft ≤ 400)
def FR (μ ν : Mem) : Prop := ∃ (w : Int) (W : Int → Int), μ.1 6 1 = I_ w ∧ ν.1 0 47 = I_ w ∧ (0 ≤ w ∧ w ≤ 60) ∧ ∀ j, 0 ≤ j → j < w → μ.1 31 j.toNat = I_ (W j) ∧ ν.1 29 j.toNat = I_ (W j)
def Rl (μ ν : Mem) : Prop := ∃ b Lm Am Lf Af K fo q G a nx, FA b (G 0) Lm Am Lf Af K fo q μ ν ∧ FB K G a nx μ ν ∧ FC b μ ∧ FT μ ν ∧ FR μ ν
section
variable {N b : Nat} {μ μ' ν ν' : Mem} {V V1 : Vw} {Lm Lf : Int → Int} {Am Af : Int → Int → Int} {K : Int → List Int} {fo : Int → Int} {q nx : Int} {G : Nat → Vw} {a : Nat}
theorem PE.fr (hV : vB V) (h : PE V Lm Am Lf Af K ν) (g : ∀ k j, k = 1 ∨ (4 ≤ k ∧ k ≤ 9) ∨ (k = 0 ∧ (j = 5 ∨ j = 6)) → ν'.1 k j = ν.1 k j) : PE V Lm Am Lf Af K ν' := by
  obtain ⟨h1, h2, h3, h4, h5⟩ := h
  have hn := hV.1
  unfold vN at hn
  refine ⟨h1.fr (by omega) (fun j _ _ => g 1 j (by omega)) (fun j => g 6 j (by omega)), by rw [g _ _ (by omega)]; exact h2, ⟨by rw [g _ _ (by omega)]; exact h3.1, fun i i0 i1 => by rw [g _ _ (by omega)]; exact h3.2 i i0 i1⟩, ⟨by rw [g _ _ (by omega)]; exact h4.1, fun i i0 i1 => by rw [g _ _ (by omega)]; exact h4.2 i i0 i1⟩, fun k k0 k2 => ?_⟩
  obtain ⟨u1, u2⟩ := h5 k k0 k2
  exact ⟨by rw [g _ _ (by omega)]; exact u1, rsq_fr _ _ (by omega) (fun j _ _ => ⟨g _ _ (by omega), g _ _ (by omega)⟩) u2⟩
theorem FA.rq (hN : 500 ≤ N) (h : FA b V Lm Am Lf Af K fo q μ ν) : RQ N b V μ ν := by
  obtain ⟨h1, h2, h3, h4, h5, h6, h7, h8, h9⟩ := h
  have hB := RB_of h8
  exact ⟨h1.1, vO_E h2, ⟨CB_of h4 h5 h6, h7⟩, hB, RS_of h1.1 h2 h1.2.2.2 hN hB h8.2.2.2.2, h9⟩
theorem FT.fr (h : FT μ ν) (g1 : ∀ k j, k = 1 ∨ k = 7 → μ'.1 k j = μ.1 k j) (g2 : ∀ k j, (k = 0 ∧ (j = 14 ∨ j = 17)) ∨ k = 10 → ν'.1 k j = ν.1 k j) : FT μ' ν' := by
  obtain ⟨T, n, ft, h1, h2, h3, h4, h5, h6, h7, h8⟩ := h
  exact ⟨T, n, ft, h1, by rw [g1 _ _ (by omega)]; exact h2, by rw [g2 _ _ (by omega)]; exact h3, fun j j0 j1 => by rw [g1 _ _ (by omega)]; exact h4 j j0 j1, fun j j0 j1 => by rw [g2 _ _ (by omega)]; exact h5 j j0 j1, by rw [g1 _ _ (by omega)]; exact h6, by rw [g2 _ _ (by omega)]; exact h7, h8⟩
theorem FR.fr (h : FR μ ν) (g1 : ∀ k j, k = 6 ∨ k = 31 → μ'.1 k j = μ.1 k j) (g2 : ∀ k j, (k = 0 ∧ j = 47) ∨ k = 29 → ν'.1 k j = ν.1 k j) : FR μ' ν' := by
  obtain ⟨w, W, h1, h2, h3, h4⟩ := h
  exact ⟨w, W, by rw [g1 _ _ (by omega)]; exact h1, by rw [g2 _ _ (by omega)]; exact h2, h3, fun j j0 j1 => ⟨by rw [g1 _ _ (by omega)]; exact (h4 j j0 j1).1, by rw [g2 _ _ (by omega)]; exact (h4 j j0 j1).2⟩⟩
theorem FC.fr (h : FC b μ) (g : μ'.2.2 0 7 = μ.2.2 0 7) : FC b μ' := by
  obtain ⟨b', h1, h2, h3⟩ := h
  exact ⟨b', h1, h2, by rw [g]; exact h3⟩
/-- a question keeps it -/
theorem Rl_q {z : Mem × Mem} (hA : FA b (G 0) Lm Am Lf Af K fo q μ ν) (hB : FB K G a nx μ ν) (hC : FC b μ) (hT : FT μ ν) (hR : FR μ ν) (h : QO N b (G 0) μ ν z) : Rl z.1 z.2 := by
  obtain ⟨f1, f2, f3⟩ := h
  obtain ⟨h1, h2, h3, h4, h5, h6, h7, h8, h9⟩ := hA
  have hb32 : 32 ≤ b := by rcases h4 with e | e <;> omega
  have gc : ∀ k j, (k ≤ 2 ∨ (6 ≤ k ∧ k ≤ 10) ∨ (31 ≤ k ∧ k ≠ 90)) → z.1.1 k j = μ.1 k j := fun k j hk => (f1 k j (by unfold P_qc P_du; omega)).1
  have gr : ∀ k j, (k = 0 ∧ (j = 4 ∨ j = 5 ∨ j = 6 ∨ j = 14 ∨ j = 17 ∨ j = 47)) ∨ (1 ≤ k ∧ k ≤ 17) ∨ k = 29 → z.2.1 k j = ν.1 k j := fun k j hk => (f2 k j (by unfold P_qr P_rq; omega)).1
  have hk89 : b + 28 ≤ 89 := by rcases h4 with e | e <;> omega
  refine ⟨b, Lm, Am, Lf, Af, K, fo, q, G, a, nx, ⟨h1, h2, h3, h4, h5.fr (fun k j c d => gc k j (by omega)), fun y y0 y1 => ?_, ?_, h8.fr h1.1 (fun k j hk => gr k j (by omega)), f3.2.2.2.2.2⟩, ⟨hB.1.fr (fun k j hk => gc k j (by omega)), hB.2.1.fr (fun k j hk => gr k j (by omega)), hB.2.2⟩, hC.fr (f1 0 7 (by unfold P_qc P_du; omega)).2.2, hT.fr (fun k j hk => gc k j (by omega)) (fun k j hk => gr k j (by omega)), hR.fr (fun k j hk => gc k j (by omega)) (fun k j hk => gr k j (by omega))⟩
  · rw [gc _ _ (by omega), gc _ _ (by omega)]; exact h6 y y0 y1
  · rw [(f1 0 6 (by unfold P_qc P_du; omega)).2.2]; exact h7
/-- an act keeps it -/
def P_ac (b k j : Nat) : Prop := (k = 2 ∧ (j = 3 ∨ j = 4)) ∨ (8 ≤ k ∧ k ≤ 10) ∨ (b ≤ k ∧ k ≤ b + 28) ∨ (k = 90 ∧ j = 0)
def P_ar (k j : Nat) : Prop := k = 1 ∨ k = 3 ∨ (k = 0 ∧ (j = 0 ∨ j = 4 ∨ j = 30))
theorem Rl_a {G' : Nat → Vw} {a' : Nat} {nx' : Int} (hA : FA b (G 0) Lm Am Lf Af K fo q μ ν) (hC : FC b μ) (hT : FT μ ν) (hR : FR μ ν) (gc : Fr (P_ac b) μ μ') (gr : Fr P_ar ν ν') (hV : vB (G' 0)) (hE : vE K (G' 0)) (hm : mN (G' 0) = mN (G 0)) (hf : fN (G' 0) = fN (G 0)) (hPC : PC b (G' 0) Lm Am Lf Af K fo q μ') (hON : ON b (G' 0) μ') (hPE : PE (G' 0) Lm Am Lf Af K ν') (h30 : ν'.1 0 30 = I_ 0) (hB : FB K G' a' nx' μ' ν') : Rl μ' ν' := by
  obtain ⟨h1, h2, h3, h4, h5, h6, h7, h8, h9⟩ := hA
  have hb32 : 32 ≤ b ∧ b + 28 ≤ 89 := by rcases h4 with e | e <;> omega
  refine ⟨b, Lm, Am, Lf, Af, K, fo, q, G', a', nx', ⟨⟨hV, by rw [hm]; exact h1.2.1, by rw [hf]; exact h1.2.2.1, h1.2.2.2⟩, hE, h3, h4, hPC, hON, ?_, hPE, Or.inl h30⟩, hB, hC.fr (gc 0 7 (by unfold P_ac; omega)).2.2, hT.fr (fun k j hk => (gc k j (by unfold P_ac; omega)).1) (fun k j hk => (gr k j (by unfold P_ar; omega)).1), hR.fr (fun k j hk => (gc k j (by unfold P_ac; omega)).1) (fun k j hk => (gr k j (by unfold P_ar; omega)).1)⟩
  rw [(gc 0 6 (by unfold P_ac; omega)).2.2]; exact h7
theorem PE.set (hV : vB V) (h : PE V Lm Am Lf Af K ν) {k0 z0 v : Int} (ok : okk k0) (hm : ¬ (11 ≤ k0 ∧ k0 ≤ 13)) (hz : 0 ≤ z0) (hz1 : z0 < szv 40 6 k0) : PE (vset V k0 z0 v) Lm Am Lf Af K (stI ν 1 (dI k0 z0) (I_ v)) := by
  have hn := hV.1
  unfold vN at hn
  have ok' := ok
  unfold okk at ok'
  have gr : Fr (fun k j => k = 1) ν (stI ν 1 (dI k0 z0) (I_ v)) := Fr.rf.stI rfl
  have i1 := dI_in (c0 := 40) (c1 := 6) ok hm hz hz1 (by omega)
  refine ⟨?_, ?_, ?_, ?_, fun k k0 k2 => ?_⟩
  · rw [vs_s (by omega), vs_m (by omega)]
    have e6 : (stI ν 1 (dI k0 z0) (I_ v)).1 6 = ν.1 6 := funext (fun j => st_ne (by omega) j)
    rw [e6]
    exact h.1.set (by omega) (by omega) ok hm hz hz1 at_S (fun j a _ _ => by rw [st_I, if_neg (fun q => a q.2)])
  · rw [vs_s (by omega), st_I, if_neg (fun q => i1.2.1 q.2.symm)]; exact h.2.1
  · rw [vs_m (by omega)]; exact h.2.2.1.F gr (fun k j q => by omega)
  · rw [vs_f (by omega)]; exact h.2.2.2.1.F gr (fun k j q => by omega)
  · obtain ⟨u1, u2⟩ := h.2.2.2.2 k k0 k2
    exact ⟨by rw [(gr 9 _ (by omega)).1]; exact u1, rsq_fr _ _ (by omega) (fun j _ _ => ⟨(gr 7 j (by omega)).1, (gr 8 j (by omega)).1⟩) u2⟩
theorem AG_W : AG (vW K V) V := ⟨vW_s, vW_m, vW_f, fun k z hk _ _ => vW_ok k z hk⟩
theorem FB.sN (h : FB K G a nx μ ν) : ∀ t, t ≤ a → sN (G t) ≤ 40 := fun t ht => by
  have := (h.2.2 t ht).1.1
  unfold vN at this
  omega
/-- the new past -/
theorem FB_new (hB : FB K G a nx μ ν) (hV1 : vB V1) (hE1 : vE K V1) {μ1 ν1 : Mem} {nx' : Int} (h1 : RG (gSh V1 G) (min 16 (a + 1)) nx' μ1) (h2 : HS (gSh V1 G) (min 16 (a + 1)) ν1) : FB K (gSh V1 G) (min 16 (a + 1)) nx' μ1 ν1 := ⟨h1, h2, fun t ht => by
  match t, ht with
  | 0, _ => exact ⟨hV1, hE1⟩
  | t + 1, ht => exact hB.2.2 t (by have := hB.1.2.2.2.1; omega)⟩
theorem ac_du {k j : Nat} (h : (b ≤ k ∧ k ≤ b + 28)) : P_ac b k j := Or.inr (Or.inr (Or.inl h))
theorem ac_kp {k j : Nat} (h : (k = 2 ∧ (j = 3 ∨ j = 4)) ∨ (8 ≤ k ∧ k ≤ 10)) : P_ac b k j := h.elim Or.inl (fun w => Or.inr (Or.inl w))
theorem ar_rm {k j : Nat} (h : k = 3 ∨ (k = 0 ∧ (j = 4 ∨ j = 30))) : P_ar k j := by unfold P_ar; omega
end
