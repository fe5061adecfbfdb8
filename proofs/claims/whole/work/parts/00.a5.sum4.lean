/-! The descent: atoms, terms, sums. -/
def SimA (T : Int → Int) (n : Int) (N b : Nat) (q0 ad : Int) (rs : Int32 → Mem → Option (Unit × Mem)) (d : Int) : Prop := ∀ (s : Int) (K W : List Int) (μ ν : Mem), CSt T n b q0 s (-1) K μ → RSt T n ad s (-1) K W d ν → q0 + K.length + W.length ≤ s → ∃ (μ' : Mem) (s' f' : Int), fX5_readAtom N rs (I_ d) μ = some ((), μ') ∧ Fr (P_cs b q0) μ μ' ∧ ((f' = -1 ∧ ∃ cs : List Int, s < s' ∧ CSt T n b q0 s' (-1) (K ++ cs) μ' ∧ (∀ h : Nat, (h : Int) ≤ 2 * d + 2 → gd cs h (h + 1)) ∧ q0 + (K ++ cs).length + W.length ≤ s' ∧ OkR T n N ad s 1 ν s' (K ++ cs) W d) ∨ (0 ≤ f' ∧ CSf T n b q0 s' f' μ' ∧ BadR T n N ad s 1 ν s' f'))
def SimG (l g : Int) (T : Int → Int) (n : Int) (N b : Nat) (q0 ad : Int) (run : Mem → Option (Unit × Mem)) (due d : Int) (s : Int) (K q W : List Int) (μ ν : Mem) (up : Nat) : Prop := ∃ (μ' : Mem) (s' f' : Int), run μ = some ((), μ') ∧ Fr (P_cs b q0) μ μ' ∧ ((f' = -1 ∧ ∃ cs K' p : List Int, (K ++ q) ++ cs = K' ++ p ∧ (∀ c ∈ p, isO c ∧ l ≤ bnd c) ∧ s ≤ s' ∧ (up = 1 → s < s') ∧ CSt T n b q0 s' (-1) ((K ++ q) ++ cs) μ' ∧ (∀ h : Nat, 1 ≤ h + up → (h : Int) ≤ 2 * d + g → gd cs h (h + up)) ∧ q0 + K'.length + (p ++ W).length ≤ s' ∧ (¬ kd T n s' = 42 ∧ ¬ kd T n s' = 47 ∧ (l = 1 → ¬ kd T n s' = 43 ∧ ¬ kd T n s' = 45)) ∧ OkR T n N ad s due ν s' K' (p ++ W) d) ∨ (0 ≤ f' ∧ CSf T n b q0 s' f' μ' ∧ BadR T n N ad s due ν s' f'))
section
variable {T : Int → Int} {n : Int} {N b : Nat} {q0 ad d : Int} {rs : Int32 → Mem → Option (Unit × Mem)}
theorem CR.in_ {s f : Int} {μ : Mem} (h : CR T n b s f μ) : 0 ≤ s ∧ s ≤ n ∧ -1 ≤ f ∧ f ≤ 400 := ⟨h.2.2.2.2.2.2.2.1.1, h.2.2.2.2.2.2.2.1.2.1, h.2.2.2.2.2.2.2.2.1, h.2.2.2.2.2.2.2.2.2⟩
/-- an atom -/
theorem simA (hT : tB T n) (hN : 500 ≤ N) (hb : kB b) (hz : 0 ≤ q0) (a0 : 0 ≤ ad) (a2 : ad ≤ 2) (d0 : 0 ≤ d) (d6 : d ≤ 6) (hS : d < 6 → ∀ (s : Int) (K W : List Int) (μ ν : Mem), CSt T n b q0 s (-1) K μ → RSt T n ad s (-1) K W (d + 1) ν → q0 + K.length + W.length ≤ s → (∀ w W', W = w :: W' → bnd w < 1) → SimG 1 0 T n N b q0 ad (rs (I_ (d + 1))) 1 (d + 1) s K [] W μ ν 1) : SimA T n N b q0 ad rs d := by
  intro s K W μ ν hc hr hl
  have n1 := hT.2.1
  have ci := hc.1.in_
  by_cases hq : kd T n s = 40 ∧ d < 6
  · obtain ⟨k40, dlt⟩ := hq
    have ks := ((kd_c (s := s) (c := 40) hT (by omega) (by omega) (by omega) (by omega)).2 k40).1
    have hnx := nx_in (T := T) (n := n) (s := s) (by omega)
    obtain ⟨μ1, e1, e2, e3⟩ := c_step hT hN hc.1
    have hc1 := hc.P1 hb e3 e2 hz
    obtain ⟨ν1, o1, o2, o3⟩ := it_open (N := N) hT hN a0 k40 d0 dlt hz hl hr
    have hlc : (-10 :: W).length = W.length + 1 := rfl
    obtain ⟨μ2, s2, f2, r1, r2, r3⟩ := hS dlt (nx T n s) K (-10 :: W) μ1 ν1 hc1 o2 (by omega) (fun w W' q => by have := (List.cons.inj q).1; rw [← this]; decide)
    have hgo : ∀ μ3, fX5_take N (I_ 41) μ2 = some ((), μ3) → fX5_readAtom N rs (I_ d) μ = some ((), μ3) := fun μ3 e => by
      have d6' : ¬ 6 ≤ d := by omega
      simp (disch := omega) only [fX5_readAtom, Int.reduceEq, Int.reduceNe, Int.reduceLT, Int.reduceLE, Int.reduceAdd, Int.reduceSub, Int.reduceMul, Int.reduceNeg, Int.zero_add, Int.add_zero, nm_eq, bd_some, bv_some, aI_ok, aL_ok, aS_ok, dv_ok, dw_ok, I_add, I_sub, I_mul, I_neg, I_lt, I_le, I_eq, I_nat, J_add, J_sub, J_mul, J_neg, J_lt, J_le, J_eq, I_l, J_i, I_div, J_div, b2_0, b2_1, b2_nar, nar_0, nar_1, zr_0, zr_1, zr_b2, cmp_eq, cmp_le, cmp_lt, cmp_gt, cmp_ge, mx_I, mn_I, mx_L, mn_L, az_I, if_true, if_false, not_true_eq_false, not_false_eq_true, Bool.false_eq_true, i_0, i_1, i_2, i_3, i_4, i_5, i_6, i_7, i_8, i_9, i_10, i_11, i_12, i_16, i_18, i_20, i_24, i_28, i_29, i_30, i_31, i_32, i_33, i_34, i_35, i_37, i_40, i_41, i_42, i_43, i_45, i_46, i_47, i_48, i_57, i_59, i_63, i_64, i_96, i_97, i_98, i_99, i_100, i_101, i_102, i_103, i_104, i_105, i_106, i_107, i_108, i_109, i_110, i_111, i_112, i_113, i_122, i_200, i_255, i_256, i_257, i_258, i_355, i_400, i_999, i_1000, i_1200, i_5680, i_9999, i_10000, i_99999, j_0, j_1, j_2, j_3, j_4, j_5, j_6, j_9, j_10, j_11, j_98, j_99, j_100, j_999, j_1000, j_9999, j_10000, j_99999, j_1000000, hc.1.2.1, hc.1.2.2.2.1, k40, d6', e1, r1, e]
    rcases r3 with ⟨f2e, cs, K', p, c1, c2, c3, c4, c5, c6, c7, c8, c9⟩ | ⟨f20, c1, c2⟩
    · rw [List.append_nil] at c1 c5
      obtain ⟨ν2, j, j1, j2, j3, j4⟩ := c9
      have ci2 := c5.1.in_
      have hnx2 := nx_in (T := T) (n := n) (s := s2) (by omega)
      have hlp : (p ++ (-10 :: W)).length = p.length + (W.length + 1) := List.length_append
      have hlk : (K ++ cs).length = K'.length + p.length := by rw [c1, List.length_append]
      have c4' := c4 rfl
      by_cases k41 : kd T n s2 = 41
      · have ks2 := ((kd_c (s := s2) (c := 41) hT (by omega) (by omega) (by omega) (by omega)).2 k41).1
        obtain ⟨μ3, t1, t2, t3⟩ := c_take (c := 41) hT hN (by omega) (by omega) c5.1
        rw [oS_y k41, oF_y k41] at t2
        have hc3 := c5.P1 hb t3 t2 hz
        obtain ⟨ν3, x1, x2, x3⟩ := it_close (N := N) hT hN a0 a2 k41 d0 dlt c2 hz c7 j3
        refine ⟨μ3, nx T n s2, -1, hgo μ3 t1, ((e3.mono (fun k j q => P1_cs q)).tr r2).tr (t3.mono (fun k j q => P1_cs q)), Or.inl ⟨rfl, cs, by omega, hc3, fun h hh => c6 h (by omega) (by omega), by omega, ?_⟩⟩
        rw [c1]
        refine ⟨ν3, 1 + j + 1, by omega, fun m => ?_, x2, (o3.tr j4).tr x3⟩
        rw [show m + (1 + j + 1) = m + 1 + j + 1 by omega, o1, j2, x1]
      · obtain ⟨μ3, t1, t2, t3⟩ := c_take (c := 41) hT hN (by omega) (by omega) c5.1
        rw [oS_n k41, oF_n k41] at t2
        have hf3 : CSf T n b q0 s2 s2 μ3 := (c5.toF (by omega)).P1 hb t3 t2
        have c8' := c8.2.2 rfl
        obtain ⟨ν3, x1, x2, x3⟩ := it_noclose (N := N) hT hN a0 k41 ⟨c8.1, c8'.1, c8'.2, c8.2.1⟩ d0 dlt j3
        refine ⟨μ3, s2, s2, hgo μ3 t1, ((e3.mono (fun k j q => P1_cs q)).tr r2).tr (t3.mono (fun k j q => P1_cs q)), Or.inr ⟨by omega, hf3, ν3, fun m hm => ?_, x2, (o3.tr j4).tr x3⟩⟩
        obtain ⟨m', rfl⟩ : ∃ m', m = m' + 1 + j + 1 := ⟨m - j - 2, by omega⟩
        rw [o1, j2, x1]
    · have ci2 := c1.1.in_
      obtain ⟨μ3, t1, t2, t3⟩ := c_take (c := 41) hT hN (by omega) (by omega) c1.1
      rw [oS_f (by omega), oF_f (by omega)] at t2
      refine ⟨μ3, s2, f2, hgo μ3 t1, ((e3.mono (fun k j q => P1_cs q)).tr r2).tr (t3.mono (fun k j q => P1_cs q)), Or.inr ⟨f20, c1.P1 hb t3 t2, ?_⟩⟩
      exact BadR.tr (j := 1) (s1 := nx T n s) (by omega) o1 o3 c2 (by omega)
  · obtain ⟨μ1, e1, e2, e3, e4⟩ := c_leaf (N := N) (rs := rs) hT hN hb hz d0 d6 hq hc (by omega)
    obtain ⟨hid, s0, s1, hh, hY, hSs⟩ := hr.hX hT hN a0
    obtain ⟨ν1, z, r1, r2, r3, r4, r5⟩ := r_leaf (N := N) hT hN a0 a2 d0 d6 hq hSs (by omega)
    have gs : Fr (P_rs ad) ν (stI ν 0 16 (I_ s)) := Fr.rf.stI (Or.inl ⟨rfl, by omega⟩)
    have hnx := nx_in (T := T) (n := n) (s := s) (by omega)
    have hgo : ∀ m, Lp N (m + 1) 1 ν = Lp N m z ν1 := fun m => by
      rw [it_due hT hN a0 hr m, r1]
      rfl
    by_cases hf : lfK T n s = true
    · have ks : s < n := by
        have hf' := hf
        rw [lfK_y] at hf'
        rcases hf' with q | q
        · exact (kd_257 q.1 hT).1
        · exact (kd_256 q.1 hT).1
      have hlc : (K ++ [lfC T n s]).length = K.length + 1 := List.length_append
      have lb := lfC_in hT hf
      obtain ⟨z0, r6⟩ := r4 hf
      subst z0
      refine ⟨μ1, nx T n s, -1, e1, e2, Or.inl ⟨rfl, [lfC T n s], by omega, e3 hf, fun h hh => Or.inl ⟨by omega, by omega, by omega, by omega, rfl⟩, by omega, ν1, 1, by omega, hgo, r6, gs.tr r2⟩⟩
    · have r6 := r5 hf
      obtain ⟨ν2, x1, x2, x3⟩ := it_wrong (N := N) hN a0 (by omega) (by omega) r6 z
      refine ⟨μ1, s, s, e1, e2, Or.inr ⟨by omega, e4 hf, ν2, fun m hm => ?_, x2, (gs.tr r2).tr x3⟩⟩
      obtain ⟨m', rfl⟩ : ∃ m', m = m' + 1 + 1 := ⟨m - 2, by omega⟩
      rw [hgo, x1]
end
