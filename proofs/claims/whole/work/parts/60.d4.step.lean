/-! Every call keeps the relation; the relation at first. -/
section
variable {N : Nat} {μ ν : Mem}
theorem Rl_Q {g : Mem → Mem → Option (Mem × Mem)} (hN : 20000 ≤ N) (hg : ∀ b V, RQ N b V μ ν → ∃ z, g μ ν = some z ∧ QO N b V μ ν z) (h : Rl μ ν) : ∃ z, g μ ν = some z ∧ Rl z.1 z.2 := by
  obtain ⟨b, Lm, Am, Lf, Af, K, fo, q, G, a, nx, hA, hB, hC, hT, hR⟩ := h
  obtain ⟨z, e, o⟩ := hg b (G 0) (hA.rq (N := N) (by omega))
  exact ⟨z, e, Rl_q (N := N) hA hB hC hT hR o⟩
theorem law_step (hN : 20000 ≤ N) (v : Nat → Int32) (h : Rl μ ν) : ∃ z, lawStep N v μ ν = some z ∧ Rl z.1 z.2 := by
  unfold lawStep
  by_cases c0 : (v 0 &&& 63) = (0 : Int32)
  · rw [if_pos c0]
    exact A0 hN v h
  rw [if_neg c0]
  by_cases c1 : (v 0 &&& 63) = (1 : Int32)
  · rw [if_pos c1]
    exact A1 hN v h
  rw [if_neg c1]
  by_cases c2 : (v 0 &&& 63) = (2 : Int32)
  · rw [if_pos c2]
    exact A2 hN v h
  rw [if_neg c2]
  by_cases c3 : (v 0 &&& 63) = (3 : Int32)
  · rw [if_pos c3]
    exact A3 hN v h
  rw [if_neg c3]
  by_cases c4 : (v 0 &&& 63) = (4 : Int32)
  · rw [if_pos c4]
    exact A4 hN v h
  rw [if_neg c4]
  by_cases c5 : (v 0 &&& 63) = (5 : Int32)
  · rw [if_pos c5]
    exact Rl_Q (g := lawC5 N v) hN (fun b V hQ => Q5 hN v hQ) h
  rw [if_neg c5]
  by_cases c6 : (v 0 &&& 63) = (6 : Int32)
  · rw [if_pos c6]
    exact Rl_Q (g := lawC6 N v) hN (fun b V hQ => Q6 hN v hQ) h
  rw [if_neg c6]
  by_cases c7 : (v 0 &&& 63) = (7 : Int32)
  · rw [if_pos c7]
    exact Rl_Q (g := lawC7 N v) hN (fun b V hQ => Q7 hN v hQ) h
  rw [if_neg c7]
  by_cases c8 : (v 0 &&& 63) = (8 : Int32)
  · rw [if_pos c8]
    exact A8 hN v h
  rw [if_neg c8]
  by_cases c9 : (v 0 &&& 63) = (9 : Int32)
  · rw [if_pos c9]
    exact A9 hN v h
  rw [if_neg c9]
  by_cases c10 : (v 0 &&& 63) = (10 : Int32)
  · rw [if_pos c10]
    exact A10 hN v h
  rw [if_neg c10]
  by_cases c11 : (v 0 &&& 63) = (11 : Int32)
  · rw [if_pos c11]
    exact A11 hN v h
  rw [if_neg c11]
  by_cases c12 : (v 0 &&& 63) = (12 : Int32)
  · rw [if_pos c12]
    exact A12 hN v h
  rw [if_neg c12]
  by_cases c13 : (v 0 &&& 63) = (13 : Int32)
  · rw [if_pos c13]
    exact A13 hN v h
  rw [if_neg c13]
  by_cases c14 : (v 0 &&& 63) = (14 : Int32)
  · rw [if_pos c14]
    exact A14 hN v h
  rw [if_neg c14]
  by_cases c15 : (v 0 &&& 63) = (15 : Int32)
  · rw [if_pos c15]
    exact Rl_Q (g := lawC15 N v) hN (fun b V hQ => Q15 hN v hQ) h
  rw [if_neg c15]
  by_cases c16 : (v 0 &&& 63) = (16 : Int32)
  · rw [if_pos c16]
    exact Rl_Q (g := lawC16 N v) hN (fun b V hQ => Q16 hN v hQ) h
  rw [if_neg c16]
  by_cases c17 : (v 0 &&& 63) = (17 : Int32)
  · rw [if_pos c17]
    exact Rl_Q (g := lawC17 N v) hN (fun b V hQ => Q17 hN v hQ) h
  rw [if_neg c17]
  by_cases c18 : (v 0 &&& 63) = (18 : Int32)
  · rw [if_pos c18]
    exact Rl_Q (g := lawC18 N v) hN (fun b V hQ => Q18 hN v hQ) h
  rw [if_neg c18]
  by_cases c19 : (v 0 &&& 63) = (19 : Int32)
  · rw [if_pos c19]
    exact Rl_Q (g := lawC19 N v) hN (fun b V hQ => Q19 hN v hQ) h
  rw [if_neg c19]
  by_cases c20 : (v 0 &&& 63) = (20 : Int32)
  · rw [if_pos c20]
    exact Rl_Q (g := lawC20 N v) hN (fun b V hQ => Q20 hN v hQ) h
  rw [if_neg c20]
  by_cases c21 : (v 0 &&& 63) = (21 : Int32)
  · rw [if_pos c21]
    exact Rl_Q (g := lawC21 N v) hN (fun b V hQ => Q21 hN v hQ) h
  rw [if_neg c21]
  by_cases c22 : (v 0 &&& 63) = (22 : Int32)
  · rw [if_pos c22]
    exact Rl_Q (g := lawC22 N v) hN (fun b V hQ => Q22 hN v hQ) h
  rw [if_neg c22]
  by_cases c23 : (v 0 &&& 63) = (23 : Int32)
  · rw [if_pos c23]
    exact Rl_Q (g := lawC23 N v) hN (fun b V hQ => Q23 hN v hQ) h
  rw [if_neg c23]
  by_cases c24 : (v 0 &&& 63) = (24 : Int32)
  · rw [if_pos c24]
    exact Rl_Q (g := lawC24 N v) hN (fun b V hQ => Q24 hN v hQ) h
  rw [if_neg c24]
  by_cases c25 : (v 0 &&& 63) = (25 : Int32)
  · rw [if_pos c25]
    exact Rl_Q (g := lawC25 N v) hN (fun b V hQ => Q25 hN v hQ) h
  rw [if_neg c25]
  by_cases c26 : (v 0 &&& 63) = (26 : Int32)
  · rw [if_pos c26]
    exact Rl_Q (g := lawC26 N v) hN (fun b V hQ => Q26 hN v hQ) h
  rw [if_neg c26]
  by_cases c27 : (v 0 &&& 63) = (27 : Int32)
  · rw [if_pos c27]
    exact Rl_Q (g := lawC27 N v) hN (fun b V hQ => Q27 hN v hQ) h
  rw [if_neg c27]
  by_cases c28 : (v 0 &&& 63) = (28 : Int32)
  · rw [if_pos c28]
    exact Rl_Q (g := lawC28 N v) hN (fun b V hQ => Q28 hN v hQ) h
  rw [if_neg c28]
  by_cases c29 : (v 0 &&& 63) = (29 : Int32)
  · rw [if_pos c29]
    exact Rl_Q (g := lawC29 N v) hN (fun b V hQ => Q29 hN v hQ) h
  rw [if_neg c29]
  by_cases c30 : (v 0 &&& 63) = (30 : Int32)
  · rw [if_pos c30]
    exact Rl_Q (g := lawC30 N v) hN (fun b V hQ => Q30 hN v hQ) h
  rw [if_neg c30]
  by_cases c31 : (v 0 &&& 63) = (31 : Int32)
  · rw [if_pos c31]
    exact Rl_Q (g := lawC31 N v) hN (fun b V hQ => Q31 hN v hQ) h
  rw [if_neg c31]
  by_cases c32 : (v 0 &&& 63) = (32 : Int32)
  · rw [if_pos c32]
    exact Rl_Q (g := lawC32 N v) hN (fun b V hQ => Q32 hN v hQ) h
  rw [if_neg c32]
  by_cases c33 : (v 0 &&& 63) = (33 : Int32)
  · rw [if_pos c33]
    exact Rl_Q (g := lawC33 N v) hN (fun b V hQ => Q33 hN v hQ) h
  rw [if_neg c33]
  by_cases c34 : (v 0 &&& 63) = (34 : Int32)
  · rw [if_pos c34]
    exact Rl_Q (g := lawC34 N v) hN (fun b V hQ => Q34 hN v hQ) h
  rw [if_neg c34]
  by_cases c35 : (v 0 &&& 63) = (35 : Int32)
  · rw [if_pos c35]
    exact Rl_Q (g := lawC35 N v) hN (fun b V hQ => Q35 hN v hQ) h
  rw [if_neg c35]
  by_cases c36 : (v 0 &&& 63) = (36 : Int32)
  · rw [if_pos c36]
    exact Rl_Q (g := lawC36 N v) hN (fun b V hQ => Q36 hN v hQ) h
  rw [if_neg c36]
  by_cases c37 : (v 0 &&& 63) = (37 : Int32)
  · rw [if_pos c37]
    exact A37 hN v h
  rw [if_neg c37]
  by_cases c38 : (v 0 &&& 63) = (38 : Int32)
  · rw [if_pos c38]
    exact A38 hN v h
  rw [if_neg c38]
  by_cases c39 : (v 0 &&& 63) = (39 : Int32)
  · rw [if_pos c39]
    exact A39 hN v h
  rw [if_neg c39]
  exact ⟨(μ, ν), rfl, h⟩
end
theorem mu0_z {k : Nat} (h : k ≠ 60 ∧ k ≠ 89 ∧ k ≠ 1 ∧ k ≠ 3) (j : Nat) : mu0.1 k j = I_ 0 := by
  show (if k = 60 then upd (fun _ => 0) 4 10 else if k = 89 then upd (fun _ => 0) 4 10 else if k = 1 then upd (fun _ => 0) 2 (-1) else if k = 3 then upd (fun _ => 0) 4 (-1) else fun _ => (0 : Int32)) j = I_ 0
  rw [if_neg h.1, if_neg h.2.1, if_neg h.2.2.1, if_neg h.2.2.2]
  rfl
theorem upd_n {k j : Nat} {x : Int32} (h : j ≠ k) : upd (fun _ => 0) k x j = I_ 0 := by
  show (if j = k then x else (0 : Int32)) = I_ 0
  rw [if_neg h]
  rfl
theorem upd_y {k j : Nat} {x : Int32} (h : j = k) : upd (fun _ => 0) k x j = x := if_pos h
theorem mu0_60 (j : Nat) : mu0.1 60 j = upd (fun _ => 0) 4 10 j := rfl
theorem mu0_1 (j : Nat) : mu0.1 1 j = upd (fun _ => 0) 2 (-1) j := rfl
theorem nu0_1 (j : Nat) : nu0.1 1 j = upd (fun _ => 0) 32 10 j := rfl
theorem nu0_0 (j : Nat) : nu0.1 0 j = upd (fun _ => 0) 17 (-1) j := rfl
theorem nu0_z {k : Nat} (h : k ≠ 0 ∧ k ≠ 1) (j : Nat) : nu0.1 k j = I_ 0 := by
  show (if k = 1 then upd (fun _ => 0) 32 10 else if k = 0 then upd (fun _ => 0) 17 (-1) else fun _ => (0 : Int32)) j = I_ 0
  rw [if_neg h.2, if_neg h.1]
  rfl
theorem v00_z {k z : Int} (h : ¬ (k = 16 ∧ z = 4)) : v00 k z = 0 := if_neg h
theorem v00_4 : v00 16 4 = 10 := if_pos ⟨rfl, rfl⟩
theorem szv0 {k z : Int} (h : okk k) (h0 : 0 ≤ z) (h1 : z < szv (sN v00) (mN v00) k) : (k = 14 ∧ z < 24) ∨ (k = 15 ∧ z < 4) ∨ (k = 16 ∧ z < 6) := by
  have e1 : sN v00 = 0 := rfl
  have e2 : mN v00 = 0 := rfl
  unfold okk at h
  unfold szv at h1
  rw [e1, e2] at h1
  by_cases q1 : k ≤ 10
  · rw [if_pos q1] at h1; omega
  rw [if_neg q1] at h1
  by_cases q2 : k ≤ 13
  · rw [if_pos q2] at h1; omega
  rw [if_neg q2] at h1
  by_cases q3 : k = 14
  · rw [if_pos q3] at h1; omega
  rw [if_neg q3] at h1
  by_cases q4 : k = 15
  · rw [if_pos q4] at h1; omega
  rw [if_neg q4] at h1
  omega
theorem PC_0 : PC 32 v00 (fun _ => 0) (fun _ _ => 0) (fun _ => 0) (fun _ _ => 0) (fun _ => []) (fun _ => 0) 0 mu0 := by
  refine ⟨fun k z hk h0 h1 => ?_, mu0_z (by omega) 10, ⟨mu0_z (by omega) 2, fun i i0 i1 => ?_⟩, ⟨mu0_z (by omega) 2, fun i i0 i1 => ?_⟩, mu0_z (by omega) 4, fun k k0 k2 => ⟨mu0_z (by omega) _, mu0_z (by omega) _, trivial, by show (0 : Int) ≤ 0; omega, by show (0 : Int) + (0 : Nat) ≤ 0; omega⟩⟩
  · rcases szv0 hk h0 h1 with ⟨rfl, q⟩ | ⟨rfl, q⟩ | ⟨rfl, q⟩
    · rw [v00_z (by omega)]; exact mu0_z (k := 58) (by omega) _
    · rw [v00_z (by omega)]; exact mu0_z (k := 59) (by omega) _
    · show mu0.1 60 z.toNat = I_ (v00 16 z)
      rw [mu0_60]
      by_cases q4 : z = 4
      · subst q4
        rw [v00_4]
        rfl
      · rw [v00_z (by omega), upd_n (by omega)]
  · have : mN v00 = 0 := rfl
    omega
  · have : fN v00 = 0 := rfl
    omega
theorem PE_0 : PE v00 (fun _ => 0) (fun _ _ => 0) (fun _ => 0) (fun _ _ => 0) (fun _ => []) nu0 := by
  refine ⟨fun k z hk h0 h1 => ?_, ?_, ⟨?_, fun i i0 i1 => ?_⟩, ⟨?_, fun i i0 i1 => ?_⟩, fun k k0 k2 => ⟨nu0_z (by omega) _, trivial⟩⟩
  · rcases szv0 hk h0 h1 with ⟨rfl, q⟩ | ⟨rfl, q⟩ | ⟨rfl, q⟩
    · rw [if_neg (by omega), v00_z (by omega), nu0_1]
      exact upd_n (by show z.toNat ≠ 32; omega)
    · rw [if_neg (by omega), v00_z (by omega), nu0_1]
      exact upd_n (by show (24 + z).toNat ≠ 32; omega)
    · rw [if_neg (by omega), nu0_1]
      by_cases q4 : z = 4
      · subst q4
        rw [v00_4]
        rfl
      · rw [v00_z (by omega)]
        exact upd_n (by show (28 + z).toNat ≠ 32; omega)
  · rw [nu0_1]; exact upd_n (by omega)
  · rw [nu0_0]; exact upd_n (by omega)
  · have : mN v00 = 0 := rfl
    omega
  · rw [nu0_0]; exact upd_n (by omega)
  · have : fN v00 = 0 := rfl
    omega
theorem vE_0 : vE (fun _ => []) v00 := fun z z0 z1 => by
  have : sN v00 = 0 := rfl
  omega
theorem NV_0 : NV 0 (fun _ => 0) (fun _ _ => 0) := ⟨by omega, by omega, fun i i0 i1 => by omega⟩
theorem Rl_0 : Rl mu0 nu0 := by
  refine ⟨32, fun _ => 0, fun _ _ => 0, fun _ => 0, fun _ _ => 0, fun _ => [], fun _ => 0, 0, fun _ => v00, 0, 0, ⟨⟨vB_00, NV_0, NV_0, fun k k0 k2 => ⟨Or.inl rfl, by show 0 ≤ 400; omega⟩⟩, vE_0, by omega, Or.inl rfl, PC_0, fun z z0 z1 => ?_, rfl, PE_0, Or.inl ?_⟩, ⟨⟨mu0_z (by omega) 3, mu0_z (by omega) 4, by omega, by omega, fun t ht => by omega⟩, ⟨?_, fun t ht => by omega⟩, fun t ht => ⟨vB_00, vE_0⟩⟩, ⟨61, Or.inr rfl, by omega, rfl⟩, ⟨fun _ => 0, 0, -1, ⟨by omega, by omega, fun j => by show (-128 : Int) ≤ 0 ∧ (0 : Int) ≤ 127; omega⟩, ?_, ?_, fun j j0 j1 => by omega, fun j j0 j1 => by omega, ?_, ?_, by omega⟩, ⟨0, fun _ => 0, mu0_z (by omega) 1, ?_, by omega, fun j j0 j1 => by omega⟩⟩
  · have z1 : z < 0 := z1
    omega
  · rw [nu0_0]; exact upd_n (by omega)
  · rw [nu0_0]; exact upd_n (by omega)
  · rw [mu0_1]; exact upd_n (by omega)
  · rw [nu0_0]; exact upd_n (by omega)
  · rw [mu0_1]; exact upd_y rfl
  · rw [nu0_0]; exact upd_y rfl
  · rw [nu0_0]; exact upd_n (by omega)
