def layC : List (Nat ⊕ (Nat × Nat)) := [.inl 10, .inl 5, .inl 0, .inl 8, .inl 2, .inl 3, .inl 6, .inr (2, 400), .inr (0, 16), .inr (0, 16), .inr (0, 16), .inr (0, 6), .inr (0, 6), .inr (3, 40), .inr (3, 40), .inr (3, 6), .inr (0, 24), .inr (1, 24), .inr (0, 3), .inr (0, 40), .inr (0, 40), .inr (1, 40), .inr (1, 40), .inr (0, 4), .inr (0, 4), .inr (0, 4), .inr (0, 4), .inr (3, 4), .inr (0, 4), .inr (0, 12), .inr (1, 12), .inr (2, 64), .inl 1, .inl 4, .inr (2, 36), .inr (0, 6), .inl 4, .inr (2, 36), .inr (0, 6), .inl 9, .inr (0, 400), .inr (0, 3), .inr (0, 3), .inr (1, 16), .inl 7, .inr (0, 40), .inr (0, 40), .inr (0, 40), .inr (0, 40), .inr (0, 40), .inr (0, 40), .inr (0, 40), .inr (0, 40), .inr (0, 40), .inr (3, 40), .inr (0, 6), .inr (0, 6), .inr (0, 6), .inr (0, 24), .inr (3, 4), .inr (0, 6), .inl 1, .inl 4, .inr (2, 36), .inr (0, 6), .inl 4, .inr (2, 36), .inr (0, 6), .inl 9, .inr (0, 400), .inr (0, 3), .inr (0, 3), .inr (1, 16), .inl 7, .inr (0, 40), .inr (0, 40), .inr (0, 40), .inr (0, 40), .inr (0, 40), .inr (0, 40), .inr (0, 40), .inr (0, 40), .inr (0, 40), .inr (3, 40), .inr (0, 6), .inr (0, 6), .inr (0, 6), .inr (0, 24), .inr (3, 4), .inr (0, 6), .inr (1, 1)]
def srefC : List (List Nat) := [[1, 2, 3, 4, 5, 6], [7], [8, 9, 10], [11, 12, 13, 14, 0, 15, 16, 17, 18], [3, 19, 20, 21, 22], [4, 23, 24, 25, 26, 27, 28, 29, 30], [31], [], [], [], [], [], [], [], [], [], [], [], [], [], [], [], [], [], [], [], [], [], [], [], [], [], [33, 36, 55, 56, 57, 58, 59, 39, 44, 60], [34, 35], [], [], [37, 38], [], [], [40, 41, 42, 43], [], [], [], [], [45, 46, 47, 48, 49, 50, 51, 52, 53, 54], [], [], [], [], [], [], [], [], [], [], [], [], [], [], [], [], [62, 65, 84, 85, 86, 87, 88, 68, 73, 89], [63, 64], [], [], [66, 67], [], [], [69, 70, 71, 72], [], [], [], [], [74, 75, 76, 77, 78, 79, 80, 81, 82, 83], [], [], [], [], [], [], [], [], [], [], [], [], [], [], [], [], []]
def wC : Wld := (91, fun k => layC.getD k (.inr (9, 0)), fun k j => (srefC.getD k []).getD j 0)
def layM : List (Nat ⊕ (Nat × Nat)) := [.inl 11, .inr (0, 355), .inr (0, 355), .inr (0, 5680), .inr (0, 6), .inr (0, 4), .inr (0, 18), .inr (0, 1200), .inr (0, 1200), .inr (0, 3), .inr (2, 400), .inr (0, 6), .inr (0, 4), .inr (0, 18), .inr (0, 1200), .inr (0, 1200), .inr (0, 3), .inr (0, 410), .inr (0, 40), .inr (0, 40), .inr (3, 40), .inr (3, 40), .inr (0, 4), .inr (1, 400), .inr (1, 40), .inr (0, 40), .inr (0, 40), .inr (1, 40), .inr (1, 40), .inr (0, 60)]
def srefM : List (List Nat) := [[0, 1, 2, 3, 0, 0, 0, 4, 5, 6, 7, 8, 9, 10, 0, 0, 0, 0, 0, 0, 11, 12, 13, 14, 15, 16, 0, 0, 17, 0, 0, 18, 19, 20, 21, 22, 23, 0, 0, 0, 24, 25, 26, 27, 28, 0, 29], [], [], [], [], [], [], [], [], [], [], [], [], [], [], [], [], [], [], [], [], [], [], [], [], [], [], [], [], []]
def wM : Wld := (30, fun k => layM.getD k (.inr (9, 0)), fun k j => (srefM.getD k []).getD j 0)
theorem atB_0 {b : Nat} (h : kB b) : b < wC.1 ∧ wC.2.1 (b) = .inl 1 := by rcases h with rfl | rfl <;> exact ⟨by decide, rfl⟩
theorem sfB_0_0 {b : Nat} (h : kB b) : wC.2.2 (b) 0 = b + 1 := by rcases h with rfl | rfl <;> rfl
theorem sfB_0_1 {b : Nat} (h : kB b) : wC.2.2 (b) 1 = b + 4 := by rcases h with rfl | rfl <;> rfl
theorem sfB_0_2 {b : Nat} (h : kB b) : wC.2.2 (b) 2 = b + 23 := by rcases h with rfl | rfl <;> rfl
theorem sfB_0_3 {b : Nat} (h : kB b) : wC.2.2 (b) 3 = b + 24 := by rcases h with rfl | rfl <;> rfl
theorem sfB_0_4 {b : Nat} (h : kB b) : wC.2.2 (b) 4 = b + 25 := by rcases h with rfl | rfl <;> rfl
theorem sfB_0_5 {b : Nat} (h : kB b) : wC.2.2 (b) 5 = b + 26 := by rcases h with rfl | rfl <;> rfl
theorem sfB_0_6 {b : Nat} (h : kB b) : wC.2.2 (b) 6 = b + 27 := by rcases h with rfl | rfl <;> rfl
theorem sfB_0_7 {b : Nat} (h : kB b) : wC.2.2 (b) 7 = b + 7 := by rcases h with rfl | rfl <;> rfl
theorem sfB_0_8 {b : Nat} (h : kB b) : wC.2.2 (b) 8 = b + 12 := by rcases h with rfl | rfl <;> rfl
theorem sfB_0_9 {b : Nat} (h : kB b) : wC.2.2 (b) 9 = b + 28 := by rcases h with rfl | rfl <;> rfl
theorem atB_1 {b : Nat} (h : kB b) : b + 1 < wC.1 ∧ wC.2.1 (b + 1) = .inl 4 := by rcases h with rfl | rfl <;> exact ⟨by decide, rfl⟩
theorem sfB_1_0 {b : Nat} (h : kB b) : wC.2.2 (b + 1) 0 = b + 2 := by rcases h with rfl | rfl <;> rfl
theorem sfB_1_1 {b : Nat} (h : kB b) : wC.2.2 (b + 1) 1 = b + 3 := by rcases h with rfl | rfl <;> rfl
theorem atB_2 {b : Nat} (h : kB b) : b + 2 < wC.1 ∧ wC.2.1 (b + 2) = .inr (2, 36) := by rcases h with rfl | rfl <;> exact ⟨by decide, rfl⟩
theorem atB_3 {b : Nat} (h : kB b) : b + 3 < wC.1 ∧ wC.2.1 (b + 3) = .inr (0, 6) := by rcases h with rfl | rfl <;> exact ⟨by decide, rfl⟩
theorem atB_4 {b : Nat} (h : kB b) : b + 4 < wC.1 ∧ wC.2.1 (b + 4) = .inl 4 := by rcases h with rfl | rfl <;> exact ⟨by decide, rfl⟩
theorem sfB_4_0 {b : Nat} (h : kB b) : wC.2.2 (b + 4) 0 = b + 5 := by rcases h with rfl | rfl <;> rfl
theorem sfB_4_1 {b : Nat} (h : kB b) : wC.2.2 (b + 4) 1 = b + 6 := by rcases h with rfl | rfl <;> rfl
theorem atB_5 {b : Nat} (h : kB b) : b + 5 < wC.1 ∧ wC.2.1 (b + 5) = .inr (2, 36) := by rcases h with rfl | rfl <;> exact ⟨by decide, rfl⟩
theorem atB_6 {b : Nat} (h : kB b) : b + 6 < wC.1 ∧ wC.2.1 (b + 6) = .inr (0, 6) := by rcases h with rfl | rfl <;> exact ⟨by decide, rfl⟩
theorem atB_7 {b : Nat} (h : kB b) : b + 7 < wC.1 ∧ wC.2.1 (b + 7) = .inl 9 := by rcases h with rfl | rfl <;> exact ⟨by decide, rfl⟩
theorem sfB_7_0 {b : Nat} (h : kB b) : wC.2.2 (b + 7) 0 = b + 8 := by rcases h with rfl | rfl <;> rfl
theorem sfB_7_1 {b : Nat} (h : kB b) : wC.2.2 (b + 7) 1 = b + 9 := by rcases h with rfl | rfl <;> rfl
theorem sfB_7_2 {b : Nat} (h : kB b) : wC.2.2 (b + 7) 2 = b + 10 := by rcases h with rfl | rfl <;> rfl
theorem sfB_7_3 {b : Nat} (h : kB b) : wC.2.2 (b + 7) 3 = b + 11 := by rcases h with rfl | rfl <;> rfl
theorem atB_8 {b : Nat} (h : kB b) : b + 8 < wC.1 ∧ wC.2.1 (b + 8) = .inr (0, 400) := by rcases h with rfl | rfl <;> exact ⟨by decide, rfl⟩
theorem atB_9 {b : Nat} (h : kB b) : b + 9 < wC.1 ∧ wC.2.1 (b + 9) = .inr (0, 3) := by rcases h with rfl | rfl <;> exact ⟨by decide, rfl⟩
theorem atB_10 {b : Nat} (h : kB b) : b + 10 < wC.1 ∧ wC.2.1 (b + 10) = .inr (0, 3) := by rcases h with rfl | rfl <;> exact ⟨by decide, rfl⟩
theorem atB_11 {b : Nat} (h : kB b) : b + 11 < wC.1 ∧ wC.2.1 (b + 11) = .inr (1, 16) := by rcases h with rfl | rfl <;> exact ⟨by decide, rfl⟩
theorem atB_12 {b : Nat} (h : kB b) : b + 12 < wC.1 ∧ wC.2.1 (b + 12) = .inl 7 := by rcases h with rfl | rfl <;> exact ⟨by decide, rfl⟩
theorem sfB_12_0 {b : Nat} (h : kB b) : wC.2.2 (b + 12) 0 = b + 13 := by rcases h with rfl | rfl <;> rfl
theorem sfB_12_1 {b : Nat} (h : kB b) : wC.2.2 (b + 12) 1 = b + 14 := by rcases h with rfl | rfl <;> rfl
theorem sfB_12_2 {b : Nat} (h : kB b) : wC.2.2 (b + 12) 2 = b + 15 := by rcases h with rfl | rfl <;> rfl
theorem sfB_12_3 {b : Nat} (h : kB b) : wC.2.2 (b + 12) 3 = b + 16 := by rcases h with rfl | rfl <;> rfl
theorem sfB_12_4 {b : Nat} (h : kB b) : wC.2.2 (b + 12) 4 = b + 17 := by rcases h with rfl | rfl <;> rfl
theorem sfB_12_5 {b : Nat} (h : kB b) : wC.2.2 (b + 12) 5 = b + 18 := by rcases h with rfl | rfl <;> rfl
theorem sfB_12_6 {b : Nat} (h : kB b) : wC.2.2 (b + 12) 6 = b + 19 := by rcases h with rfl | rfl <;> rfl
theorem sfB_12_7 {b : Nat} (h : kB b) : wC.2.2 (b + 12) 7 = b + 20 := by rcases h with rfl | rfl <;> rfl
theorem sfB_12_8 {b : Nat} (h : kB b) : wC.2.2 (b + 12) 8 = b + 21 := by rcases h with rfl | rfl <;> rfl
theorem sfB_12_9 {b : Nat} (h : kB b) : wC.2.2 (b + 12) 9 = b + 22 := by rcases h with rfl | rfl <;> rfl
theorem atB_13 {b : Nat} (h : kB b) : b + 13 < wC.1 ∧ wC.2.1 (b + 13) = .inr (0, 40) := by rcases h with rfl | rfl <;> exact ⟨by decide, rfl⟩
theorem atB_14 {b : Nat} (h : kB b) : b + 14 < wC.1 ∧ wC.2.1 (b + 14) = .inr (0, 40) := by rcases h with rfl | rfl <;> exact ⟨by decide, rfl⟩
theorem atB_15 {b : Nat} (h : kB b) : b + 15 < wC.1 ∧ wC.2.1 (b + 15) = .inr (0, 40) := by rcases h with rfl | rfl <;> exact ⟨by decide, rfl⟩
theorem atB_16 {b : Nat} (h : kB b) : b + 16 < wC.1 ∧ wC.2.1 (b + 16) = .inr (0, 40) := by rcases h with rfl | rfl <;> exact ⟨by decide, rfl⟩
theorem atB_17 {b : Nat} (h : kB b) : b + 17 < wC.1 ∧ wC.2.1 (b + 17) = .inr (0, 40) := by rcases h with rfl | rfl <;> exact ⟨by decide, rfl⟩
theorem atB_18 {b : Nat} (h : kB b) : b + 18 < wC.1 ∧ wC.2.1 (b + 18) = .inr (0, 40) := by rcases h with rfl | rfl <;> exact ⟨by decide, rfl⟩
theorem atB_19 {b : Nat} (h : kB b) : b + 19 < wC.1 ∧ wC.2.1 (b + 19) = .inr (0, 40) := by rcases h with rfl | rfl <;> exact ⟨by decide, rfl⟩
theorem atB_20 {b : Nat} (h : kB b) : b + 20 < wC.1 ∧ wC.2.1 (b + 20) = .inr (0, 40) := by rcases h with rfl | rfl <;> exact ⟨by decide, rfl⟩
theorem atB_21 {b : Nat} (h : kB b) : b + 21 < wC.1 ∧ wC.2.1 (b + 21) = .inr (0, 40) := by rcases h with rfl | rfl <;> exact ⟨by decide, rfl⟩
theorem atB_22 {b : Nat} (h : kB b) : b + 22 < wC.1 ∧ wC.2.1 (b + 22) = .inr (3, 40) := by rcases h with rfl | rfl <;> exact ⟨by decide, rfl⟩
theorem atB_23 {b : Nat} (h : kB b) : b + 23 < wC.1 ∧ wC.2.1 (b + 23) = .inr (0, 6) := by rcases h with rfl | rfl <;> exact ⟨by decide, rfl⟩
theorem atB_24 {b : Nat} (h : kB b) : b + 24 < wC.1 ∧ wC.2.1 (b + 24) = .inr (0, 6) := by rcases h with rfl | rfl <;> exact ⟨by decide, rfl⟩
theorem atB_25 {b : Nat} (h : kB b) : b + 25 < wC.1 ∧ wC.2.1 (b + 25) = .inr (0, 6) := by rcases h with rfl | rfl <;> exact ⟨by decide, rfl⟩
theorem atB_26 {b : Nat} (h : kB b) : b + 26 < wC.1 ∧ wC.2.1 (b + 26) = .inr (0, 24) := by rcases h with rfl | rfl <;> exact ⟨by decide, rfl⟩
theorem atB_27 {b : Nat} (h : kB b) : b + 27 < wC.1 ∧ wC.2.1 (b + 27) = .inr (3, 4) := by rcases h with rfl | rfl <;> exact ⟨by decide, rfl⟩
theorem atB_28 {b : Nat} (h : kB b) : b + 28 < wC.1 ∧ wC.2.1 (b + 28) = .inr (0, 6) := by rcases h with rfl | rfl <;> exact ⟨by decide, rfl⟩
theorem atN_0 {b : Nat} (h : kN b) : b < wC.1 ∧ wC.2.1 (b) = .inl 4 := by rcases h with rfl | rfl | rfl | rfl <;> exact ⟨by decide, rfl⟩
theorem sfN_0_0 {b : Nat} (h : kN b) : wC.2.2 (b) 0 = b + 1 := by rcases h with rfl | rfl | rfl | rfl <;> rfl
theorem sfN_0_1 {b : Nat} (h : kN b) : wC.2.2 (b) 1 = b + 2 := by rcases h with rfl | rfl | rfl | rfl <;> rfl
theorem atN_1 {b : Nat} (h : kN b) : b + 1 < wC.1 ∧ wC.2.1 (b + 1) = .inr (2, 36) := by rcases h with rfl | rfl | rfl | rfl <;> exact ⟨by decide, rfl⟩
theorem atN_2 {b : Nat} (h : kN b) : b + 2 < wC.1 ∧ wC.2.1 (b + 2) = .inr (0, 6) := by rcases h with rfl | rfl | rfl | rfl <;> exact ⟨by decide, rfl⟩
theorem atU_0 {b : Nat} (h : kU b) : b < wC.1 ∧ wC.2.1 (b) = .inl 9 := by rcases h with rfl | rfl <;> exact ⟨by decide, rfl⟩
theorem sfU_0_0 {b : Nat} (h : kU b) : wC.2.2 (b) 0 = b + 1 := by rcases h with rfl | rfl <;> rfl
theorem sfU_0_1 {b : Nat} (h : kU b) : wC.2.2 (b) 1 = b + 2 := by rcases h with rfl | rfl <;> rfl
theorem sfU_0_2 {b : Nat} (h : kU b) : wC.2.2 (b) 2 = b + 3 := by rcases h with rfl | rfl <;> rfl
theorem sfU_0_3 {b : Nat} (h : kU b) : wC.2.2 (b) 3 = b + 4 := by rcases h with rfl | rfl <;> rfl
theorem atU_1 {b : Nat} (h : kU b) : b + 1 < wC.1 ∧ wC.2.1 (b + 1) = .inr (0, 400) := by rcases h with rfl | rfl <;> exact ⟨by decide, rfl⟩
theorem atU_2 {b : Nat} (h : kU b) : b + 2 < wC.1 ∧ wC.2.1 (b + 2) = .inr (0, 3) := by rcases h with rfl | rfl <;> exact ⟨by decide, rfl⟩
theorem atU_3 {b : Nat} (h : kU b) : b + 3 < wC.1 ∧ wC.2.1 (b + 3) = .inr (0, 3) := by rcases h with rfl | rfl <;> exact ⟨by decide, rfl⟩
theorem atU_4 {b : Nat} (h : kU b) : b + 4 < wC.1 ∧ wC.2.1 (b + 4) = .inr (1, 16) := by rcases h with rfl | rfl <;> exact ⟨by decide, rfl⟩
theorem atS_0 {b : Nat} (h : kS b) : b < wC.1 ∧ wC.2.1 (b) = .inl 7 := by rcases h with rfl | rfl <;> exact ⟨by decide, rfl⟩
theorem sfS_0_0 {b : Nat} (h : kS b) : wC.2.2 (b) 0 = b + 1 := by rcases h with rfl | rfl <;> rfl
theorem sfS_0_1 {b : Nat} (h : kS b) : wC.2.2 (b) 1 = b + 2 := by rcases h with rfl | rfl <;> rfl
theorem sfS_0_2 {b : Nat} (h : kS b) : wC.2.2 (b) 2 = b + 3 := by rcases h with rfl | rfl <;> rfl
theorem sfS_0_3 {b : Nat} (h : kS b) : wC.2.2 (b) 3 = b + 4 := by rcases h with rfl | rfl <;> rfl
theorem sfS_0_4 {b : Nat} (h : kS b) : wC.2.2 (b) 4 = b + 5 := by rcases h with rfl | rfl <;> rfl
theorem sfS_0_5 {b : Nat} (h : kS b) : wC.2.2 (b) 5 = b + 6 := by rcases h with rfl | rfl <;> rfl
theorem sfS_0_6 {b : Nat} (h : kS b) : wC.2.2 (b) 6 = b + 7 := by rcases h with rfl | rfl <;> rfl
theorem sfS_0_7 {b : Nat} (h : kS b) : wC.2.2 (b) 7 = b + 8 := by rcases h with rfl | rfl <;> rfl
theorem sfS_0_8 {b : Nat} (h : kS b) : wC.2.2 (b) 8 = b + 9 := by rcases h with rfl | rfl <;> rfl
theorem sfS_0_9 {b : Nat} (h : kS b) : wC.2.2 (b) 9 = b + 10 := by rcases h with rfl | rfl <;> rfl
theorem atS_1 {b : Nat} (h : kS b) : b + 1 < wC.1 ∧ wC.2.1 (b + 1) = .inr (0, 40) := by rcases h with rfl | rfl <;> exact ⟨by decide, rfl⟩
theorem atS_2 {b : Nat} (h : kS b) : b + 2 < wC.1 ∧ wC.2.1 (b + 2) = .inr (0, 40) := by rcases h with rfl | rfl <;> exact ⟨by decide, rfl⟩
theorem atS_3 {b : Nat} (h : kS b) : b + 3 < wC.1 ∧ wC.2.1 (b + 3) = .inr (0, 40) := by rcases h with rfl | rfl <;> exact ⟨by decide, rfl⟩
theorem atS_4 {b : Nat} (h : kS b) : b + 4 < wC.1 ∧ wC.2.1 (b + 4) = .inr (0, 40) := by rcases h with rfl | rfl <;> exact ⟨by decide, rfl⟩
theorem atS_5 {b : Nat} (h : kS b) : b + 5 < wC.1 ∧ wC.2.1 (b + 5) = .inr (0, 40) := by rcases h with rfl | rfl <;> exact ⟨by decide, rfl⟩
theorem atS_6 {b : Nat} (h : kS b) : b + 6 < wC.1 ∧ wC.2.1 (b + 6) = .inr (0, 40) := by rcases h with rfl | rfl <;> exact ⟨by decide, rfl⟩
theorem atS_7 {b : Nat} (h : kS b) : b + 7 < wC.1 ∧ wC.2.1 (b + 7) = .inr (0, 40) := by rcases h with rfl | rfl <;> exact ⟨by decide, rfl⟩
theorem atS_8 {b : Nat} (h : kS b) : b + 8 < wC.1 ∧ wC.2.1 (b + 8) = .inr (0, 40) := by rcases h with rfl | rfl <;> exact ⟨by decide, rfl⟩
theorem atS_9 {b : Nat} (h : kS b) : b + 9 < wC.1 ∧ wC.2.1 (b + 9) = .inr (0, 40) := by rcases h with rfl | rfl <;> exact ⟨by decide, rfl⟩
theorem atS_10 {b : Nat} (h : kS b) : b + 10 < wC.1 ∧ wC.2.1 (b + 10) = .inr (3, 40) := by rcases h with rfl | rfl <;> exact ⟨by decide, rfl⟩
theorem kN_models {b : Nat} (h : kB b) : kN (b + 1) := by rcases h with rfl | rfl <;> decide
theorem kN_firms {b : Nat} (h : kB b) : kN (b + 4) := by rcases h with rfl | rfl <;> decide
theorem kU_sums {b : Nat} (h : kB b) : kU (b + 7) := by rcases h with rfl | rfl <;> decide
theorem kS_sales {b : Nat} (h : kB b) : kS (b + 12) := by rcases h with rfl | rfl <;> decide
theorem atC0 : 0 < wC.1 ∧ wC.2.1 0 = .inl 10 := ⟨by decide, rfl⟩
theorem atC1 : 1 < wC.1 ∧ wC.2.1 1 = .inl 5 := ⟨by decide, rfl⟩
theorem atC2 : 2 < wC.1 ∧ wC.2.1 2 = .inl 0 := ⟨by decide, rfl⟩
theorem atC3 : 3 < wC.1 ∧ wC.2.1 3 = .inl 8 := ⟨by decide, rfl⟩
theorem atC4 : 4 < wC.1 ∧ wC.2.1 4 = .inl 2 := ⟨by decide, rfl⟩
theorem atC5 : 5 < wC.1 ∧ wC.2.1 5 = .inl 3 := ⟨by decide, rfl⟩
theorem atC6 : 6 < wC.1 ∧ wC.2.1 6 = .inl 6 := ⟨by decide, rfl⟩
theorem atC7 : 7 < wC.1 ∧ wC.2.1 7 = .inr (2, 400) := ⟨by decide, rfl⟩
theorem atC8 : 8 < wC.1 ∧ wC.2.1 8 = .inr (0, 16) := ⟨by decide, rfl⟩
theorem atC9 : 9 < wC.1 ∧ wC.2.1 9 = .inr (0, 16) := ⟨by decide, rfl⟩
theorem atC10 : 10 < wC.1 ∧ wC.2.1 10 = .inr (0, 16) := ⟨by decide, rfl⟩
theorem atC11 : 11 < wC.1 ∧ wC.2.1 11 = .inr (0, 6) := ⟨by decide, rfl⟩
theorem atC12 : 12 < wC.1 ∧ wC.2.1 12 = .inr (0, 6) := ⟨by decide, rfl⟩
theorem atC13 : 13 < wC.1 ∧ wC.2.1 13 = .inr (3, 40) := ⟨by decide, rfl⟩
theorem atC14 : 14 < wC.1 ∧ wC.2.1 14 = .inr (3, 40) := ⟨by decide, rfl⟩
theorem atC15 : 15 < wC.1 ∧ wC.2.1 15 = .inr (3, 6) := ⟨by decide, rfl⟩
theorem atC16 : 16 < wC.1 ∧ wC.2.1 16 = .inr (0, 24) := ⟨by decide, rfl⟩
theorem atC17 : 17 < wC.1 ∧ wC.2.1 17 = .inr (1, 24) := ⟨by decide, rfl⟩
theorem atC18 : 18 < wC.1 ∧ wC.2.1 18 = .inr (0, 3) := ⟨by decide, rfl⟩
theorem atC19 : 19 < wC.1 ∧ wC.2.1 19 = .inr (0, 40) := ⟨by decide, rfl⟩
theorem atC20 : 20 < wC.1 ∧ wC.2.1 20 = .inr (0, 40) := ⟨by decide, rfl⟩
theorem atC21 : 21 < wC.1 ∧ wC.2.1 21 = .inr (1, 40) := ⟨by decide, rfl⟩
theorem atC22 : 22 < wC.1 ∧ wC.2.1 22 = .inr (1, 40) := ⟨by decide, rfl⟩
theorem atC23 : 23 < wC.1 ∧ wC.2.1 23 = .inr (0, 4) := ⟨by decide, rfl⟩
theorem atC24 : 24 < wC.1 ∧ wC.2.1 24 = .inr (0, 4) := ⟨by decide, rfl⟩
theorem atC25 : 25 < wC.1 ∧ wC.2.1 25 = .inr (0, 4) := ⟨by decide, rfl⟩
theorem atC26 : 26 < wC.1 ∧ wC.2.1 26 = .inr (0, 4) := ⟨by decide, rfl⟩
theorem atC27 : 27 < wC.1 ∧ wC.2.1 27 = .inr (3, 4) := ⟨by decide, rfl⟩
theorem atC28 : 28 < wC.1 ∧ wC.2.1 28 = .inr (0, 4) := ⟨by decide, rfl⟩
theorem atC29 : 29 < wC.1 ∧ wC.2.1 29 = .inr (0, 12) := ⟨by decide, rfl⟩
theorem atC30 : 30 < wC.1 ∧ wC.2.1 30 = .inr (1, 12) := ⟨by decide, rfl⟩
theorem atC31 : 31 < wC.1 ∧ wC.2.1 31 = .inr (2, 64) := ⟨by decide, rfl⟩
theorem atC90 : 90 < wC.1 ∧ wC.2.1 90 = .inr (1, 1) := ⟨by decide, rfl⟩
theorem atM0 : 0 < wM.1 ∧ wM.2.1 0 = .inl 11 := ⟨by decide, rfl⟩
theorem atM1 : 1 < wM.1 ∧ wM.2.1 1 = .inr (0, 355) := ⟨by decide, rfl⟩
theorem atM2 : 2 < wM.1 ∧ wM.2.1 2 = .inr (0, 355) := ⟨by decide, rfl⟩
theorem atM3 : 3 < wM.1 ∧ wM.2.1 3 = .inr (0, 5680) := ⟨by decide, rfl⟩
theorem atM4 : 4 < wM.1 ∧ wM.2.1 4 = .inr (0, 6) := ⟨by decide, rfl⟩
theorem atM5 : 5 < wM.1 ∧ wM.2.1 5 = .inr (0, 4) := ⟨by decide, rfl⟩
theorem atM6 : 6 < wM.1 ∧ wM.2.1 6 = .inr (0, 18) := ⟨by decide, rfl⟩
theorem atM7 : 7 < wM.1 ∧ wM.2.1 7 = .inr (0, 1200) := ⟨by decide, rfl⟩
theorem atM8 : 8 < wM.1 ∧ wM.2.1 8 = .inr (0, 1200) := ⟨by decide, rfl⟩
theorem atM9 : 9 < wM.1 ∧ wM.2.1 9 = .inr (0, 3) := ⟨by decide, rfl⟩
theorem atM10 : 10 < wM.1 ∧ wM.2.1 10 = .inr (2, 400) := ⟨by decide, rfl⟩
theorem atM11 : 11 < wM.1 ∧ wM.2.1 11 = .inr (0, 6) := ⟨by decide, rfl⟩
theorem atM12 : 12 < wM.1 ∧ wM.2.1 12 = .inr (0, 4) := ⟨by decide, rfl⟩
theorem atM13 : 13 < wM.1 ∧ wM.2.1 13 = .inr (0, 18) := ⟨by decide, rfl⟩
theorem atM14 : 14 < wM.1 ∧ wM.2.1 14 = .inr (0, 1200) := ⟨by decide, rfl⟩
theorem atM15 : 15 < wM.1 ∧ wM.2.1 15 = .inr (0, 1200) := ⟨by decide, rfl⟩
theorem atM16 : 16 < wM.1 ∧ wM.2.1 16 = .inr (0, 3) := ⟨by decide, rfl⟩
theorem atM17 : 17 < wM.1 ∧ wM.2.1 17 = .inr (0, 410) := ⟨by decide, rfl⟩
theorem atM18 : 18 < wM.1 ∧ wM.2.1 18 = .inr (0, 40) := ⟨by decide, rfl⟩
theorem atM19 : 19 < wM.1 ∧ wM.2.1 19 = .inr (0, 40) := ⟨by decide, rfl⟩
theorem atM20 : 20 < wM.1 ∧ wM.2.1 20 = .inr (3, 40) := ⟨by decide, rfl⟩
theorem atM21 : 21 < wM.1 ∧ wM.2.1 21 = .inr (3, 40) := ⟨by decide, rfl⟩
theorem atM22 : 22 < wM.1 ∧ wM.2.1 22 = .inr (0, 4) := ⟨by decide, rfl⟩
theorem atM23 : 23 < wM.1 ∧ wM.2.1 23 = .inr (1, 400) := ⟨by decide, rfl⟩
theorem atM24 : 24 < wM.1 ∧ wM.2.1 24 = .inr (1, 40) := ⟨by decide, rfl⟩
theorem atM25 : 25 < wM.1 ∧ wM.2.1 25 = .inr (0, 40) := ⟨by decide, rfl⟩
theorem atM26 : 26 < wM.1 ∧ wM.2.1 26 = .inr (0, 40) := ⟨by decide, rfl⟩
theorem atM27 : 27 < wM.1 ∧ wM.2.1 27 = .inr (1, 40) := ⟨by decide, rfl⟩
theorem atM28 : 28 < wM.1 ∧ wM.2.1 28 = .inr (1, 40) := ⟨by decide, rfl⟩
theorem atM29 : 29 < wM.1 ∧ wM.2.1 29 = .inr (0, 60) := ⟨by decide, rfl⟩
/-! the words of the pure side -/
section
variable {α : Type} {w : Wld} {X : Ctx} {z : α × Mem} {cc : ByteArray} {nL : Nat} {own : String} {ret : Option FieldType} {R : Room} {pc : Nat} {lv : List (Nat × Value)} {st : List Value} {μ : Mem} {o : Option (α × Mem)}
theorem G_nmM {ν : Mem} {k : Mem → Option (α × Mem)} (kk : ∀ ν : Mem, G w X z pc lv st ν (k ν)) : G w X z pc lv st ν (nm ν k) := kk ν
theorem G_aI (hX : Fx w X cc nL own ret R) {a n : Nat} {i : Int32} {k : Int32 → Option (α × Mem)} (h : a < w.1 ∧ w.2.1 a = .inr (0, n)) (d : decode cc pc = .ok (.iaload, 1)) (kk : ∀ x, G w X z (pc + 1) lv (.int x :: st) μ (k x)) : G w X z pc lv (.int i :: .ref (cx_ad X a) :: st) μ (aI μ a n i k) := G_iald hX h.1 h.2 d kk
theorem G_aB (hX : Fx w X cc nL own ret R) {a n : Nat} {i : Int32} {k : Int32 → Option (α × Mem)} (h : a < w.1 ∧ w.2.1 a = .inr (2, n)) (d : decode cc pc = .ok (.baload, 1)) (kk : ∀ x, G w X z (pc + 1) lv (.int x :: st) μ (k x)) : G w X z pc lv (.int i :: .ref (cx_ad X a) :: st) μ (aI μ a n i k) := G_bald hX h.1 h.2 d kk
theorem G_aZ (hX : Fx w X cc nL own ret R) {a n : Nat} {i : Int32} {k : Int32 → Option (α × Mem)} (h : a < w.1 ∧ w.2.1 a = .inr (3, n)) (d : decode cc pc = .ok (.baload, 1)) (kk : ∀ x, G w X z (pc + 1) lv (.int x :: st) μ (k x)) : G w X z pc lv (.int i :: .ref (cx_ad X a) :: st) μ (aI μ a n i k) := G_zald hX h.1 h.2 d kk
theorem G_aL (hX : Fx w X cc nL own ret R) {a n : Nat} {i : Int32} {k : Int64 → Option (α × Mem)} (h : a < w.1 ∧ w.2.1 a = .inr (1, n)) (d : decode cc pc = .ok (.laload, 1)) (kk : ∀ x, G w X z (pc + 1) lv (.long x :: st) μ (k x)) : G w X z pc lv (.int i :: .ref (cx_ad X a) :: st) μ (aL μ a n i k) := G_lald hX h.1 h.2 d kk
theorem G_sI (hX : Fx w X cc nL own ret R) {a n : Nat} {i : Int32} {v : Int32} {k : Mem → Option (α × Mem)} (h : a < w.1 ∧ w.2.1 a = .inr (0, n)) (d : decode cc pc = .ok (.iastore, 1)) (kk : ∀ ν, G w X z (pc + 1) lv st ν (k ν)) : G w X z pc lv (.int v :: .int i :: .ref (cx_ad X a) :: st) μ (aS n i (nm (stI μ a i.toNatClampNeg v) k)) := G_iast hX h.1 h.2 d (kk _)
theorem G_sB (hX : Fx w X cc nL own ret R) {a n : Nat} {i : Int32} {v : Int32} {k : Mem → Option (α × Mem)} (h : a < w.1 ∧ w.2.1 a = .inr (2, n)) (d : decode cc pc = .ok (.bastore, 1)) (kk : ∀ ν, G w X z (pc + 1) lv st ν (k ν)) : G w X z pc lv (.int v :: .int i :: .ref (cx_ad X a) :: st) μ (aS n i (nm (stI μ a i.toNatClampNeg (vp_nar .byte v)) k)) := G_bast hX h.1 h.2 d (kk _)
theorem G_sZ (hX : Fx w X cc nL own ret R) {a n : Nat} {i : Int32} {v : Int32} {k : Mem → Option (α × Mem)} (h : a < w.1 ∧ w.2.1 a = .inr (3, n)) (d : decode cc pc = .ok (.bastore, 1)) (kk : ∀ ν, G w X z (pc + 1) lv st ν (k ν)) : G w X z pc lv (.int v :: .int i :: .ref (cx_ad X a) :: st) μ (aS n i (nm (stI μ a i.toNatClampNeg (vp_nar .boolean v)) k)) := G_zast hX h.1 h.2 d (kk _)
theorem G_sL (hX : Fx w X cc nL own ret R) {a n : Nat} {i : Int32} {v : Int64} {k : Mem → Option (α × Mem)} (h : a < w.1 ∧ w.2.1 a = .inr (1, n)) (d : decode cc pc = .ok (.lastore, 1)) (kk : ∀ ν, G w X z (pc + 1) lv st ν (k ν)) : G w X z pc lv (.long v :: .int i :: .ref (cx_ad X a) :: st) μ (aS n i (nm (stL μ a i.toNatClampNeg v) k)) := G_last hX h.1 h.2 d (kk _)
theorem G_getS (hX : Fx w X cc nL own ret R) {C ref n dd : String} {T : u_T} {N index : Nat} {a j : Nat} (ci t : Nat) (hs : w.2.2 a j = t) (hcl : vwCl[ci]? = some (C, T, N)) (hin : ∀ w ∈ u_ws C T N, w ∈ tb) (ha : a < w.1) (hk : w.2.1 a = .inl ci) (hj : (tyf ci)[j]? = some 2) (hT : (T j).1 = ref ∧ (T j).2.1 = n ∧ (T j).2.2.1 = dd) (hjN : j < N) (hlk : Cond.fieldLink own index ref n dd ∈ tb) (d : decode cc pc = .ok (.getfield index, 3)) (k : G w X z (pc + 3) lv (.ref (cx_ad X t) :: st) μ o) : G w X z pc lv (.ref (cx_ad X a) :: st) μ o := by
  subst hs
  exact G_getF hX ci hcl hin ha hk hj hT hjN hlk d k
theorem G_getB (hX : Fx w X cc nL own ret R) {C ref n dd : String} {T : u_T} {N index : Nat} {a j : Nat} {k : Nat → Option (α × Mem)} (ci : Nat) (hcl : vwCl[ci]? = some (C, T, N)) (hin : ∀ w ∈ u_ws C T N, w ∈ tb) (ha : a < w.1) (hk : w.2.1 a = .inl ci) (hj : (tyf ci)[j]? = some 3) (hT : (T j).1 = ref ∧ (T j).2.1 = n ∧ (T j).2.2.1 = dd) (hjN : j < N) (hlk : Cond.fieldLink own index ref n dd ∈ tb) (d : decode cc pc = .ok (.getfield index, 3)) (kk : ∀ b, kB b → G w X z (pc + 3) lv (.ref (cx_ad X b) :: st) μ (k b)) : G w X z pc lv (.ref (cx_ad X a) :: st) μ (gB (μ.2.2 a j) k) := by
  unfold gB
  refine G_guard (fun hb => ?_)
  exact G_getR hX ci hcl hin ha hk hj hT hjN hlk d (kk _ hb)
theorem G_idv (hX : Fx w X cc nL own ret R) {x y : Int32} (d : decode cc pc = .ok (.idiv, 1)) (k : G w X z (pc + 1) lv (.int (x / y) :: st) μ o) : G w X z pc lv (.int y :: .int x :: st) μ (dv y o) := G_idiv hX d k
theorem G_irm (hX : Fx w X cc nL own ret R) {x y : Int32} (d : decode cc pc = .ok (.irem, 1)) (k : G w X z (pc + 1) lv (.int (x - x / y * y) :: st) μ o) : G w X z pc lv (.int y :: .int x :: st) μ (dv y o) := G_irem hX d k
theorem G_ldv (hX : Fx w X cc nL own ret R) {x y : Int64} (d : decode cc pc = .ok (.ldiv, 1)) (k : G w X z (pc + 1) lv (.long (x / y) :: st) μ o) : G w X z pc lv (.long y :: .long x :: st) μ (dw y o) := G_ldiv hX d k
theorem G_lrm (hX : Fx w X cc nL own ret R) {x y : Int64} (d : decode cc pc = .ok (.lrem, 1)) (k : G w X z (pc + 1) lv (.long (x - x / y * y) :: st) μ o) : G w X z pc lv (.long y :: .long x :: st) μ (dw y o) := G_lrem hX d k
theorem G_ishl (hX : Fx w X cc nL own ret R) {x y : Int32} (d : decode cc pc = .ok (.ishl, 1)) (k : G w X z (pc + 1) lv (.int (x <<< (y &&& 31)) :: st) μ o) : G w X z pc lv (.int y :: .int x :: st) μ o := by
  intro h H locs ls hl hP hS
  exact lv_ishl hX.1 hX.2.1 d (k h H locs ls hl hP hS)
theorem G_ishr (hX : Fx w X cc nL own ret R) {x y : Int32} (d : decode cc pc = .ok (.ishr, 1)) (k : G w X z (pc + 1) lv (.int (x >>> (y &&& 31)) :: st) μ o) : G w X z pc lv (.int y :: .int x :: st) μ o := by
  intro h H locs ls hl hP hS
  exact lv_ishr hX.1 hX.2.1 d (k h H locs ls hl hP hS)
theorem G_mmax (hX : Fx w X cc nL own ret R) {x y : Int32} {index : Nat} (hlk : Cond.methodLink own index Lib.Math.max.name ∈ tb) (hs1 : Cond.static Lib.Math.max.name ∈ tb) (hi1 : Cond.initialized "java/lang/Math" ∈ tb) (hc1 : Cond.code Lib.Math.max.name Lib.Math.max.code 2 (some .int) ∈ tb) (hfr : 1 ≤ R.frames ∧ (st.map fun v => v.category).sum + 15 ≤ R.locals) (hcs : cx_cells X + 0 ≤ R.cells ∧ cx_slots X + 0 ≤ R.slots) (d : decode cc pc = .ok (.invokestatic index, 3)) (k : G w X z (pc + 3) lv (.int (mxI x y) :: st) μ o) : G w X z pc lv (.int y :: .int x :: st) μ o := by
  intro h H locs ls hl hP hS
  have eR := hX.2.2.2.2.2.2.2.2.2.2.2.1
  have eN := hX.2.2.2.2.2.2.2.2.2.2.2.2.1
  exact va_mmax hX.1 hX.2.1 (by rw [hX.2.2.1, ← eN]; exact hl.1.symm) hX.2.2.2.1 (hX.2.2.2.2.1 _ hlk) (hX.2.2.2.2.1 _ hs1) (hX.2.2.2.2.1 _ hi1) (hX.2.2.2.2.1 _ hc1) (by rw [eR]; exact hfr.1) (by rw [eR]; have := hfr.2; omega) (by rw [eR]; exact hcs.1) (by rw [eR]; exact hcs.2) d (k h H locs ls hl hP hS)
theorem G_mmin (hX : Fx w X cc nL own ret R) {x y : Int32} {index : Nat} (hlk : Cond.methodLink own index Lib.Math.min.name ∈ tb) (hs1 : Cond.static Lib.Math.min.name ∈ tb) (hi1 : Cond.initialized "java/lang/Math" ∈ tb) (hc1 : Cond.code Lib.Math.min.name Lib.Math.min.code 2 (some .int) ∈ tb) (hfr : 1 ≤ R.frames ∧ (st.map fun v => v.category).sum + 15 ≤ R.locals) (hcs : cx_cells X + 0 ≤ R.cells ∧ cx_slots X + 0 ≤ R.slots) (d : decode cc pc = .ok (.invokestatic index, 3)) (k : G w X z (pc + 3) lv (.int (mnI x y) :: st) μ o) : G w X z pc lv (.int y :: .int x :: st) μ o := by
  intro h H locs ls hl hP hS
  have eR := hX.2.2.2.2.2.2.2.2.2.2.2.1
  have eN := hX.2.2.2.2.2.2.2.2.2.2.2.2.1
  exact va_mmin hX.1 hX.2.1 (by rw [hX.2.2.1, ← eN]; exact hl.1.symm) hX.2.2.2.1 (hX.2.2.2.2.1 _ hlk) (hX.2.2.2.2.1 _ hs1) (hX.2.2.2.2.1 _ hi1) (hX.2.2.2.2.1 _ hc1) (by rw [eR]; exact hfr.1) (by rw [eR]; have := hfr.2; omega) (by rw [eR]; exact hcs.1) (by rw [eR]; exact hcs.2) d (k h H locs ls hl hP hS)
theorem G_mabs (hX : Fx w X cc nL own ret R) {x : Int32} {index : Nat} (hlk : Cond.methodLink own index Lib.Math.abs.name ∈ tb) (hs1 : Cond.static Lib.Math.abs.name ∈ tb) (hi1 : Cond.initialized "java/lang/Math" ∈ tb) (hc1 : Cond.code Lib.Math.abs.name Lib.Math.abs.code 1 (some .int) ∈ tb) (hfr : 1 ≤ R.frames ∧ (st.map fun v => v.category).sum + 15 ≤ R.locals) (hcs : cx_cells X + 0 ≤ R.cells ∧ cx_slots X + 0 ≤ R.slots) (d : decode cc pc = .ok (.invokestatic index, 3)) (k : G w X z (pc + 3) lv (.int (abI x) :: st) μ o) : G w X z pc lv (.int x :: st) μ o := by
  intro h H locs ls hl hP hS
  have eR := hX.2.2.2.2.2.2.2.2.2.2.2.1
  have eN := hX.2.2.2.2.2.2.2.2.2.2.2.2.1
  exact va_mabs hX.1 hX.2.1 (by rw [hX.2.2.1, ← eN]; exact hl.1.symm) hX.2.2.2.1 (hX.2.2.2.2.1 _ hlk) (hX.2.2.2.2.1 _ hs1) (hX.2.2.2.2.1 _ hi1) (hX.2.2.2.2.1 _ hc1) (by rw [eR]; exact hfr.1) (by rw [eR]; have := hfr.2; omega) (by rw [eR]; exact hcs.1) (by rw [eR]; exact hcs.2) d (k h H locs ls hl hP hS)
theorem G_mmaxL (hX : Fx w X cc nL own ret R) {x y : Int64} {index : Nat} (hlk : Cond.methodLink own index Lib.MathLoose.max_long.x ∈ tb) (hs1 : Cond.static Lib.MathLoose.max_long.x ∈ tb) (hi1 : Cond.initialized "java/lang/Math" ∈ tb) (hc1 : Cond.code Lib.MathLoose.max_long.x Lib.MathLoose.max_long.code 4 (some .long) ∈ tb) (hfr : 1 ≤ R.frames ∧ (st.map fun v => v.category).sum + 15 ≤ R.locals) (hcs : cx_cells X + 0 ≤ R.cells ∧ cx_slots X + 0 ≤ R.slots) (d : decode cc pc = .ok (.invokestatic index, 3)) (k : G w X z (pc + 3) lv (.long (mxL x y) :: st) μ o) : G w X z pc lv (.long y :: .long x :: st) μ o := by
  intro h H locs ls hl hP hS
  have eR := hX.2.2.2.2.2.2.2.2.2.2.2.1
  have eN := hX.2.2.2.2.2.2.2.2.2.2.2.2.1
  exact va_mmax_long hX.1 hX.2.1 (by rw [hX.2.2.1, ← eN]; exact hl.1.symm) hX.2.2.2.1 (hX.2.2.2.2.1 _ hlk) (hX.2.2.2.2.1 _ hs1) (hX.2.2.2.2.1 _ hi1) (hX.2.2.2.2.1 _ hc1) (by rw [eR]; exact hfr.1) (by rw [eR]; have := hfr.2; omega) (by rw [eR]; exact hcs.1) (by rw [eR]; exact hcs.2) d (k h H locs ls hl hP hS)
theorem G_mminL (hX : Fx w X cc nL own ret R) {x y : Int64} {index : Nat} (hlk : Cond.methodLink own index Lib.MathLoose.min_long.x ∈ tb) (hs1 : Cond.static Lib.MathLoose.min_long.x ∈ tb) (hi1 : Cond.initialized "java/lang/Math" ∈ tb) (hc1 : Cond.code Lib.MathLoose.min_long.x Lib.MathLoose.min_long.code 4 (some .long) ∈ tb) (hfr : 1 ≤ R.frames ∧ (st.map fun v => v.category).sum + 15 ≤ R.locals) (hcs : cx_cells X + 0 ≤ R.cells ∧ cx_slots X + 0 ≤ R.slots) (d : decode cc pc = .ok (.invokestatic index, 3)) (k : G w X z (pc + 3) lv (.long (mnL x y) :: st) μ o) : G w X z pc lv (.long y :: .long x :: st) μ o := by
  intro h H locs ls hl hP hS
  have eR := hX.2.2.2.2.2.2.2.2.2.2.2.1
  have eN := hX.2.2.2.2.2.2.2.2.2.2.2.2.1
  exact va_mmin_long hX.1 hX.2.1 (by rw [hX.2.2.1, ← eN]; exact hl.1.symm) hX.2.2.2.1 (hX.2.2.2.2.1 _ hlk) (hX.2.2.2.2.1 _ hs1) (hX.2.2.2.2.1 _ hi1) (hX.2.2.2.2.1 _ hc1) (by rw [eR]; exact hfr.1) (by rw [eR]; have := hfr.2; omega) (by rw [eR]; exact hcs.1) (by rw [eR]; exact hcs.2) d (k h H locs ls hl hP hS)
end
