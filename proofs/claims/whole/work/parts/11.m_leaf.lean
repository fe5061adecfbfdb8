/-! ===== DutyCase$Names.isAt(I[BI)Z ===== -/
set_option maxHeartbeats 4000000 in
set_option maxRecDepth 100000 in
theorem gX4_isAt_3 {X : Ctx} {z : Int32 × Mem} (hX : Fx wC X cX4_isAt 5 RX4 (some .boolean) (rmo 0 0)) (hQ : Qx_i wC X z) (hcs : cx_cells X = 0 ∧ cx_slots X = 0) (N : Nat) : ∀ (n : Nat) (b0 : Nat) (v1 : Int32) (v3 : Int32) (v4 : Int32) (hb0 : kN b0) (μ : Mem), G wC X z 3 [(0, .ref (cx_ad X b0)), (1, .int v1), (2, .ref (cx_ad X 7)), (3, .int v3), (4, .int v4)] [] μ (fX4_isAt_3 N n b0 v1 v3 v4 μ) := by
  intro n
  induction n with
  | zero =>
    intro b0 v1 v3 v4 hb0 μ
    exact G_none
  | succ n ih =>
    intro b0 v1 v3 v4 hb0 μ
    unfold fX4_isAt_3
    refine G_iload hX 4 rfl dX4_isAt_3 ?_
    refine G_aload_n hX 0 rfl rfl dX4_isAt_5 ?_
    refine gf_X4_15_N0 hX hb0 dX4_isAt_6 ?_
    refine G_iload_n hX 1 rfl rfl dX4_isAt_9 ?_
    refine G_aI hX (atN_2 hb0) dX4_isAt_10 (fun x1 => ?_)
    refine G_icmp_ge hX 43 (by decide) dX4_isAt_11 ?_ ?_
    · refine G_iconst hX (1 : Int32) rfl dX4_isAt_43 ?_
      exact G_zret hX hQ rfl dX4_isAt_44
    · refine G_aload_n hX 0 rfl rfl dX4_isAt_14 ?_
      refine gf_X4_9_N0 hX hb0 dX4_isAt_15 ?_
      refine G_iload_n hX 1 rfl rfl dX4_isAt_18 ?_
      refine G_bipush hX (6 : Int32) rfl dX4_isAt_19 ?_
      refine G_imul hX dX4_isAt_21 ?_
      refine G_iload hX 4 rfl dX4_isAt_22 ?_
      refine G_iadd hX dX4_isAt_24 ?_
      refine G_aB hX (atN_1 hb0) dX4_isAt_25 (fun x2 => ?_)
      refine G_aload_n hX 2 rfl rfl dX4_isAt_26 ?_
      refine G_iload_n hX 3 rfl rfl dX4_isAt_27 ?_
      refine G_iload hX 4 rfl dX4_isAt_28 ?_
      refine G_iadd hX dX4_isAt_30 ?_
      refine G_aB hX atC7 dX4_isAt_31 (fun x3 => ?_)
      refine G_icmp_eq hX 37 (by decide) dX4_isAt_32 ?_ ?_
      · refine G_iincN hX 4 (fun x4 => [(4, .int x4), (0, .ref (cx_ad X b0)), (1, .int v1), (2, .ref (cx_ad X 7)), (3, .int v3)]) rfl rfl (by decide) (fun _ => rfl) dX4_isAt_37 (fun x4 => ?_)
        refine G_goto hX 3 (by decide) dX4_isAt_40 ?_
        exact G_sub [1, 2, 3, 4, 0] rfl (ih b0 v1 v3 x4 hb0 μ)
      · refine G_iconst hX (0 : Int32) rfl dX4_isAt_35 ?_
        exact G_zret hX hQ rfl dX4_isAt_36
set_option maxHeartbeats 4000000 in
set_option maxRecDepth 100000 in
theorem gX4_isAt_E {X : Ctx} {z : Int32 × Mem} (hX : Fx wC X cX4_isAt 5 RX4 (some .boolean) (rmo 0 0)) (hQ : Qx_i wC X z) (hcs : cx_cells X = 0 ∧ cx_slots X = 0) (N : Nat) (t0 : Nat) (p0 : Int32) (p2 : Int32) (μ : Mem) : G wC X z 0 [(0, .ref (cx_ad X t0)), (1, .int p0), (2, .ref (cx_ad X 7)), (3, .int p2)] [] μ (fX4_isAt N t0 p0 p2 μ) := by
  unfold fX4_isAt
  refine G_guard (fun ht0 => ?_)
  refine G_iconst hX (0 : Int32) rfl dX4_isAt_0 ?_
  refine G_istore hX [(4, .int (0 : Int32)), (0, .ref (cx_ad X t0)), (1, .int p0), (2, .ref (cx_ad X 7)), (3, .int p2)] (by decide) rfl dX4_isAt_1 ?_
  exact G_sub [1, 2, 3, 4, 0] rfl (gX4_isAt_3 hX hQ hcs N N t0 p0 p2 (0 : Int32) ht0 μ)
theorem cX4_isAt_ok (l : Launch) (N : Nat) (t0 : Nat) (p0 : Int32) (p2 : Int32) (μ : Mem) (z : Int32 × Mem) (h : fX4_isAt N t0 p0 p2 μ = some z) : Mi wC l yX4_isAt cX4_isAt 5 .boolean (rmo 0 0) (fun ad adK => [.ref (ad t0), .int p0, .ref (ad 7), .int p2]) μ z := Mi.of h (by decide +kernel) (fun _ _ => Nat.le_of_ble_eq_true rfl) (fun X hX hQ hl hcs => gX4_isAt_E hX hQ hcs N t0 p0 p2 μ)
/-! ===== DutyCase$Names.find([BII)I ===== -/
set_option maxHeartbeats 4000000 in
set_option maxRecDepth 100000 in
theorem gX4_find_3 {X : Ctx} {z : Int32 × Mem} (hX : Fx wC X cX4_find 5 RX4 (some .int) (rmo 1 24)) (hQ : Qx_i wC X z) (hcs : cx_cells X = 0 ∧ cx_slots X = 0) (N : Nat) : ∀ (n : Nat) (b0 : Nat) (v2 : Int32) (v3 : Int32) (v4 : Int32) (hb0 : kN b0) (μ : Mem), G wC X z 3 [(0, .ref (cx_ad X b0)), (1, .ref (cx_ad X 7)), (2, .int v2), (3, .int v3), (4, .int v4)] [] μ (fX4_find_3 N n b0 v2 v3 v4 μ) := by
  intro n
  induction n with
  | zero =>
    intro b0 v2 v3 v4 hb0 μ
    exact G_none
  | succ n ih =>
    intro b0 v2 v3 v4 hb0 μ
    unfold fX4_find_3
    refine G_iload hX 4 rfl dX4_find_3 ?_
    refine G_aload_n hX 0 rfl rfl dX4_find_5 ?_
    refine gf_X4_19_N0 hX hb0 dX4_find_6 ?_
    refine G_nmi (fun x1 => ?_)
    refine G_icmp_ge hX 45 (by decide) dX4_find_9 ?_ ?_
    · refine G_iconst hX (-1 : Int32) rfl dX4_find_45 ?_
      exact G_iret hX hQ dX4_find_46
    · refine G_aload_n hX 0 rfl rfl dX4_find_12 ?_
      refine gf_X4_15_N0 hX hb0 dX4_find_13 ?_
      refine G_iload hX 4 rfl dX4_find_16 ?_
      refine G_aI hX (atN_2 hb0) dX4_find_18 (fun x2 => ?_)
      refine G_iload_n hX 3 rfl rfl dX4_find_19 ?_
      refine G_iload_n hX 2 rfl rfl dX4_find_20 ?_
      refine G_isub hX dX4_find_21 ?_
      refine G_icmp_ne hX 39 (by decide) dX4_find_22 ?_ ?_
      · refine G_iincN hX 4 (fun x3 => [(4, .int x3), (0, .ref (cx_ad X b0)), (1, .ref (cx_ad X 7)), (2, .int v2), (3, .int v3)]) rfl rfl (by decide) (fun _ => rfl) dX4_find_39 (fun x3 => ?_)
        refine G_goto hX 3 (by decide) dX4_find_42 ?_
        exact G_sub [1, 2, 3, 4, 0] rfl (ih b0 v2 v3 x3 hb0 μ)
      · refine G_aload_n hX 0 rfl rfl dX4_find_25 ?_
        refine G_iload hX 4 rfl dX4_find_26 ?_
        refine G_aload_n hX 1 rfl rfl dX4_find_28 ?_
        refine G_iload_n hX 2 rfl rfl dX4_find_29 ?_
        refine G_cVi hX b0 4 (fun ad adK => [.int v4, .ref (ad 7), .int v2]) [] (fun z2 h2 => cX4_isAt_ok (cx_l X) N b0 v4 v2 μ z2 h2) ok_X4_isAt lm_X4_23 (atN_0 hb0).1 (atN_0 hb0).2 rfl rfl (fun _ _ => rfl) (Nat.le_of_ble_eq_true rfl) ⟨rfl, rfl, by decide, by decide⟩ (cs0 hcs) dX4_find_30 (fun r4 μ => ?_)
        refine G_if_eq hX 39 (by decide) dX4_find_33 ?_ ?_
        · refine G_iincN hX 4 (fun x5 => [(4, .int x5), (0, .ref (cx_ad X b0)), (1, .ref (cx_ad X 7)), (2, .int v2), (3, .int v3)]) rfl rfl (by decide) (fun _ => rfl) dX4_find_39 (fun x5 => ?_)
          refine G_goto hX 3 (by decide) dX4_find_42 ?_
          exact G_sub [1, 2, 3, 4, 0] rfl (ih b0 v2 v3 x5 hb0 μ)
        · refine G_iload hX 4 rfl dX4_find_36 ?_
          exact G_iret hX hQ dX4_find_38
set_option maxHeartbeats 4000000 in
set_option maxRecDepth 100000 in
theorem gX4_find_E {X : Ctx} {z : Int32 × Mem} (hX : Fx wC X cX4_find 5 RX4 (some .int) (rmo 1 24)) (hQ : Qx_i wC X z) (hcs : cx_cells X = 0 ∧ cx_slots X = 0) (N : Nat) (t0 : Nat) (p1 : Int32) (p2 : Int32) (μ : Mem) : G wC X z 0 [(0, .ref (cx_ad X t0)), (1, .ref (cx_ad X 7)), (2, .int p1), (3, .int p2)] [] μ (fX4_find N t0 p1 p2 μ) := by
  unfold fX4_find
  refine G_guard (fun ht0 => ?_)
  refine G_iconst hX (0 : Int32) rfl dX4_find_0 ?_
  refine G_istore hX [(4, .int (0 : Int32)), (0, .ref (cx_ad X t0)), (1, .ref (cx_ad X 7)), (2, .int p1), (3, .int p2)] (by decide) rfl dX4_find_1 ?_
  exact G_sub [1, 2, 3, 4, 0] rfl (gX4_find_3 hX hQ hcs N N t0 p1 p2 (0 : Int32) ht0 μ)
theorem cX4_find_ok (l : Launch) (N : Nat) (t0 : Nat) (p1 : Int32) (p2 : Int32) (μ : Mem) (z : Int32 × Mem) (h : fX4_find N t0 p1 p2 μ = some z) : Mi wC l yX4_find cX4_find 5 .int (rmo 1 24) (fun ad adK => [.ref (ad t0), .ref (ad 7), .int p1, .int p2]) μ z := Mi.of h (by decide +kernel) (fun _ _ => Nat.le_of_ble_eq_true rfl) (fun X hX hQ hl hcs => gX4_find_E hX hQ hcs N t0 p1 p2 μ)
/-! ===== DutyCase$Names.add([BII)V ===== -/
set_option maxHeartbeats 4000000 in
set_option maxRecDepth 100000 in
theorem gX4_add_56 {X : Ctx} {z : Unit × Mem} (hX : Fx wC X cX4_add 5 RX4 none (rmo 0 0)) (hQ : Qx_v wC X z) (hcs : cx_cells X = 0 ∧ cx_slots X = 0) (N : Nat) (b0 : Nat) (v2 : Int32) (v3 : Int32) (hb0 : kN b0) (μ : Mem) : G wC X z 56 [(0, .ref (cx_ad X b0)), (2, .int v2), (3, .int v3)] [] μ (fX4_add_56 N b0 v2 v3 μ) := by
  unfold fX4_add_56
  refine G_aload_n hX 0 rfl rfl dX4_add_56 ?_
  refine gf_X4_15_N0 hX hb0 dX4_add_57 ?_
  refine G_aload_n hX 0 rfl rfl dX4_add_60 ?_
  refine gf_X4_19_N0 hX hb0 dX4_add_61 ?_
  refine G_nmi (fun x5 => ?_)
  refine G_iload_n hX 2 rfl rfl dX4_add_64 ?_
  refine G_iload_n hX 1 rfl rfl dX4_add_65 ?_
  refine G_isub hX dX4_add_66 ?_
  refine G_sI hX (atN_2 hb0) dX4_add_67 (fun μ => ?_)
  refine G_aload_n hX 0 rfl rfl dX4_add_68 ?_
  refine G_dup hX rfl dX4_add_69 ?_
  refine gf_X4_19_N0 hX hb0 dX4_add_70 ?_
  refine G_nmi (fun x6 => ?_)
  refine G_iconst hX (1 : Int32) rfl dX4_add_73 ?_
  refine G_iadd hX dX4_add_74 ?_
  refine G_nmi (fun x7 => ?_)
  refine pf_X4_19_N0 hX hb0 dX4_add_75 (fun μ => ?_)
  exact G_vret hX hQ dX4_add_78
set_option maxHeartbeats 4000000 in
set_option maxRecDepth 100000 in
theorem gX4_add_21 {X : Ctx} {z : Unit × Mem} (hX : Fx wC X cX4_add 5 RX4 none (rmo 0 0)) (hQ : Qx_v wC X z) (hcs : cx_cells X = 0 ∧ cx_slots X = 0) (N : Nat) : ∀ (n : Nat) (b0 : Nat) (v2 : Int32) (v3 : Int32) (v4 : Int32) (hb0 : kN b0) (μ : Mem), G wC X z 21 [(0, .ref (cx_ad X b0)), (1, .ref (cx_ad X 7)), (2, .int v2), (3, .int v3), (4, .int v4)] [] μ (fX4_add_21 N n b0 v2 v3 v4 μ) := by
  intro n
  induction n with
  | zero =>
    intro b0 v2 v3 v4 hb0 μ
    exact G_none
  | succ n ih =>
    intro b0 v2 v3 v4 hb0 μ
    unfold fX4_add_21
    refine G_iload hX 4 rfl dX4_add_21 ?_
    refine G_iload_n hX 3 rfl rfl dX4_add_23 ?_
    refine G_iload_n hX 2 rfl rfl dX4_add_24 ?_
    refine G_isub hX dX4_add_25 ?_
    refine G_icmp_ge hX 56 (by decide) dX4_add_26 ?_ ?_
    · exact G_sub [0, 2, 3] rfl (gX4_add_56 hX hQ hcs N b0 v2 v3 hb0 μ)
    · refine G_aload_n hX 0 rfl rfl dX4_add_29 ?_
      refine gf_X4_9_N0 hX hb0 dX4_add_30 ?_
      refine G_aload_n hX 0 rfl rfl dX4_add_33 ?_
      refine gf_X4_19_N0 hX hb0 dX4_add_34 ?_
      refine G_nmi (fun x2 => ?_)
      refine G_bipush hX (6 : Int32) rfl dX4_add_37 ?_
      refine G_imul hX dX4_add_39 ?_
      refine G_iload hX 4 rfl dX4_add_40 ?_
      refine G_iadd hX dX4_add_42 ?_
      refine G_aload_n hX 1 rfl rfl dX4_add_43 ?_
      refine G_iload_n hX 2 rfl rfl dX4_add_44 ?_
      refine G_iload hX 4 rfl dX4_add_45 ?_
      refine G_iadd hX dX4_add_47 ?_
      refine G_aB hX atC7 dX4_add_48 (fun x3 => ?_)
      refine G_sB hX (atN_1 hb0) dX4_add_49 (fun μ => ?_)
      refine G_iincN hX 4 (fun x4 => [(4, .int x4), (0, .ref (cx_ad X b0)), (1, .ref (cx_ad X 7)), (2, .int v2), (3, .int v3)]) rfl rfl (by decide) (fun _ => rfl) dX4_add_50 (fun x4 => ?_)
      refine G_goto hX 21 (by decide) dX4_add_53 ?_
      exact G_sub [1, 2, 3, 4, 0] rfl (ih b0 v2 v3 x4 hb0 μ)
set_option maxHeartbeats 4000000 in
set_option maxRecDepth 100000 in
theorem gX4_add_E {X : Ctx} {z : Unit × Mem} (hX : Fx wC X cX4_add 5 RX4 none (rmo 0 0)) (hQ : Qx_v wC X z) (hcs : cx_cells X = 0 ∧ cx_slots X = 0) (N : Nat) (t0 : Nat) (p1 : Int32) (p2 : Int32) (μ : Mem) : G wC X z 0 [(0, .ref (cx_ad X t0)), (1, .ref (cx_ad X 7)), (2, .int p1), (3, .int p2)] [] μ (fX4_add N t0 p1 p2 μ) := by
  unfold fX4_add
  refine G_guard (fun ht0 => ?_)
  refine G_aload_n hX 0 rfl rfl dX4_add_0 ?_
  refine gf_X4_19_N0 hX ht0 dX4_add_1 ?_
  refine G_nmi (fun x1 => ?_)
  refine G_bipush hX (6 : Int32) rfl dX4_add_4 ?_
  refine G_icmp_ge hX 17 (by decide) dX4_add_6 ?_ ?_
  · exact G_vret hX hQ dX4_add_17
  · refine G_iload_n hX 3 rfl rfl dX4_add_9 ?_
    refine G_iload_n hX 2 rfl rfl dX4_add_10 ?_
    refine G_isub hX dX4_add_11 ?_
    refine G_bipush hX (6 : Int32) rfl dX4_add_12 ?_
    refine G_icmp_le hX 18 (by decide) dX4_add_14 ?_ ?_
    · refine G_iconst hX (0 : Int32) rfl dX4_add_18 ?_
      refine G_istore hX [(4, .int (0 : Int32)), (0, .ref (cx_ad X t0)), (1, .ref (cx_ad X 7)), (2, .int p1), (3, .int p2)] (by decide) rfl dX4_add_19 ?_
      exact G_sub [1, 2, 3, 4, 0] rfl (gX4_add_21 hX hQ hcs N N t0 p1 p2 (0 : Int32) ht0 μ)
    · exact G_vret hX hQ dX4_add_17
theorem cX4_add_ok (l : Launch) (N : Nat) (t0 : Nat) (p1 : Int32) (p2 : Int32) (μ : Mem) (z : Unit × Mem) (h : fX4_add N t0 p1 p2 μ = some z) : Mv wC l yX4_add cX4_add 5 (rmo 0 0) (fun ad adK => [.ref (ad t0), .ref (ad 7), .int p1, .int p2]) μ z := Mv.of h (by decide +kernel) (fun _ _ => Nat.le_of_ble_eq_true rfl) (fun X hX hQ hl hcs => gX4_add_E hX hQ hcs N t0 p1 p2 μ)
/-! ===== DutyCase$Names.letterAt(II)I ===== -/
set_option maxHeartbeats 4000000 in
set_option maxRecDepth 100000 in
theorem gX4_letterAt_E {X : Ctx} {z : Int32 × Mem} (hX : Fx wC X cX4_letterAt 3 RX4 (some .int) (rmo 0 0)) (hQ : Qx_i wC X z) (hcs : cx_cells X = 0 ∧ cx_slots X = 0) (N : Nat) (t0 : Nat) (p0 : Int32) (p1 : Int32) (μ : Mem) : G wC X z 0 [(0, .ref (cx_ad X t0)), (1, .int p0), (2, .int p1)] [] μ (fX4_letterAt N t0 p0 p1 μ) := by
  unfold fX4_letterAt
  refine G_guard (fun ht0 => ?_)
  refine G_iload_n hX 2 rfl rfl dX4_letterAt_0 ?_
  refine G_if_lt hX 14 (by decide) dX4_letterAt_1 ?_ ?_
  · refine G_iconst hX (-1 : Int32) rfl dX4_letterAt_14 ?_
    refine G_goto hX 29 (by decide) dX4_letterAt_15 ?_
    exact G_iret hX hQ dX4_letterAt_29
  · refine G_iload_n hX 2 rfl rfl dX4_letterAt_4 ?_
    refine G_aload_n hX 0 rfl rfl dX4_letterAt_5 ?_
    refine gf_X4_15_N0 hX ht0 dX4_letterAt_6 ?_
    refine G_iload_n hX 1 rfl rfl dX4_letterAt_9 ?_
    refine G_aI hX (atN_2 ht0) dX4_letterAt_10 (fun x1 => ?_)
    refine G_icmp_lt hX 18 (by decide) dX4_letterAt_11 ?_ ?_
    · refine G_aload_n hX 0 rfl rfl dX4_letterAt_18 ?_
      refine gf_X4_9_N0 hX ht0 dX4_letterAt_19 ?_
      refine G_iload_n hX 1 rfl rfl dX4_letterAt_22 ?_
      refine G_bipush hX (6 : Int32) rfl dX4_letterAt_23 ?_
      refine G_imul hX dX4_letterAt_25 ?_
      refine G_iload_n hX 2 rfl rfl dX4_letterAt_26 ?_
      refine G_iadd hX dX4_letterAt_27 ?_
      refine G_aB hX (atN_1 ht0) dX4_letterAt_28 (fun x2 => ?_)
      exact G_iret hX hQ dX4_letterAt_29
    · refine G_iconst hX (-1 : Int32) rfl dX4_letterAt_14 ?_
      refine G_goto hX 29 (by decide) dX4_letterAt_15 ?_
      exact G_iret hX hQ dX4_letterAt_29
theorem cX4_letterAt_ok (l : Launch) (N : Nat) (t0 : Nat) (p0 : Int32) (p1 : Int32) (μ : Mem) (z : Int32 × Mem) (h : fX4_letterAt N t0 p0 p1 μ = some z) : Mi wC l yX4_letterAt cX4_letterAt 3 .int (rmo 0 0) (fun ad adK => [.ref (ad t0), .int p0, .int p1]) μ z := Mi.of h (by decide +kernel) (fun _ _ => Nat.le_of_ble_eq_true rfl) (fun X hX hQ hl hcs => gX4_letterAt_E hX hQ hcs N t0 p0 p1 μ)
/-! ===== DutyCase$Sales.add(IIIIIII)V ===== -/
set_option maxHeartbeats 4000000 in
set_option maxRecDepth 100000 in
theorem gX7_add_E {X : Ctx} {z : Unit × Mem} (hX : Fx wC X cX7_add 8 RX7 none (rmo 0 0)) (hQ : Qx_v wC X z) (hcs : cx_cells X = 0 ∧ cx_slots X = 0) (N : Nat) (t0 : Nat) (p0 : Int32) (p1 : Int32) (p2 : Int32) (p3 : Int32) (p4 : Int32) (p5 : Int32) (p6 : Int32) (μ : Mem) : G wC X z 0 [(0, .ref (cx_ad X t0)), (1, .int p0), (2, .int p1), (3, .int p2), (4, .int p3), (5, .int p4), (6, .int p5), (7, .int p6)] [] μ (fX7_add N t0 p0 p1 p2 p3 p4 p5 p6 μ) := by
  unfold fX7_add
  refine G_guard (fun ht0 => ?_)
  refine G_aload_n hX 0 rfl rfl dX7_add_0 ?_
  refine gf_X7_43_S0 hX ht0 dX7_add_1 ?_
  refine G_nmi (fun x1 => ?_)
  refine G_bipush hX (40 : Int32) rfl dX7_add_4 ?_
  refine G_icmp_lt hX 10 (by decide) dX7_add_6 ?_ ?_
  · refine G_aload_n hX 0 rfl rfl dX7_add_10 ?_
    refine gf_X7_9_S0 hX ht0 dX7_add_11 ?_
    refine G_aload_n hX 0 rfl rfl dX7_add_14 ?_
    refine gf_X7_43_S0 hX ht0 dX7_add_15 ?_
    refine G_nmi (fun x2 => ?_)
    refine G_iload_n hX 1 rfl rfl dX7_add_18 ?_
    refine G_sI hX (atS_1 ht0) dX7_add_19 (fun μ => ?_)
    refine G_aload_n hX 0 rfl rfl dX7_add_20 ?_
    refine gf_X7_15_S0 hX ht0 dX7_add_21 ?_
    refine G_aload_n hX 0 rfl rfl dX7_add_24 ?_
    refine gf_X7_43_S0 hX ht0 dX7_add_25 ?_
    refine G_nmi (fun x3 => ?_)
    refine G_iload_n hX 2 rfl rfl dX7_add_28 ?_
    refine G_sI hX (atS_2 ht0) dX7_add_29 (fun μ => ?_)
    refine G_aload_n hX 0 rfl rfl dX7_add_30 ?_
    refine gf_X7_18_S0 hX ht0 dX7_add_31 ?_
    refine G_aload_n hX 0 rfl rfl dX7_add_34 ?_
    refine gf_X7_43_S0 hX ht0 dX7_add_35 ?_
    refine G_nmi (fun x4 => ?_)
    refine G_iload_n hX 3 rfl rfl dX7_add_38 ?_
    refine G_sI hX (atS_3 ht0) dX7_add_39 (fun μ => ?_)
    refine G_aload_n hX 0 rfl rfl dX7_add_40 ?_
    refine gf_X7_21_S0 hX ht0 dX7_add_41 ?_
    refine G_aload_n hX 0 rfl rfl dX7_add_44 ?_
    refine gf_X7_43_S0 hX ht0 dX7_add_45 ?_
    refine G_nmi (fun x5 => ?_)
    refine G_iload hX 4 rfl dX7_add_48 ?_
    refine G_sI hX (atS_4 ht0) dX7_add_50 (fun μ => ?_)
    refine G_aload_n hX 0 rfl rfl dX7_add_51 ?_
    refine gf_X7_24_S0 hX ht0 dX7_add_52 ?_
    refine G_aload_n hX 0 rfl rfl dX7_add_55 ?_
    refine gf_X7_43_S0 hX ht0 dX7_add_56 ?_
    refine G_nmi (fun x6 => ?_)
    refine G_iload hX 5 rfl dX7_add_59 ?_
    refine G_sI hX (atS_5 ht0) dX7_add_61 (fun μ => ?_)
    refine G_aload_n hX 0 rfl rfl dX7_add_62 ?_
    refine gf_X7_27_S0 hX ht0 dX7_add_63 ?_
    refine G_aload_n hX 0 rfl rfl dX7_add_66 ?_
    refine gf_X7_43_S0 hX ht0 dX7_add_67 ?_
    refine G_nmi (fun x7 => ?_)
    refine G_iload hX 6 rfl dX7_add_70 ?_
    refine G_sI hX (atS_6 ht0) dX7_add_72 (fun μ => ?_)
    refine G_aload_n hX 0 rfl rfl dX7_add_73 ?_
    refine gf_X7_30_S0 hX ht0 dX7_add_74 ?_
    refine G_aload_n hX 0 rfl rfl dX7_add_77 ?_
    refine gf_X7_43_S0 hX ht0 dX7_add_78 ?_
    refine G_nmi (fun x8 => ?_)
    refine G_iload hX 7 rfl dX7_add_81 ?_
    refine G_sI hX (atS_7 ht0) dX7_add_83 (fun μ => ?_)
    refine G_aload_n hX 0 rfl rfl dX7_add_84 ?_
    refine gf_X7_39_S0 hX ht0 dX7_add_85 ?_
    refine G_aload_n hX 0 rfl rfl dX7_add_88 ?_
    refine gf_X7_43_S0 hX ht0 dX7_add_89 ?_
    refine G_nmi (fun x9 => ?_)
    refine G_iconst hX (1 : Int32) rfl dX7_add_92 ?_
    refine G_sZ hX (atS_10 ht0) dX7_add_93 (fun μ => ?_)
    refine G_aload_n hX 0 rfl rfl dX7_add_94 ?_
    refine G_dup hX rfl dX7_add_95 ?_
    refine gf_X7_43_S0 hX ht0 dX7_add_96 ?_
    refine G_nmi (fun x10 => ?_)
    refine G_iconst hX (1 : Int32) rfl dX7_add_99 ?_
    refine G_iadd hX dX7_add_100 ?_
    refine G_nmi (fun x11 => ?_)
    refine pf_X7_43_S0 hX ht0 dX7_add_101 (fun μ => ?_)
    exact G_vret hX hQ dX7_add_104
  · exact G_vret hX hQ dX7_add_9
theorem cX7_add_ok (l : Launch) (N : Nat) (t0 : Nat) (p0 : Int32) (p1 : Int32) (p2 : Int32) (p3 : Int32) (p4 : Int32) (p5 : Int32) (p6 : Int32) (μ : Mem) (z : Unit × Mem) (h : fX7_add N t0 p0 p1 p2 p3 p4 p5 p6 μ = some z) : Mv wC l yX7_add cX7_add 8 (rmo 0 0) (fun ad adK => [.ref (ad t0), .int p0, .int p1, .int p2, .int p3, .int p4, .int p5, .int p6]) μ z := Mv.of h (by decide +kernel) (fun _ _ => Nat.le_of_ble_eq_true rfl) (fun X hX hQ hl hcs => gX7_add_E hX hQ hcs N t0 p0 p1 p2 p3 p4 p5 p6 μ)
/-! ===== DutyCase$Sales.isOf(III)Z ===== -/
set_option maxHeartbeats 4000000 in
set_option maxRecDepth 100000 in
theorem gX7_isOf_E {X : Ctx} {z : Int32 × Mem} (hX : Fx wC X cX7_isOf 4 RX7 (some .boolean) (rmo 0 0)) (hQ : Qx_i wC X z) (hcs : cx_cells X = 0 ∧ cx_slots X = 0) (N : Nat) (t0 : Nat) (p0 : Int32) (p1 : Int32) (p2 : Int32) (μ : Mem) : G wC X z 0 [(0, .ref (cx_ad X t0)), (1, .int p0), (2, .int p1), (3, .int p2)] [] μ (fX7_isOf N t0 p0 p1 p2 μ) := by
  unfold fX7_isOf
  refine G_guard (fun ht0 => ?_)
  refine G_aload_n hX 0 rfl rfl dX7_isOf_0 ?_
  refine gf_X7_39_S0 hX ht0 dX7_isOf_1 ?_
  refine G_iload_n hX 1 rfl rfl dX7_isOf_4 ?_
  refine G_aZ hX (atS_10 ht0) dX7_isOf_5 (fun x1 => ?_)
  refine G_if_eq hX 33 (by decide) dX7_isOf_6 ?_ ?_
  · refine G_iconst hX (0 : Int32) rfl dX7_isOf_33 ?_
    exact G_zret hX hQ rfl dX7_isOf_34
  · refine G_aload_n hX 0 rfl rfl dX7_isOf_9 ?_
    refine gf_X7_15_S0 hX ht0 dX7_isOf_10 ?_
    refine G_iload_n hX 1 rfl rfl dX7_isOf_13 ?_
    refine G_aI hX (atS_2 ht0) dX7_isOf_14 (fun x2 => ?_)
    refine G_iload_n hX 2 rfl rfl dX7_isOf_15 ?_
    refine G_icmp_ne hX 33 (by decide) dX7_isOf_16 ?_ ?_
    · refine G_iconst hX (0 : Int32) rfl dX7_isOf_33 ?_
      exact G_zret hX hQ rfl dX7_isOf_34
    · refine G_aload_n hX 0 rfl rfl dX7_isOf_19 ?_
      refine gf_X7_9_S0 hX ht0 dX7_isOf_20 ?_
      refine G_iload_n hX 1 rfl rfl dX7_isOf_23 ?_
      refine G_aI hX (atS_1 ht0) dX7_isOf_24 (fun x3 => ?_)
      refine G_iload_n hX 3 rfl rfl dX7_isOf_25 ?_
      refine G_icmp_ne hX 33 (by decide) dX7_isOf_26 ?_ ?_
      · refine G_iconst hX (0 : Int32) rfl dX7_isOf_33 ?_
        exact G_zret hX hQ rfl dX7_isOf_34
      · refine G_iconst hX (1 : Int32) rfl dX7_isOf_29 ?_
        refine G_goto hX 34 (by decide) dX7_isOf_30 ?_
        exact G_zret hX hQ rfl dX7_isOf_34
theorem cX7_isOf_ok (l : Launch) (N : Nat) (t0 : Nat) (p0 : Int32) (p1 : Int32) (p2 : Int32) (μ : Mem) (z : Int32 × Mem) (h : fX7_isOf N t0 p0 p1 p2 μ = some z) : Mi wC l yX7_isOf cX7_isOf 4 .boolean (rmo 0 0) (fun ad adK => [.ref (ad t0), .int p0, .int p1, .int p2]) μ z := Mi.of h (by decide +kernel) (fun _ _ => Nat.le_of_ble_eq_true rfl) (fun X hX hQ hl hcs => gX7_isOf_E hX hQ hcs N t0 p0 p1 p2 μ)
/-! ===== DutyCase$Sales.valueAt(I)J ===== -/
set_option maxHeartbeats 4000000 in
set_option maxRecDepth 100000 in
theorem gX7_valueAt_E {X : Ctx} {z : Int64 × Mem} (hX : Fx wC X cX7_valueAt 2 RX7 (some .long) (rmo 0 0)) (hQ : Qx_l wC X z) (hcs : cx_cells X = 0 ∧ cx_slots X = 0) (N : Nat) (t0 : Nat) (p0 : Int32) (μ : Mem) : G wC X z 0 [(0, .ref (cx_ad X t0)), (1, .int p0)] [] μ (fX7_valueAt N t0 p0 μ) := by
  unfold fX7_valueAt
  refine G_guard (fun ht0 => ?_)
  refine G_ldc2 hX lc_X7_47 dX7_valueAt_0 ?_
  refine G_aload_n hX 0 rfl rfl dX7_valueAt_3 ?_
  refine gf_X7_36_S0 hX ht0 dX7_valueAt_4 ?_
  refine G_iload_n hX 1 rfl rfl dX7_valueAt_7 ?_
  refine G_aI hX (atS_9 ht0) dX7_valueAt_8 (fun x1 => ?_)
  refine G_i2l hX dX7_valueAt_9 ?_
  refine G_lmul hX dX7_valueAt_10 ?_
  refine G_aload_n hX 0 rfl rfl dX7_valueAt_11 ?_
  refine gf_X7_27_S0 hX ht0 dX7_valueAt_12 ?_
  refine G_iload_n hX 1 rfl rfl dX7_valueAt_15 ?_
  refine G_aI hX (atS_6 ht0) dX7_valueAt_16 (fun x2 => ?_)
  refine G_i2l hX dX7_valueAt_17 ?_
  refine G_lmul hX dX7_valueAt_18 ?_
  exact G_lret hX hQ dX7_valueAt_19
theorem cX7_valueAt_ok (l : Launch) (N : Nat) (t0 : Nat) (p0 : Int32) (μ : Mem) (z : Int64 × Mem) (h : fX7_valueAt N t0 p0 μ = some z) : Ml wC l yX7_valueAt cX7_valueAt 2 .long (rmo 0 0) (fun ad adK => [.ref (ad t0), .int p0]) μ z := Ml.of h (by decide +kernel) (fun _ _ => Nat.le_of_ble_eq_true rfl) (fun X hX hQ hl hcs => gX7_valueAt_E hX hQ hcs N t0 p0 μ)
/-! ===== DutyCase$Sales.exportValue(I)J ===== -/
set_option maxHeartbeats 4000000 in
set_option maxRecDepth 100000 in
theorem gX7_exportValue_5 {X : Ctx} {z : Int64 × Mem} (hX : Fx wC X cX7_exportValue 5 RX7 (some .long) (rmo 1 23)) (hQ : Qx_l wC X z) (hcs : cx_cells X = 0 ∧ cx_slots X = 0) (N : Nat) : ∀ (n : Nat) (b0 : Nat) (v1 : Int32) (v2 : Int64) (v4 : Int32) (hb0 : kS b0) (μ : Mem), G wC X z 5 [(0, .ref (cx_ad X b0)), (1, .int v1), (2, .long v2), (4, .int v4)] [] μ (fX7_exportValue_5 N n b0 v1 v2 v4 μ) := by
  intro n
  induction n with
  | zero =>
    intro b0 v1 v2 v4 hb0 μ
    exact G_none
  | succ n ih =>
    intro b0 v1 v2 v4 hb0 μ
    unfold fX7_exportValue_5
    refine G_iload hX 3 rfl dX7_exportValue_5 ?_
    refine G_aload_n hX 0 rfl rfl dX7_exportValue_7 ?_
    refine gf_X7_43_S0 hX hb0 dX7_exportValue_8 ?_
    refine G_nmi (fun x1 => ?_)
    refine G_icmp_ge hX 40 (by decide) dX7_exportValue_11 ?_ ?_
    · refine G_lload_n hX 2 rfl rfl dX7_exportValue_40 ?_
      exact G_lret hX hQ dX7_exportValue_41
    · refine G_aload_n hX 0 rfl rfl dX7_exportValue_14 ?_
      refine G_iload hX 3 rfl dX7_exportValue_15 ?_
      refine G_iload_n hX 1 rfl rfl dX7_exportValue_17 ?_
      refine G_iconst hX (1 : Int32) rfl dX7_exportValue_18 ?_
      refine G_cVi hX b0 7 (fun ad adK => [.int v4, .int v1, .int (1 : Int32)]) [] (fun z2 h2 => cX7_isOf_ok (cx_l X) N b0 v4 v1 (1 : Int32) μ z2 h2) ok_X7_isOf lm_X7_49 (atS_0 hb0).1 (atS_0 hb0).2 rfl rfl (fun _ _ => rfl) (Nat.le_of_ble_eq_true rfl) ⟨rfl, rfl, by decide, by decide⟩ (cs0 hcs) dX7_exportValue_19 (fun r2 μ => ?_)
      refine G_if_eq hX 34 (by decide) dX7_exportValue_22 ?_ ?_
      · refine G_iincN hX 3 (fun x3 => [(4, .int x3), (0, .ref (cx_ad X b0)), (1, .int v1), (2, .long v2)]) rfl rfl (by decide) (fun _ => rfl) dX7_exportValue_34 (fun x3 => ?_)
        refine G_goto hX 5 (by decide) dX7_exportValue_37 ?_
        exact G_sub [1, 2, 3, 0] rfl (ih b0 v1 v2 x3 hb0 μ)
      · refine G_lload_n hX 2 rfl rfl dX7_exportValue_25 ?_
        refine G_aload_n hX 0 rfl rfl dX7_exportValue_26 ?_
        refine G_iload hX 3 rfl dX7_exportValue_27 ?_
        refine G_cVl hX b0 7 (fun ad adK => [.int v4]) [.long v2] (fun z2 h2 => cX7_valueAt_ok (cx_l X) N b0 v4 μ z2 h2) ok_X7_valueAt lm_X7_53 (atS_0 hb0).1 (atS_0 hb0).2 rfl rfl (fun _ _ => rfl) (Nat.le_of_ble_eq_true rfl) ⟨rfl, rfl, by decide, by decide⟩ (cs0 hcs) dX7_exportValue_29 (fun r4 μ => ?_)
        refine G_ladd hX dX7_exportValue_32 ?_
        refine G_nml (fun x5 => ?_)
        refine G_lstore_n hX [(2, .long x5), (0, .ref (cx_ad X b0)), (1, .int v1), (4, .int v4)] rfl (by decide) rfl dX7_exportValue_33 ?_
        refine G_iincN hX 3 (fun x6 => [(4, .int x6), (2, .long x5), (0, .ref (cx_ad X b0)), (1, .int v1)]) rfl rfl (by decide) (fun _ => rfl) dX7_exportValue_34 (fun x6 => ?_)
        refine G_goto hX 5 (by decide) dX7_exportValue_37 ?_
        exact G_sub [2, 3, 1, 0] rfl (ih b0 v1 x5 x6 hb0 μ)
set_option maxHeartbeats 4000000 in
set_option maxRecDepth 100000 in
theorem gX7_exportValue_E {X : Ctx} {z : Int64 × Mem} (hX : Fx wC X cX7_exportValue 5 RX7 (some .long) (rmo 1 23)) (hQ : Qx_l wC X z) (hcs : cx_cells X = 0 ∧ cx_slots X = 0) (N : Nat) (t0 : Nat) (p0 : Int32) (μ : Mem) : G wC X z 0 [(0, .ref (cx_ad X t0)), (1, .int p0)] [] μ (fX7_exportValue N t0 p0 μ) := by
  unfold fX7_exportValue
  refine G_guard (fun ht0 => ?_)
  refine G_lconst hX (0 : Int64) rfl dX7_exportValue_0 ?_
  refine G_lstore_n hX [(2, .long (0 : Int64)), (0, .ref (cx_ad X t0)), (1, .int p0)] rfl (by decide) rfl dX7_exportValue_1 ?_
  refine G_iconst hX (0 : Int32) rfl dX7_exportValue_2 ?_
  refine G_istore hX [(4, .int (0 : Int32)), (2, .long (0 : Int64)), (0, .ref (cx_ad X t0)), (1, .int p0)] (by decide) rfl dX7_exportValue_3 ?_
  exact G_sub [2, 3, 1, 0] rfl (gX7_exportValue_5 hX hQ hcs N N t0 p0 (0 : Int64) (0 : Int32) ht0 μ)
theorem cX7_exportValue_ok (l : Launch) (N : Nat) (t0 : Nat) (p0 : Int32) (μ : Mem) (z : Int64 × Mem) (h : fX7_exportValue N t0 p0 μ = some z) : Ml wC l yX7_exportValue cX7_exportValue 5 .long (rmo 1 23) (fun ad adK => [.ref (ad t0), .int p0]) μ z := Ml.of h (by decide +kernel) (fun _ _ => Nat.le_of_ble_eq_true rfl) (fun X hX hQ hl hcs => gX7_exportValue_E hX hQ hcs N t0 p0 μ)
/-! ===== DutyCase$Sales.exportMany(I)I ===== -/
set_option maxHeartbeats 4000000 in
set_option maxRecDepth 100000 in
theorem gX7_exportMany_4 {X : Ctx} {z : Int32 × Mem} (hX : Fx wC X cX7_exportMany 4 RX7 (some .int) (rmo 1 23)) (hQ : Qx_i wC X z) (hcs : cx_cells X = 0 ∧ cx_slots X = 0) (N : Nat) : ∀ (n : Nat) (b0 : Nat) (v1 : Int32) (v2 : Int32) (v3 : Int32) (hb0 : kS b0) (μ : Mem), G wC X z 4 [(0, .ref (cx_ad X b0)), (1, .int v1), (2, .int v2), (3, .int v3)] [] μ (fX7_exportMany_4 N n b0 v1 v2 v3 μ) := by
  intro n
  induction n with
  | zero =>
    intro b0 v1 v2 v3 hb0 μ
    exact G_none
  | succ n ih =>
    intro b0 v1 v2 v3 hb0 μ
    unfold fX7_exportMany_4
    refine G_iload_n hX 3 rfl rfl dX7_exportMany_4 ?_
    refine G_aload_n hX 0 rfl rfl dX7_exportMany_5 ?_
    refine gf_X7_43_S0 hX hb0 dX7_exportMany_6 ?_
    refine G_nmi (fun x1 => ?_)
    refine G_icmp_ge hX 37 (by decide) dX7_exportMany_9 ?_ ?_
    · refine G_iload_n hX 2 rfl rfl dX7_exportMany_37 ?_
      exact G_iret hX hQ dX7_exportMany_38
    · refine G_aload_n hX 0 rfl rfl dX7_exportMany_12 ?_
      refine G_iload_n hX 3 rfl rfl dX7_exportMany_13 ?_
      refine G_iload_n hX 1 rfl rfl dX7_exportMany_14 ?_
      refine G_iconst hX (1 : Int32) rfl dX7_exportMany_15 ?_
      refine G_cVi hX b0 7 (fun ad adK => [.int v3, .int v1, .int (1 : Int32)]) [] (fun z2 h2 => cX7_isOf_ok (cx_l X) N b0 v3 v1 (1 : Int32) μ z2 h2) ok_X7_isOf lm_X7_49 (atS_0 hb0).1 (atS_0 hb0).2 rfl rfl (fun _ _ => rfl) (Nat.le_of_ble_eq_true rfl) ⟨rfl, rfl, by decide, by decide⟩ (cs0 hcs) dX7_exportMany_16 (fun r2 μ => ?_)
      refine G_if_eq hX 31 (by decide) dX7_exportMany_19 ?_ ?_
      · refine G_iincN hX 3 (fun x3 => [(3, .int x3), (0, .ref (cx_ad X b0)), (1, .int v1), (2, .int v2)]) rfl rfl (by decide) (fun _ => rfl) dX7_exportMany_31 (fun x3 => ?_)
        refine G_goto hX 4 (by decide) dX7_exportMany_34 ?_
        exact G_sub [1, 2, 3, 0] rfl (ih b0 v1 v2 x3 hb0 μ)
      · refine G_iload_n hX 2 rfl rfl dX7_exportMany_22 ?_
        refine G_aload_n hX 0 rfl rfl dX7_exportMany_23 ?_
        refine gf_X7_27_S0 hX hb0 dX7_exportMany_24 ?_
        refine G_iload_n hX 3 rfl rfl dX7_exportMany_27 ?_
        refine G_aI hX (atS_6 hb0) dX7_exportMany_28 (fun x4 => ?_)
        refine G_iadd hX dX7_exportMany_29 ?_
        refine G_nmi (fun x5 => ?_)
        refine G_istore_n hX [(2, .int x5), (0, .ref (cx_ad X b0)), (1, .int v1), (3, .int v3)] rfl (by decide) rfl dX7_exportMany_30 ?_
        refine G_iincN hX 3 (fun x6 => [(3, .int x6), (2, .int x5), (0, .ref (cx_ad X b0)), (1, .int v1)]) rfl rfl (by decide) (fun _ => rfl) dX7_exportMany_31 (fun x6 => ?_)
        refine G_goto hX 4 (by decide) dX7_exportMany_34 ?_
        exact G_sub [2, 3, 1, 0] rfl (ih b0 v1 x5 x6 hb0 μ)
set_option maxHeartbeats 4000000 in
set_option maxRecDepth 100000 in
theorem gX7_exportMany_E {X : Ctx} {z : Int32 × Mem} (hX : Fx wC X cX7_exportMany 4 RX7 (some .int) (rmo 1 23)) (hQ : Qx_i wC X z) (hcs : cx_cells X = 0 ∧ cx_slots X = 0) (N : Nat) (t0 : Nat) (p0 : Int32) (μ : Mem) : G wC X z 0 [(0, .ref (cx_ad X t0)), (1, .int p0)] [] μ (fX7_exportMany N t0 p0 μ) := by
  unfold fX7_exportMany
  refine G_guard (fun ht0 => ?_)
  refine G_iconst hX (0 : Int32) rfl dX7_exportMany_0 ?_
  refine G_istore_n hX [(2, .int (0 : Int32)), (0, .ref (cx_ad X t0)), (1, .int p0)] rfl (by decide) rfl dX7_exportMany_1 ?_
  refine G_iconst hX (0 : Int32) rfl dX7_exportMany_2 ?_
  refine G_istore_n hX [(3, .int (0 : Int32)), (2, .int (0 : Int32)), (0, .ref (cx_ad X t0)), (1, .int p0)] rfl (by decide) rfl dX7_exportMany_3 ?_
  exact G_sub [2, 3, 1, 0] rfl (gX7_exportMany_4 hX hQ hcs N N t0 p0 (0 : Int32) (0 : Int32) ht0 μ)
theorem cX7_exportMany_ok (l : Launch) (N : Nat) (t0 : Nat) (p0 : Int32) (μ : Mem) (z : Int32 × Mem) (h : fX7_exportMany N t0 p0 μ = some z) : Mi wC l yX7_exportMany cX7_exportMany 4 .int (rmo 1 23) (fun ad adK => [.ref (ad t0), .int p0]) μ z := Mi.of h (by decide +kernel) (fun _ _ => Nat.le_of_ble_eq_true rfl) (fun X hX hQ hl hcs => gX7_exportMany_E hX hQ hcs N t0 p0 μ)
/-! ===== DutyCase$Sales.countLive()I ===== -/
set_option maxHeartbeats 4000000 in
set_option maxRecDepth 100000 in
theorem gX7_countLive_4 {X : Ctx} {z : Int32 × Mem} (hX : Fx wC X cX7_countLive 3 RX7 (some .int) (rmo 0 0)) (hQ : Qx_i wC X z) (hcs : cx_cells X = 0 ∧ cx_slots X = 0) (N : Nat) : ∀ (n : Nat) (b0 : Nat) (v1 : Int32) (v2 : Int32) (hb0 : kS b0) (μ : Mem), G wC X z 4 [(0, .ref (cx_ad X b0)), (1, .int v1), (2, .int v2)] [] μ (fX7_countLive_4 N n b0 v1 v2 μ) := by
  intro n
  induction n with
  | zero =>
    intro b0 v1 v2 hb0 μ
    exact G_none
  | succ n ih =>
    intro b0 v1 v2 hb0 μ
    unfold fX7_countLive_4
    refine G_iload_n hX 2 rfl rfl dX7_countLive_4 ?_
    refine G_aload_n hX 0 rfl rfl dX7_countLive_5 ?_
    refine gf_X7_43_S0 hX hb0 dX7_countLive_6 ?_
    refine G_nmi (fun x1 => ?_)
    refine G_icmp_ge hX 30 (by decide) dX7_countLive_9 ?_ ?_
    · refine G_iload_n hX 1 rfl rfl dX7_countLive_30 ?_
      exact G_iret hX hQ dX7_countLive_31
    · refine G_aload_n hX 0 rfl rfl dX7_countLive_12 ?_
      refine gf_X7_39_S0 hX hb0 dX7_countLive_13 ?_
      refine G_iload_n hX 2 rfl rfl dX7_countLive_16 ?_
      refine G_aZ hX (atS_10 hb0) dX7_countLive_17 (fun x2 => ?_)
      refine G_if_eq hX 24 (by decide) dX7_countLive_18 ?_ ?_
      · refine G_iincN hX 2 (fun x3 => [(2, .int x3), (0, .ref (cx_ad X b0)), (1, .int v1)]) rfl rfl (by decide) (fun _ => rfl) dX7_countLive_24 (fun x3 => ?_)
        refine G_goto hX 4 (by decide) dX7_countLive_27 ?_
        exact G_sub [1, 2, 0] rfl (ih b0 v1 x3 hb0 μ)
      · refine G_iincN hX 1 (fun x4 => [(1, .int x4), (0, .ref (cx_ad X b0)), (2, .int v2)]) rfl rfl (by decide) (fun _ => rfl) dX7_countLive_21 (fun x4 => ?_)
        refine G_iincN hX 2 (fun x5 => [(2, .int x5), (1, .int x4), (0, .ref (cx_ad X b0))]) rfl rfl (by decide) (fun _ => rfl) dX7_countLive_24 (fun x5 => ?_)
        refine G_goto hX 4 (by decide) dX7_countLive_27 ?_
        exact G_sub [2, 1, 0] rfl (ih b0 x4 x5 hb0 μ)
set_option maxHeartbeats 4000000 in
set_option maxRecDepth 100000 in
theorem gX7_countLive_E {X : Ctx} {z : Int32 × Mem} (hX : Fx wC X cX7_countLive 3 RX7 (some .int) (rmo 0 0)) (hQ : Qx_i wC X z) (hcs : cx_cells X = 0 ∧ cx_slots X = 0) (N : Nat) (t0 : Nat) (μ : Mem) : G wC X z 0 [(0, .ref (cx_ad X t0))] [] μ (fX7_countLive N t0 μ) := by
  unfold fX7_countLive
  refine G_guard (fun ht0 => ?_)
  refine G_iconst hX (0 : Int32) rfl dX7_countLive_0 ?_
  refine G_istore_n hX [(1, .int (0 : Int32)), (0, .ref (cx_ad X t0))] rfl (by decide) rfl dX7_countLive_1 ?_
  refine G_iconst hX (0 : Int32) rfl dX7_countLive_2 ?_
  refine G_istore_n hX [(2, .int (0 : Int32)), (1, .int (0 : Int32)), (0, .ref (cx_ad X t0))] rfl (by decide) rfl dX7_countLive_3 ?_
  exact G_sub [2, 1, 0] rfl (gX7_countLive_4 hX hQ hcs N N t0 (0 : Int32) (0 : Int32) ht0 μ)
theorem cX7_countLive_ok (l : Launch) (N : Nat) (t0 : Nat) (μ : Mem) (z : Int32 × Mem) (h : fX7_countLive N t0 μ = some z) : Mi wC l yX7_countLive cX7_countLive 3 .int (rmo 0 0) (fun ad adK => [.ref (ad t0)]) μ z := Mi.of h (by decide +kernel) (fun _ _ => Nat.le_of_ble_eq_true rfl) (fun X hX hQ hl hcs => gX7_countLive_E hX hQ hcs N t0 μ)
