/-! ===== java/lang/Math.floorDiv(JJ)J ===== -/
set_option maxHeartbeats 4000000 in
set_option maxRecDepth 100000 in
theorem gJ9_floorDiv_f86c9_E {X : Ctx} {z : Int64 × Mem} (hX : Fx wC X cJ9_floorDiv_f86c9 6 RJ9 (some .long) (rmo 0 0)) (hQ : Qx_l wC X z) (hcs : cx_cells X = 0 ∧ cx_slots X = 0) (N : Nat) (p0 : Int64) (p1 : Int64) (μ : Mem) : G wC X z 0 [(0, .long p0), (2, .long p1)] [] μ (fJ9_floorDiv_f86c9 N p0 p1 μ) := by
  unfold fJ9_floorDiv_f86c9
  refine G_lload_n hX 0 rfl rfl dJ9_floorDiv_f86c9_0 ?_
  refine G_lload_n hX 1 rfl rfl dJ9_floorDiv_f86c9_1 ?_
  refine G_ldv hX dJ9_floorDiv_f86c9_2 ?_
  refine G_nml (fun x1 => ?_)
  refine G_lstore hX [(4, .long x1), (0, .long p0), (2, .long p1)] (by decide) rfl dJ9_floorDiv_f86c9_3 ?_
  refine G_lload_n hX 1 rfl rfl dJ9_floorDiv_f86c9_5 ?_
  refine G_lload_n hX 2 rfl rfl dJ9_floorDiv_f86c9_6 ?_
  refine G_lxor hX dJ9_floorDiv_f86c9_7 ?_
  refine G_lconst hX (0 : Int64) rfl dJ9_floorDiv_f86c9_8 ?_
  refine G_lcmp hX dJ9_floorDiv_f86c9_9 ?_
  refine G_if_ge hX 27 (by decide) dJ9_floorDiv_f86c9_10 ?_ ?_
  · refine G_lload hX 0 rfl dJ9_floorDiv_f86c9_27 ?_
    exact G_lret hX hQ dJ9_floorDiv_f86c9_29
  · refine G_lload hX 0 rfl dJ9_floorDiv_f86c9_13 ?_
    refine G_lload_n hX 2 rfl rfl dJ9_floorDiv_f86c9_15 ?_
    refine G_lmul hX dJ9_floorDiv_f86c9_16 ?_
    refine G_lload_n hX 1 rfl rfl dJ9_floorDiv_f86c9_17 ?_
    refine G_lcmp hX dJ9_floorDiv_f86c9_18 ?_
    refine G_if_eq hX 27 (by decide) dJ9_floorDiv_f86c9_19 ?_ ?_
    · refine G_lload hX 0 rfl dJ9_floorDiv_f86c9_27 ?_
      exact G_lret hX hQ dJ9_floorDiv_f86c9_29
    · refine G_lload hX 0 rfl dJ9_floorDiv_f86c9_22 ?_
      refine G_lconst hX (1 : Int64) rfl dJ9_floorDiv_f86c9_24 ?_
      refine G_lsub hX dJ9_floorDiv_f86c9_25 ?_
      exact G_lret hX hQ dJ9_floorDiv_f86c9_26
theorem cJ9_floorDiv_f86c9_ok (l : Launch) (N : Nat) (p0 : Int64) (p1 : Int64) (μ : Mem) (z : Int64 × Mem) (h : fJ9_floorDiv_f86c9 N p0 p1 μ = some z) : Ml wC l yJ9_floorDiv_f86c9 cJ9_floorDiv_f86c9 6 .long (rmo 0 0) (fun ad adK => [.long p0, .long p1]) μ z := Ml.ofF h (by decide +kernel) (fun _ _ => Nat.le_of_ble_eq_true rfl) (fun X hX hQ hl hcs => gJ9_floorDiv_f86c9_E hX hQ hcs N p0 p1 μ)
/-! ===== DutyCase$Acts.keep(III)V ===== -/
set_option maxHeartbeats 4000000 in
set_option maxRecDepth 100000 in
theorem gX0_keep_E {X : Ctx} {z : Unit × Mem} (hX : Fx wC X cX0_keep 4 RX0 none (rmo 1 24)) (hQ : Qx_v wC X z) (hcs : cx_cells X = 0 ∧ cx_slots X = 0) (N : Nat) (p0 : Int32) (p1 : Int32) (p2 : Int32) (μ : Mem) : G wC X z 0 [(0, .ref (cx_ad X 2)), (1, .int p0), (2, .int p1), (3, .int p2)] [] μ (fX0_keep N p0 p1 p2 μ) := by
  unfold fX0_keep
  refine G_aload_n hX 0 rfl rfl dX0_keep_0 ?_
  refine gf_X0_11_C2 hX dX0_keep_1 ?_
  refine G_aload_n hX 0 rfl rfl dX0_keep_4 ?_
  refine gf_X0_21_C2 hX dX0_keep_5 ?_
  refine G_nmi (fun x1 => ?_)
  refine G_iload_n hX 1 rfl rfl dX0_keep_8 ?_
  refine G_sI hX atC8 dX0_keep_9 (fun μ => ?_)
  refine G_aload_n hX 0 rfl rfl dX0_keep_10 ?_
  refine gf_X0_15_C2 hX dX0_keep_11 ?_
  refine G_aload_n hX 0 rfl rfl dX0_keep_14 ?_
  refine gf_X0_21_C2 hX dX0_keep_15 ?_
  refine G_nmi (fun x2 => ?_)
  refine G_iload_n hX 2 rfl rfl dX0_keep_18 ?_
  refine G_sI hX atC9 dX0_keep_19 (fun μ => ?_)
  refine G_aload_n hX 0 rfl rfl dX0_keep_20 ?_
  refine gf_X0_18_C2 hX dX0_keep_21 ?_
  refine G_aload_n hX 0 rfl rfl dX0_keep_24 ?_
  refine gf_X0_21_C2 hX dX0_keep_25 ?_
  refine G_nmi (fun x3 => ?_)
  refine G_iload_n hX 3 rfl rfl dX0_keep_28 ?_
  refine G_sI hX atC10 dX0_keep_29 (fun μ => ?_)
  refine G_aload_n hX 0 rfl rfl dX0_keep_30 ?_
  refine G_aload_n hX 0 rfl rfl dX0_keep_31 ?_
  refine gf_X0_21_C2 hX dX0_keep_32 ?_
  refine G_nmi (fun x4 => ?_)
  refine G_iconst hX (1 : Int32) rfl dX0_keep_35 ?_
  refine G_iadd hX dX0_keep_36 ?_
  refine G_bipush hX (16 : Int32) rfl dX0_keep_37 ?_
  refine G_irem0 hX (by decide) dX0_keep_39 ?_
  refine G_nmi (fun x5 => ?_)
  refine pf_X0_21_C2 hX dX0_keep_40 (fun μ => ?_)
  refine G_aload_n hX 0 rfl rfl dX0_keep_43 ?_
  refine G_bipush hX (16 : Int32) rfl dX0_keep_44 ?_
  refine G_aload_n hX 0 rfl rfl dX0_keep_46 ?_
  refine gf_X0_25_C2 hX dX0_keep_47 ?_
  refine G_nmi (fun x6 => ?_)
  refine G_iconst hX (1 : Int32) rfl dX0_keep_50 ?_
  refine G_iadd hX dX0_keep_51 ?_
  refine G_mmin hX lm_X0_28 ok_J9_min_7cf53.1 ok_J9_min_7cf53.2.1 ok_J9_min_7cf53.2.2.1 ⟨Nat.le_of_ble_eq_true rfl, Nat.le_of_ble_eq_true rfl⟩ (cs0 hcs) dX0_keep_52 ?_
  refine G_nmi (fun x7 => ?_)
  refine pf_X0_25_C2 hX dX0_keep_55 (fun μ => ?_)
  exact G_vret hX hQ dX0_keep_58
theorem cX0_keep_ok (l : Launch) (N : Nat) (p0 : Int32) (p1 : Int32) (p2 : Int32) (μ : Mem) (z : Unit × Mem) (h : fX0_keep N p0 p1 p2 μ = some z) : Mv wC l yX0_keep cX0_keep 4 (rmo 1 24) (fun ad adK => [.ref (ad 2), .int p0, .int p1, .int p2]) μ z := Mv.of h (by decide +kernel) (fun _ _ => Nat.le_of_ble_eq_true rfl) (fun X hX hQ hl hcs => gX0_keep_E hX hQ hcs N p0 p1 p2 μ)
/-! ===== DutyCase$Book.costOf(II)I ===== -/
set_option maxHeartbeats 4000000 in
set_option maxRecDepth 100000 in
theorem gX1_costOf_E {X : Ctx} {z : Int32 × Mem} (hX : Fx wC X cX1_costOf 4 RX1 (some .int) (rmo 0 0)) (hQ : Qx_i wC X z) (hcs : cx_cells X = 0 ∧ cx_slots X = 0) (N : Nat) (t0 : Nat) (p0 : Int32) (p1 : Int32) (μ : Mem) : G wC X z 0 [(0, .ref (cx_ad X t0)), (1, .int p0), (2, .int p1)] [] μ (fX1_costOf N t0 p0 p1 μ) := by
  unfold fX1_costOf
  refine G_guard (fun ht0 => ?_)
  refine G_aload_n hX 0 rfl rfl dX1_costOf_0 ?_
  refine gf_X1_31_B0 hX ht0 dX1_costOf_1 ?_
  refine G_iload_n hX 1 rfl rfl dX1_costOf_4 ?_
  refine G_bipush hX (6 : Int32) rfl dX1_costOf_5 ?_
  refine G_imul hX dX1_costOf_7 ?_
  refine G_iload_n hX 2 rfl rfl dX1_costOf_8 ?_
  refine G_iadd hX dX1_costOf_9 ?_
  refine G_aI hX (atB_26 ht0) dX1_costOf_10 (fun x1 => ?_)
  refine G_istore_n hX [(3, .int x1), (0, .ref (cx_ad X t0)), (1, .int p0), (2, .int p1)] rfl (by decide) rfl dX1_costOf_11 ?_
  refine G_iload_n hX 0 rfl rfl dX1_costOf_12 ?_
  refine G_if_le hX 20 (by decide) dX1_costOf_13 ?_ ?_
  · refine G_aload_n hX 1 rfl rfl dX1_costOf_20 ?_
    refine gf_X1_21_B0 hX ht0 dX1_costOf_21 ?_
    refine G_iload_n hX 3 rfl rfl dX1_costOf_24 ?_
    refine G_aI hX (atB_23 ht0) dX1_costOf_25 (fun x2 => ?_)
    exact G_iret hX hQ dX1_costOf_26
  · refine G_iload_n hX 0 rfl rfl dX1_costOf_16 ?_
    refine G_goto hX 26 (by decide) dX1_costOf_17 ?_
    exact G_iret hX hQ dX1_costOf_26
theorem cX1_costOf_ok (l : Launch) (N : Nat) (t0 : Nat) (p0 : Int32) (p1 : Int32) (μ : Mem) (z : Int32 × Mem) (h : fX1_costOf N t0 p0 p1 μ = some z) : Mi wC l yX1_costOf cX1_costOf 4 .int (rmo 0 0) (fun ad adK => [.ref (ad t0), .int p0, .int p1]) μ z := Mi.of h (by decide +kernel) (fun _ _ => Nat.le_of_ble_eq_true rfl) (fun X hX hQ hl hcs => gX1_costOf_E hX hQ hcs N t0 p0 p1 μ)
/-! ===== DutyCase$Sums.letterOf(ILDutyCase$Sales;II)I ===== -/
set_option maxHeartbeats 4000000 in
set_option maxRecDepth 100000 in
theorem gX9_letterOf_E {X : Ctx} {z : Int32 × Mem} (hX : Fx wC X cX9_letterOf 4 RX9 (some .int) (rmo 0 0)) (hQ : Qx_i wC X z) (hcs : cx_cells X = 0 ∧ cx_slots X = 0) (N : Nat) (p0 : Int32) (p1 : Nat) (p2 : Int32) (p3 : Int32) (μ : Mem) : G wC X z 0 [(0, .int p0), (1, .ref (cx_ad X p1)), (2, .int p2), (3, .int p3)] [] μ (fX9_letterOf N p0 p1 p2 p3 μ) := by
  unfold fX9_letterOf
  refine G_guard (fun hp1 => ?_)
  refine G_iload_n hX 0 rfl rfl dX9_letterOf_0 ?_
  refine G_sw (fun hcm4 => ?_) (fun hcm4 => ?_)
  · refine G_swIn hX 53 0 (-4) (by rw [hcm4]; rfl) (by decide) (by decide) rfl rfl (by decide) dX9_letterOf_1 ?_
    refine G_aload_n hX 1 rfl rfl dX9_letterOf_53 ?_
    refine gf_X9_51_S0 hX hp1 dX9_letterOf_54 ?_
    refine G_iload_n hX 2 rfl rfl dX9_letterOf_57 ?_
    refine G_aI hX (atS_5 hp1) dX9_letterOf_58 (fun x1 => ?_)
    exact G_iret hX hQ dX9_letterOf_59
  refine G_sw (fun hcm3 => ?_) (fun hcm3 => ?_)
  · refine G_swIn hX 46 1 (-3) (by rw [hcm3]; rfl) (by decide) (by decide) rfl rfl (by decide) dX9_letterOf_1 ?_
    refine G_aload_n hX 1 rfl rfl dX9_letterOf_46 ?_
    refine gf_X9_48_S0 hX hp1 dX9_letterOf_47 ?_
    refine G_iload_n hX 2 rfl rfl dX9_letterOf_50 ?_
    refine G_aI hX (atS_4 hp1) dX9_letterOf_51 (fun x2 => ?_)
    exact G_iret hX hQ dX9_letterOf_52
  refine G_sw (fun hcm2 => ?_) (fun hcm2 => ?_)
  · refine G_swIn hX 39 2 (-2) (by rw [hcm2]; rfl) (by decide) (by decide) rfl rfl (by decide) dX9_letterOf_1 ?_
    refine G_aload_n hX 1 rfl rfl dX9_letterOf_39 ?_
    refine gf_X9_45_S0 hX hp1 dX9_letterOf_40 ?_
    refine G_iload_n hX 2 rfl rfl dX9_letterOf_43 ?_
    refine G_aI hX (atS_7 hp1) dX9_letterOf_44 (fun x3 => ?_)
    exact G_iret hX hQ dX9_letterOf_45
  refine G_sw (fun hcm1 => ?_) (fun hcm1 => ?_)
  · refine G_swIn hX 32 3 (-1) (by rw [hcm1]; rfl) (by decide) (by decide) rfl rfl (by decide) dX9_letterOf_1 ?_
    refine G_aload_n hX 1 rfl rfl dX9_letterOf_32 ?_
    refine gf_X9_42_S0 hX hp1 dX9_letterOf_33 ?_
    refine G_iload_n hX 2 rfl rfl dX9_letterOf_36 ?_
    refine G_aI hX (atS_6 hp1) dX9_letterOf_37 (fun x4 => ?_)
    exact G_iret hX hQ dX9_letterOf_38
  refine G_swOut hX 60 (by decide) dX9_letterOf_1 (by have e0 := lv_neT (a := (-4 : Int)) hcm4 rfl; have e1 := lv_neT (a := (-3 : Int)) hcm3 rfl; have e2 := lv_neT (a := (-2 : Int)) hcm2 rfl; have e3 := lv_neT (a := (-1 : Int)) hcm1 rfl; omega) ?_
  refine G_iload_n hX 3 rfl rfl dX9_letterOf_60 ?_
  exact G_iret hX hQ dX9_letterOf_61
theorem cX9_letterOf_ok (l : Launch) (N : Nat) (p0 : Int32) (p1 : Nat) (p2 : Int32) (p3 : Int32) (μ : Mem) (z : Int32 × Mem) (h : fX9_letterOf N p0 p1 p2 p3 μ = some z) : Mi wC l yX9_letterOf cX9_letterOf 4 .int (rmo 0 0) (fun ad adK => [.int p0, .ref (ad p1), .int p2, .int p3]) μ z := Mi.of h (by decide +kernel) (fun _ _ => Nat.le_of_ble_eq_true rfl) (fun X hX hQ hl hcs => gX9_letterOf_E hX hQ hcs N p0 p1 p2 p3 μ)
/-! ===== DutyCase$Sums.apply(IJJ)J ===== -/
set_option maxHeartbeats 4000000 in
set_option maxRecDepth 100000 in
theorem gX9_apply_E {X : Ctx} {z : Int64 × Mem} (hX : Fx wC X cX9_apply 7 RX9 (some .long) (rmo 1 25)) (hQ : Qx_l wC X z) (hcs : cx_cells X = 0 ∧ cx_slots X = 0) (N : Nat) (p0 : Int32) (p1 : Int64) (p2 : Int64) (μ : Mem) : G wC X z 0 [(0, .int p0), (1, .long p1), (3, .long p2)] [] μ (fX9_apply N p0 p1 p2 μ) := by
  unfold fX9_apply
  refine G_iload_n hX 0 rfl rfl dX9_apply_0 ?_
  refine G_sw (fun hcm8 => ?_) (fun hcm8 => ?_)
  · refine G_swIn hX 44 0 (-8) (by rw [hcm8]; rfl) (by decide) (by decide) rfl rfl (by decide) dX9_apply_1 ?_
    refine G_lload_n hX 1 rfl rfl dX9_apply_44 ?_
    refine G_lload_n hX 2 rfl rfl dX9_apply_45 ?_
    refine G_lmul hX dX9_apply_46 ?_
    refine G_nml (fun x1 => ?_)
    refine G_lstore hX [(5, .long x1), (0, .int p0), (1, .long p1), (3, .long p2)] (by decide) rfl dX9_apply_47 ?_
    refine G_goto hX 69 (by decide) dX9_apply_49 ?_
    refine G_ldc2 hX lc_X9_60 dX9_apply_69 ?_
    refine G_ldc2 hX lc_X9_62 dX9_apply_72 ?_
    refine G_lload hX 0 rfl dX9_apply_75 ?_
    refine G_mminL hX lm_X9_64 ok_J9_min_f86c9.1 ok_J9_min_f86c9.2.1 ok_J9_min_f86c9.2.2.1 ⟨Nat.le_of_ble_eq_true rfl, Nat.le_of_ble_eq_true rfl⟩ (cs0 hcs) dX9_apply_77 ?_
    refine G_mmaxL hX lm_X9_67 ok_J9_max_f86c9.1 ok_J9_max_f86c9.2.1 ok_J9_max_f86c9.2.2.1 ⟨Nat.le_of_ble_eq_true rfl, Nat.le_of_ble_eq_true rfl⟩ (cs0 hcs) dX9_apply_80 ?_
    exact G_lret hX hQ dX9_apply_83
  refine G_sw (fun hcm7 => ?_) (fun hcm7 => ?_)
  · refine G_swIn hX 36 1 (-7) (by rw [hcm7]; rfl) (by decide) (by decide) rfl rfl (by decide) dX9_apply_1 ?_
    refine G_lload_n hX 1 rfl rfl dX9_apply_36 ?_
    refine G_lload_n hX 2 rfl rfl dX9_apply_37 ?_
    refine G_lsub hX dX9_apply_38 ?_
    refine G_nml (fun x2 => ?_)
    refine G_lstore hX [(5, .long x2), (0, .int p0), (1, .long p1), (3, .long p2)] (by decide) rfl dX9_apply_39 ?_
    refine G_goto hX 69 (by decide) dX9_apply_41 ?_
    refine G_ldc2 hX lc_X9_60 dX9_apply_69 ?_
    refine G_ldc2 hX lc_X9_62 dX9_apply_72 ?_
    refine G_lload hX 0 rfl dX9_apply_75 ?_
    refine G_mminL hX lm_X9_64 ok_J9_min_f86c9.1 ok_J9_min_f86c9.2.1 ok_J9_min_f86c9.2.2.1 ⟨Nat.le_of_ble_eq_true rfl, Nat.le_of_ble_eq_true rfl⟩ (cs0 hcs) dX9_apply_77 ?_
    refine G_mmaxL hX lm_X9_67 ok_J9_max_f86c9.1 ok_J9_max_f86c9.2.1 ok_J9_max_f86c9.2.2.1 ⟨Nat.le_of_ble_eq_true rfl, Nat.le_of_ble_eq_true rfl⟩ (cs0 hcs) dX9_apply_80 ?_
    exact G_lret hX hQ dX9_apply_83
  refine G_sw (fun hcm6 => ?_) (fun hcm6 => ?_)
  · refine G_swIn hX 28 2 (-6) (by rw [hcm6]; rfl) (by decide) (by decide) rfl rfl (by decide) dX9_apply_1 ?_
    refine G_lload_n hX 1 rfl rfl dX9_apply_28 ?_
    refine G_lload_n hX 2 rfl rfl dX9_apply_29 ?_
    refine G_ladd hX dX9_apply_30 ?_
    refine G_nml (fun x3 => ?_)
    refine G_lstore hX [(5, .long x3), (0, .int p0), (1, .long p1), (3, .long p2)] (by decide) rfl dX9_apply_31 ?_
    refine G_goto hX 69 (by decide) dX9_apply_33 ?_
    refine G_ldc2 hX lc_X9_60 dX9_apply_69 ?_
    refine G_ldc2 hX lc_X9_62 dX9_apply_72 ?_
    refine G_lload hX 0 rfl dX9_apply_75 ?_
    refine G_mminL hX lm_X9_64 ok_J9_min_f86c9.1 ok_J9_min_f86c9.2.1 ok_J9_min_f86c9.2.2.1 ⟨Nat.le_of_ble_eq_true rfl, Nat.le_of_ble_eq_true rfl⟩ (cs0 hcs) dX9_apply_77 ?_
    refine G_mmaxL hX lm_X9_67 ok_J9_max_f86c9.1 ok_J9_max_f86c9.2.1 ok_J9_max_f86c9.2.2.1 ⟨Nat.le_of_ble_eq_true rfl, Nat.le_of_ble_eq_true rfl⟩ (cs0 hcs) dX9_apply_80 ?_
    exact G_lret hX hQ dX9_apply_83
  refine G_swOut hX 52 (by decide) dX9_apply_1 (by have e0 := lv_neT (a := (-8 : Int)) hcm8 rfl; have e1 := lv_neT (a := (-7 : Int)) hcm7 rfl; have e2 := lv_neT (a := (-6 : Int)) hcm6 rfl; omega) ?_
  refine G_lload_n hX 2 rfl rfl dX9_apply_52 ?_
  refine G_lconst hX (0 : Int64) rfl dX9_apply_53 ?_
  refine G_lcmp hX dX9_apply_54 ?_
  refine G_if_ne hX 62 (by decide) dX9_apply_55 ?_ ?_
  · refine G_lload_n hX 1 rfl rfl dX9_apply_62 ?_
    refine G_lload_n hX 2 rfl rfl dX9_apply_63 ?_
    refine G_cSl hX (fun ad adK => [.long p1, .long p2]) [] (fun z2 h2 => cJ9_floorDiv_f86c9_ok (cx_l X) N p1 p2 μ z2 h2) ok_J9_floorDiv_f86c9 lm_X9_54 rfl (fun _ _ => rfl) (Nat.le_of_ble_eq_true rfl) ⟨rfl, rfl, by decide, by decide⟩ (cs0 hcs) dX9_apply_64 (fun r4 μ => ?_)
    refine G_lstore hX [(5, .long r4), (0, .int p0), (1, .long p1), (3, .long p2)] (by decide) rfl dX9_apply_67 ?_
    refine G_ldc2 hX lc_X9_60 dX9_apply_69 ?_
    refine G_ldc2 hX lc_X9_62 dX9_apply_72 ?_
    refine G_lload hX 0 rfl dX9_apply_75 ?_
    refine G_mminL hX lm_X9_64 ok_J9_min_f86c9.1 ok_J9_min_f86c9.2.1 ok_J9_min_f86c9.2.2.1 ⟨Nat.le_of_ble_eq_true rfl, Nat.le_of_ble_eq_true rfl⟩ (cs0 hcs) dX9_apply_77 ?_
    refine G_mmaxL hX lm_X9_67 ok_J9_max_f86c9.1 ok_J9_max_f86c9.2.1 ok_J9_max_f86c9.2.2.1 ⟨Nat.le_of_ble_eq_true rfl, Nat.le_of_ble_eq_true rfl⟩ (cs0 hcs) dX9_apply_80 ?_
    exact G_lret hX hQ dX9_apply_83
  · refine G_lconst hX (0 : Int64) rfl dX9_apply_58 ?_
    refine G_goto hX 67 (by decide) dX9_apply_59 ?_
    refine G_lstore hX [(5, .long (0 : Int64)), (0, .int p0), (1, .long p1), (3, .long p2)] (by decide) rfl dX9_apply_67 ?_
    refine G_ldc2 hX lc_X9_60 dX9_apply_69 ?_
    refine G_ldc2 hX lc_X9_62 dX9_apply_72 ?_
    refine G_lload hX 0 rfl dX9_apply_75 ?_
    refine G_mminL hX lm_X9_64 ok_J9_min_f86c9.1 ok_J9_min_f86c9.2.1 ok_J9_min_f86c9.2.2.1 ⟨Nat.le_of_ble_eq_true rfl, Nat.le_of_ble_eq_true rfl⟩ (cs0 hcs) dX9_apply_77 ?_
    refine G_mmaxL hX lm_X9_67 ok_J9_max_f86c9.1 ok_J9_max_f86c9.2.1 ok_J9_max_f86c9.2.2.1 ⟨Nat.le_of_ble_eq_true rfl, Nat.le_of_ble_eq_true rfl⟩ (cs0 hcs) dX9_apply_80 ?_
    exact G_lret hX hQ dX9_apply_83
theorem cX9_apply_ok (l : Launch) (N : Nat) (p0 : Int32) (p1 : Int64) (p2 : Int64) (μ : Mem) (z : Int64 × Mem) (h : fX9_apply N p0 p1 p2 μ = some z) : Ml wC l yX9_apply cX9_apply 7 .long (rmo 1 25) (fun ad adK => [.int p0, .long p1, .long p2]) μ z := Ml.of h (by decide +kernel) (fun _ _ => Nat.le_of_ble_eq_true rfl) (fun X hX hQ hl hcs => gX9_apply_E hX hQ hcs N p0 p1 p2 μ)
/-! ===== DutyCase$Sums.offOf(LDutyCase$Sales;II)I ===== -/
set_option maxHeartbeats 4000000 in
set_option maxRecDepth 100000 in
theorem gX9_offOf_133 {X : Ctx} {z : Int32 × Mem} (hX : Fx wC X cX9_offOf 8 RX9 (some .int) (rmo 2 51)) (hQ : Qx_i wC X z) (hcs : cx_cells X = 0 ∧ cx_slots X = 0) (N : Nat) (b0 : Nat) (v5 : Int32) (hb0 : kU b0) (μ : Mem) : G wC X z 133 [(0, .ref (cx_ad X b0)), (5, .int v5)] [] μ (fX9_offOf_133 N b0 v5 μ) := by
  unfold fX9_offOf_133
  refine G_iload hX 1 rfl dX9_offOf_133 ?_
  refine G_if_ne hX 142 (by decide) dX9_offOf_135 ?_ ?_
  · refine G_aload_n hX 0 rfl rfl dX9_offOf_142 ?_
    refine gf_X9_21_U0 hX hb0 dX9_offOf_143 ?_
    refine G_iconst hX (0 : Int32) rfl dX9_offOf_146 ?_
    refine G_aL hX (atU_4 hb0) dX9_offOf_147 (fun x17 => ?_)
    refine G_l2i hX dX9_offOf_148 ?_
    exact G_iret hX hQ dX9_offOf_149
  · refine G_iconst hX (0 : Int32) rfl dX9_offOf_138 ?_
    refine G_goto hX 149 (by decide) dX9_offOf_139 ?_
    exact G_iret hX hQ dX9_offOf_149
set_option maxHeartbeats 4000000 in
set_option maxRecDepth 100000 in
theorem gX9_offOf_20 {X : Ctx} {z : Int32 × Mem} (hX : Fx wC X cX9_offOf 8 RX9 (some .int) (rmo 2 51)) (hQ : Qx_i wC X z) (hcs : cx_cells X = 0 ∧ cx_slots X = 0) (N : Nat) : ∀ (n : Nat) (b0 : Nat) (b1 : Nat) (v2 : Int32) (v3 : Int32) (v4 : Int32) (v5 : Int32) (v6 : Int32) (hb0 : kU b0) (hb1 : kS b1) (μ : Mem), G wC X z 20 [(0, .ref (cx_ad X b0)), (1, .ref (cx_ad X b1)), (2, .int v2), (3, .int v3), (4, .int v4), (5, .int v5), (6, .int v6)] [] μ (fX9_offOf_20 N n b0 b1 v2 v3 v4 v5 v6 μ) := by
  intro n
  induction n with
  | zero =>
    intro b0 b1 v2 v3 v4 v5 v6 hb0 hb1 μ
    exact G_none
  | succ n ih =>
    intro b0 b1 v2 v3 v4 v5 v6 hb0 hb1 μ
    unfold fX9_offOf_20
    refine G_iload hX 6 rfl dX9_offOf_20 ?_
    refine G_aload_n hX 0 rfl rfl dX9_offOf_22 ?_
    refine gf_X9_18_U0 hX hb0 dX9_offOf_23 ?_
    refine G_iload hX 4 rfl dX9_offOf_26 ?_
    refine G_aI hX (atU_3 hb0) dX9_offOf_28 (fun x3 => ?_)
    refine G_icmp_ge hX 133 (by decide) dX9_offOf_29 ?_ ?_
    · exact G_sub [0, 5] rfl (gX9_offOf_133 hX hQ hcs N b0 v5 hb0 μ)
    · refine G_aload_n hX 0 rfl rfl dX9_offOf_32 ?_
      refine gf_X9_9_U0 hX hb0 dX9_offOf_33 ?_
      refine G_iload hX 6 rfl dX9_offOf_36 ?_
      refine G_aI hX (atU_1 hb0) dX9_offOf_38 (fun x4 => ?_)
      refine G_istore hX [(7, .int x4), (0, .ref (cx_ad X b0)), (1, .ref (cx_ad X b1)), (2, .int v2), (3, .int v3), (4, .int v4), (5, .int v5), (6, .int v6)] (by decide) rfl dX9_offOf_39 ?_
      refine G_iload hX 0 rfl dX9_offOf_41 ?_
      refine G_bipush hX (-6 : Int32) rfl dX9_offOf_43 ?_
      refine G_icmp_le hX 88 (by decide) dX9_offOf_45 ?_ ?_
      · refine G_iload hX 6 rfl dX9_offOf_88 ?_
        refine G_iconst hX (2 : Int32) rfl dX9_offOf_90 ?_
        refine G_icmp_lt hX 127 (by decide) dX9_offOf_91 ?_ ?_
        · refine G_iincN hX 7 (fun x5 => [(6, .int x5), (7, .int x4), (0, .ref (cx_ad X b0)), (1, .ref (cx_ad X b1)), (2, .int v2), (3, .int v3), (4, .int v4), (5, .int v5)]) rfl rfl (by decide) (fun _ => rfl) dX9_offOf_127 (fun x5 => ?_)
          refine G_goto hX 20 (by decide) dX9_offOf_130 ?_
          exact G_sub [2, 3, 4, 5, 6, 7, 0] rfl (ih b0 b1 v2 v3 v4 v5 x5 hb0 hb1 μ)
        · refine G_iincN hX 6 (fun x6 => [(5, .int x6), (7, .int x4), (0, .ref (cx_ad X b0)), (1, .ref (cx_ad X b1)), (2, .int v2), (3, .int v3), (4, .int v4), (6, .int v6)]) rfl rfl (by decide) (fun _ => rfl) dX9_offOf_94 (fun x6 => ?_)
          refine G_aload_n hX 2 rfl rfl dX9_offOf_97 ?_
          refine gf_X9_21_U0 hX hb0 dX9_offOf_98 ?_
          refine G_iload hX 0 rfl dX9_offOf_101 ?_
          refine G_iconst hX (1 : Int32) rfl dX9_offOf_103 ?_
          refine G_isub hX dX9_offOf_104 ?_
          refine G_iload hX 1 rfl dX9_offOf_105 ?_
          refine G_aload_n hX 2 rfl rfl dX9_offOf_107 ?_
          refine gf_X9_21_U0 hX hb0 dX9_offOf_108 ?_
          refine G_iload hX 0 rfl dX9_offOf_111 ?_
          refine G_iconst hX (1 : Int32) rfl dX9_offOf_113 ?_
          refine G_isub hX dX9_offOf_114 ?_
          refine G_aL hX (atU_4 hb0) dX9_offOf_115 (fun x7 => ?_)
          refine G_aload_n hX 2 rfl rfl dX9_offOf_116 ?_
          refine gf_X9_21_U0 hX hb0 dX9_offOf_117 ?_
          refine G_iload hX 0 rfl dX9_offOf_120 ?_
          refine G_aL hX (atU_4 hb0) dX9_offOf_122 (fun x8 => ?_)
          refine G_cSl hX (fun ad adK => [.int x4, .long x7, .long x8]) [.int (x6 - (1 : Int32)), .ref (cx_ad X (b0 + 4))] (fun z2 h2 => cX9_apply_ok (cx_l X) N x4 x7 x8 μ z2 h2) ok_X9_apply lm_X9_38 rfl (fun _ _ => rfl) (Nat.le_of_ble_eq_true rfl) ⟨rfl, rfl, by decide, by decide⟩ (cs0 hcs) dX9_offOf_123 (fun r9 μ => ?_)
          refine G_sL hX (atU_4 hb0) dX9_offOf_126 (fun μ => ?_)
          refine G_iincN hX 7 (fun x10 => [(6, .int x10), (5, .int x6), (7, .int x4), (0, .ref (cx_ad X b0)), (1, .ref (cx_ad X b1)), (2, .int v2), (3, .int v3), (4, .int v4)]) rfl rfl (by decide) (fun _ => rfl) dX9_offOf_127 (fun x10 => ?_)
          refine G_goto hX 20 (by decide) dX9_offOf_130 ?_
          exact G_sub [3, 4, 5, 6, 7, 1, 0] rfl (ih b0 b1 v2 v3 v4 x6 x10 hb0 hb1 μ)
      · refine G_iload hX 6 rfl dX9_offOf_48 ?_
        refine G_bipush hX (16 : Int32) rfl dX9_offOf_50 ?_
        refine G_icmp_ge hX 127 (by decide) dX9_offOf_52 ?_ ?_
        · refine G_iincN hX 7 (fun x11 => [(6, .int x11), (7, .int x4), (0, .ref (cx_ad X b0)), (1, .ref (cx_ad X b1)), (2, .int v2), (3, .int v3), (4, .int v4), (5, .int v5)]) rfl rfl (by decide) (fun _ => rfl) dX9_offOf_127 (fun x11 => ?_)
          refine G_goto hX 20 (by decide) dX9_offOf_130 ?_
          exact G_sub [2, 3, 4, 5, 6, 7, 0] rfl (ih b0 b1 v2 v3 v4 v5 x11 hb0 hb1 μ)
        · refine G_aload_n hX 1 rfl rfl dX9_offOf_55 ?_
          refine gf_X9_21_U0 hX hb0 dX9_offOf_56 ?_
          refine G_iload hX 6 rfl dX9_offOf_59 ?_
          refine G_iload hX 0 rfl dX9_offOf_61 ?_
          refine G_if_lt hX 72 (by decide) dX9_offOf_63 ?_ ?_
          · refine G_iload hX 0 rfl dX9_offOf_72 ?_
            refine G_aload_n hX 2 rfl rfl dX9_offOf_74 ?_
            refine G_iload_n hX 3 rfl rfl dX9_offOf_75 ?_
            refine G_iload_n hX 4 rfl rfl dX9_offOf_76 ?_
            refine G_cSi hX (fun ad adK => [.int x4, .ref (ad b1), .int v2, .int v3]) [.int v5, .ref (cx_ad X (b0 + 4))] (fun z2 h2 => cX9_letterOf_ok (cx_l X) N x4 b1 v2 v3 μ z2 h2) ok_X9_letterOf lm_X9_34 rfl (fun _ _ => rfl) (Nat.le_of_ble_eq_true rfl) ⟨rfl, rfl, by decide, by decide⟩ (cs0 hcs) dX9_offOf_77 (fun r12 μ => ?_)
            refine G_i2l hX dX9_offOf_80 ?_
            refine G_sL hX (atU_4 hb0) dX9_offOf_81 (fun μ => ?_)
            refine G_iincN hX 6 (fun x13 => [(5, .int x13), (7, .int x4), (0, .ref (cx_ad X b0)), (1, .ref (cx_ad X b1)), (2, .int v2), (3, .int v3), (4, .int v4), (6, .int v6)]) rfl rfl (by decide) (fun _ => rfl) dX9_offOf_82 (fun x13 => ?_)
            refine G_goto hX 127 (by decide) dX9_offOf_85 ?_
            refine G_iincN hX 7 (fun x14 => [(6, .int x14), (5, .int x13), (7, .int x4), (0, .ref (cx_ad X b0)), (1, .ref (cx_ad X b1)), (2, .int v2), (3, .int v3), (4, .int v4)]) rfl rfl (by decide) (fun _ => rfl) dX9_offOf_127 (fun x14 => ?_)
            refine G_goto hX 20 (by decide) dX9_offOf_130 ?_
            exact G_sub [3, 4, 5, 6, 7, 1, 0] rfl (ih b0 b1 v2 v3 v4 x13 x14 hb0 hb1 μ)
          · refine G_iload hX 0 rfl dX9_offOf_66 ?_
            refine G_i2l hX dX9_offOf_68 ?_
            refine G_goto hX 81 (by decide) dX9_offOf_69 ?_
            refine G_sL hX (atU_4 hb0) dX9_offOf_81 (fun μ => ?_)
            refine G_iincN hX 6 (fun x15 => [(5, .int x15), (7, .int x4), (0, .ref (cx_ad X b0)), (1, .ref (cx_ad X b1)), (2, .int v2), (3, .int v3), (4, .int v4), (6, .int v6)]) rfl rfl (by decide) (fun _ => rfl) dX9_offOf_82 (fun x15 => ?_)
            refine G_goto hX 127 (by decide) dX9_offOf_85 ?_
            refine G_iincN hX 7 (fun x16 => [(6, .int x16), (5, .int x15), (7, .int x4), (0, .ref (cx_ad X b0)), (1, .ref (cx_ad X b1)), (2, .int v2), (3, .int v3), (4, .int v4)]) rfl rfl (by decide) (fun _ => rfl) dX9_offOf_127 (fun x16 => ?_)
            refine G_goto hX 20 (by decide) dX9_offOf_130 ?_
            exact G_sub [3, 4, 5, 6, 7, 1, 0] rfl (ih b0 b1 v2 v3 v4 x15 x16 hb0 hb1 μ)
set_option maxHeartbeats 4000000 in
set_option maxRecDepth 100000 in
theorem gX9_offOf_E {X : Ctx} {z : Int32 × Mem} (hX : Fx wC X cX9_offOf 8 RX9 (some .int) (rmo 2 51)) (hQ : Qx_i wC X z) (hcs : cx_cells X = 0 ∧ cx_slots X = 0) (N : Nat) (t0 : Nat) (p0 : Nat) (p1 : Int32) (p2 : Int32) (μ : Mem) : G wC X z 0 [(0, .ref (cx_ad X t0)), (1, .ref (cx_ad X p0)), (2, .int p1), (3, .int p2)] [] μ (fX9_offOf N t0 p0 p1 p2 μ) := by
  unfold fX9_offOf
  refine G_guard (fun ht0 => ?_)
  refine G_guard (fun hp0 => ?_)
  refine G_aload_n hX 1 rfl rfl dX9_offOf_0 ?_
  refine gf_X9_29_S0 hX hp0 dX9_offOf_1 ?_
  refine G_iload_n hX 2 rfl rfl dX9_offOf_4 ?_
  refine G_aI hX (atS_1 hp0) dX9_offOf_5 (fun x1 => ?_)
  refine G_istore hX [(4, .int x1), (0, .ref (cx_ad X t0)), (1, .ref (cx_ad X p0)), (2, .int p1), (3, .int p2)] (by decide) rfl dX9_offOf_6 ?_
  refine G_iconst hX (0 : Int32) rfl dX9_offOf_8 ?_
  refine G_istore hX [(5, .int (0 : Int32)), (4, .int x1), (0, .ref (cx_ad X t0)), (1, .ref (cx_ad X p0)), (2, .int p1), (3, .int p2)] (by decide) rfl dX9_offOf_9 ?_
  refine G_aload_n hX 2 rfl rfl dX9_offOf_11 ?_
  refine gf_X9_15_U0 hX ht0 dX9_offOf_12 ?_
  refine G_iload hX 1 rfl dX9_offOf_15 ?_
  refine G_aI hX (atU_2 ht0) dX9_offOf_17 (fun x2 => ?_)
  refine G_istore hX [(6, .int x2), (5, .int (0 : Int32)), (4, .int x1), (0, .ref (cx_ad X t0)), (1, .ref (cx_ad X p0)), (2, .int p1), (3, .int p2)] (by decide) rfl dX9_offOf_18 ?_
  exact G_sub [3, 4, 5, 6, 2, 1, 0] rfl (gX9_offOf_20 hX hQ hcs N N t0 p0 p1 p2 x1 (0 : Int32) x2 ht0 hp0 μ)
theorem cX9_offOf_ok (l : Launch) (N : Nat) (t0 : Nat) (p0 : Nat) (p1 : Int32) (p2 : Int32) (μ : Mem) (z : Int32 × Mem) (h : fX9_offOf N t0 p0 p1 p2 μ = some z) : Mi wC l yX9_offOf cX9_offOf 8 .int (rmo 2 51) (fun ad adK => [.ref (ad t0), .ref (ad p0), .int p1, .int p2]) μ z := Mi.of h (by decide +kernel) (fun _ _ => Nat.le_of_ble_eq_true rfl) (fun X hX hQ hl hcs => gX9_offOf_E hX hQ hcs N t0 p0 p1 p2 μ)
/-! ===== DutyCase$Book.workOut(I)V ===== -/
set_option maxHeartbeats 4000000 in
set_option maxRecDepth 100000 in
theorem gX1_workOut_E {X : Ctx} {z : Unit × Mem} (hX : Fx wC X cX1_workOut 4 RX1 none (rmo 3 78)) (hQ : Qx_v wC X z) (hcs : cx_cells X = 0 ∧ cx_slots X = 0) (N : Nat) (t0 : Nat) (p0 : Int32) (μ : Mem) : G wC X z 0 [(0, .ref (cx_ad X t0)), (1, .int p0)] [] μ (fX1_workOut N t0 p0 μ) := by
  unfold fX1_workOut
  refine G_guard (fun ht0 => ?_)
  refine G_aload_n hX 0 rfl rfl dX1_workOut_0 ?_
  refine G_aload_n hX 0 rfl rfl dX1_workOut_1 ?_
  refine gf_X1_48_B0 hX ht0 dX1_workOut_2 ?_
  refine gf_X1_63_B12 hX ht0 dX1_workOut_5 ?_
  refine G_iload_n hX 1 rfl rfl dX1_workOut_8 ?_
  refine G_aI hX (atB_14 ht0) dX1_workOut_9 (fun x1 => ?_)
  refine G_aload_n hX 0 rfl rfl dX1_workOut_10 ?_
  refine gf_X1_48_B0 hX ht0 dX1_workOut_11 ?_
  refine gf_X1_66_B12 hX ht0 dX1_workOut_14 ?_
  refine G_iload_n hX 1 rfl rfl dX1_workOut_17 ?_
  refine G_aI hX (atB_15 ht0) dX1_workOut_18 (fun x2 => ?_)
  refine G_cVi hX t0 1 (fun ad adK => [.int x1, .int x2]) [] (fun z2 h2 => cX1_costOf_ok (cx_l X) N t0 x1 x2 μ z2 h2) ok_X1_costOf lm_X1_69 (atB_0 ht0).1 (atB_0 ht0).2 rfl rfl (fun _ _ => rfl) (Nat.le_of_ble_eq_true rfl) ⟨rfl, rfl, by decide, by decide⟩ (cs0 hcs) dX1_workOut_19 (fun r3 μ => ?_)
  refine G_istore_n hX [(2, .int r3), (0, .ref (cx_ad X t0)), (1, .int p0)] rfl (by decide) rfl dX1_workOut_22 ?_
  refine G_aload_n hX 1 rfl rfl dX1_workOut_23 ?_
  refine gf_X1_41_B0 hX ht0 dX1_workOut_24 ?_
  refine G_aload_n hX 1 rfl rfl dX1_workOut_27 ?_
  refine gf_X1_48_B0 hX ht0 dX1_workOut_28 ?_
  refine G_iload_n hX 2 rfl rfl dX1_workOut_31 ?_
  refine G_iload_n hX 0 rfl rfl dX1_workOut_32 ?_
  refine G_cVi hX (t0 + 7) 9 (fun ad adK => [.ref (ad (t0 + 12)), .int p0, .int r3]) [] (fun z2 h2 => cX9_offOf_ok (cx_l X) N (t0 + 7) (t0 + 12) p0 r3 μ z2 h2) ok_X9_offOf lm_X1_73 (atB_7 ht0).1 (atB_7 ht0).2 rfl rfl (fun _ _ => rfl) (Nat.le_of_ble_eq_true rfl) ⟨rfl, rfl, by decide, by decide⟩ (cs0 hcs) dX1_workOut_33 (fun r4 μ => ?_)
  refine G_istore_n hX [(3, .int r4), (2, .int r3), (0, .ref (cx_ad X t0)), (1, .int p0)] rfl (by decide) rfl dX1_workOut_36 ?_
  refine G_aload_n hX 2 rfl rfl dX1_workOut_37 ?_
  refine gf_X1_48_B0 hX ht0 dX1_workOut_38 ?_
  refine gf_X1_77_B12 hX ht0 dX1_workOut_41 ?_
  refine G_iload_n hX 3 rfl rfl dX1_workOut_44 ?_
  refine G_iload_n hX 0 rfl rfl dX1_workOut_45 ?_
  refine G_sI hX (atB_20 ht0) dX1_workOut_46 (fun μ => ?_)
  refine G_aload_n hX 2 rfl rfl dX1_workOut_47 ?_
  refine gf_X1_48_B0 hX ht0 dX1_workOut_48 ?_
  refine gf_X1_80_B12 hX ht0 dX1_workOut_51 ?_
  refine G_iload_n hX 3 rfl rfl dX1_workOut_54 ?_
  refine G_iconst hX (0 : Int32) rfl dX1_workOut_55 ?_
  refine G_ldc hX lc_X1_83 dX1_workOut_56 ?_
  refine G_aload_n hX 2 rfl rfl dX1_workOut_58 ?_
  refine gf_X1_48_B0 hX ht0 dX1_workOut_59 ?_
  refine gf_X1_84_B12 hX ht0 dX1_workOut_62 ?_
  refine G_iload_n hX 3 rfl rfl dX1_workOut_65 ?_
  refine G_aI hX (atB_19 ht0) dX1_workOut_66 (fun x5 => ?_)
  refine G_iload_n hX 0 rfl rfl dX1_workOut_67 ?_
  refine G_isub hX dX1_workOut_68 ?_
  refine G_mmin hX lm_X1_87 ok_J9_min_7cf53.1 ok_J9_min_7cf53.2.1 ok_J9_min_7cf53.2.2.1 ⟨Nat.le_of_ble_eq_true rfl, Nat.le_of_ble_eq_true rfl⟩ (cs0 hcs) dX1_workOut_69 ?_
  refine G_mmax hX lm_X1_92 ok_J9_max_7cf53.1 ok_J9_max_7cf53.2.1 ok_J9_max_7cf53.2.2.1 ⟨Nat.le_of_ble_eq_true rfl, Nat.le_of_ble_eq_true rfl⟩ (cs0 hcs) dX1_workOut_72 ?_
  refine G_sI hX (atB_21 ht0) dX1_workOut_75 (fun μ => ?_)
  exact G_vret hX hQ dX1_workOut_76
theorem cX1_workOut_ok (l : Launch) (N : Nat) (t0 : Nat) (p0 : Int32) (μ : Mem) (z : Unit × Mem) (h : fX1_workOut N t0 p0 μ = some z) : Mv wC l yX1_workOut cX1_workOut 4 (rmo 3 78) (fun ad adK => [.ref (ad t0), .int p0]) μ z := Mv.of h (by decide +kernel) (fun _ _ => Nat.le_of_ble_eq_true rfl) (fun X hX hQ hl hcs => gX1_workOut_E hX hQ hcs N t0 p0 μ)
/-! ===== DutyCase$Book.tellPrice(II)V ===== -/
set_option maxHeartbeats 4000000 in
set_option maxRecDepth 100000 in
theorem gX1_tellPrice_E {X : Ctx} {z : Unit × Mem} (hX : Fx wC X cX1_tellPrice 3 RX1 none (rmo 4 101)) (hQ : Qx_v wC X z) (hcs : cx_cells X = 0 ∧ cx_slots X = 0) (N : Nat) (t0 : Nat) (p0 : Int32) (p1 : Int32) (μ : Mem) : G wC X z 0 [(0, .ref (cx_ad X t0)), (1, .int p0), (2, .int p1)] [] μ (fX1_tellPrice N t0 p0 p1 μ) := by
  unfold fX1_tellPrice
  refine G_guard (fun ht0 => ?_)
  refine G_aload_n hX 0 rfl rfl dX1_tellPrice_0 ?_
  refine gf_X1_48_B0 hX ht0 dX1_tellPrice_1 ?_
  refine gf_X1_84_B12 hX ht0 dX1_tellPrice_4 ?_
  refine G_iload_n hX 1 rfl rfl dX1_tellPrice_7 ?_
  refine G_iload_n hX 2 rfl rfl dX1_tellPrice_8 ?_
  refine G_sI hX (atB_19 ht0) dX1_tellPrice_9 (fun μ => ?_)
  refine G_aload_n hX 0 rfl rfl dX1_tellPrice_10 ?_
  refine G_iload_n hX 1 rfl rfl dX1_tellPrice_11 ?_
  refine G_cVv hX t0 1 (fun ad adK => [.int p0]) [] (fun z2 h2 => cX1_workOut_ok (cx_l X) N t0 p0 μ z2 h2) ok_X1_workOut lm_X1_95 (atB_0 ht0).1 (atB_0 ht0).2 rfl rfl (fun _ _ => rfl) (Nat.le_of_ble_eq_true rfl) ⟨rfl, rfl, by decide, by decide⟩ (cs0 hcs) dX1_tellPrice_12 (fun μ => ?_)
  exact G_vret hX hQ dX1_tellPrice_15
theorem cX1_tellPrice_ok (l : Launch) (N : Nat) (t0 : Nat) (p0 : Int32) (p1 : Int32) (μ : Mem) (z : Unit × Mem) (h : fX1_tellPrice N t0 p0 p1 μ = some z) : Mv wC l yX1_tellPrice cX1_tellPrice 3 (rmo 4 101) (fun ad adK => [.ref (ad t0), .int p0, .int p1]) μ z := Mv.of h (by decide +kernel) (fun _ _ => Nat.le_of_ble_eq_true rfl) (fun X hX hQ hl hcs => gX1_tellPrice_E hX hQ hcs N t0 p0 p1 μ)
/-! ===== DutyCase$Book.tellCost(II)V ===== -/
set_option maxHeartbeats 4000000 in
set_option maxRecDepth 100000 in
theorem gX1_tellCost_9 {X : Ctx} {z : Unit × Mem} (hX : Fx wC X cX1_tellCost 4 RX1 none (rmo 4 101)) (hQ : Qx_v wC X z) (hcs : cx_cells X = 0 ∧ cx_slots X = 0) (N : Nat) : ∀ (n : Nat) (b0 : Nat) (v1 : Int32) (v3 : Int32) (hb0 : kB b0) (μ : Mem), G wC X z 9 [(0, .ref (cx_ad X b0)), (1, .int v1), (3, .int v3)] [] μ (fX1_tellCost_9 N n b0 v1 v3 μ) := by
  intro n
  induction n with
  | zero =>
    intro b0 v1 v3 hb0 μ
    exact G_none
  | succ n ih =>
    intro b0 v1 v3 hb0 μ
    unfold fX1_tellCost_9
    refine G_iload_n hX 2 rfl rfl dX1_tellCost_9 ?_
    refine G_aload_n hX 0 rfl rfl dX1_tellCost_10 ?_
    refine gf_X1_48_B0 hX hb0 dX1_tellCost_11 ?_
    refine gf_X1_59_B12 hX hb0 dX1_tellCost_14 ?_
    refine G_nmi (fun x1 => ?_)
    refine G_icmp_ge hX 57 (by decide) dX1_tellCost_17 ?_ ?_
    · exact G_vret hX hQ dX1_tellCost_57
    · refine G_aload_n hX 0 rfl rfl dX1_tellCost_20 ?_
      refine gf_X1_48_B0 hX hb0 dX1_tellCost_21 ?_
      refine gf_X1_63_B12 hX hb0 dX1_tellCost_24 ?_
      refine G_iload_n hX 2 rfl rfl dX1_tellCost_27 ?_
      refine G_aI hX (atB_14 hb0) dX1_tellCost_28 (fun x2 => ?_)
      refine G_bipush hX (6 : Int32) rfl dX1_tellCost_29 ?_
      refine G_imul hX dX1_tellCost_31 ?_
      refine G_aload_n hX 0 rfl rfl dX1_tellCost_32 ?_
      refine gf_X1_48_B0 hX hb0 dX1_tellCost_33 ?_
      refine gf_X1_66_B12 hX hb0 dX1_tellCost_36 ?_
      refine G_iload_n hX 2 rfl rfl dX1_tellCost_39 ?_
      refine G_aI hX (atB_15 hb0) dX1_tellCost_40 (fun x3 => ?_)
      refine G_iadd hX dX1_tellCost_41 ?_
      refine G_iload_n hX 1 rfl rfl dX1_tellCost_42 ?_
      refine G_icmp_ne hX 51 (by decide) dX1_tellCost_43 ?_ ?_
      · refine G_iincN hX 2 (fun x4 => [(3, .int x4), (0, .ref (cx_ad X b0)), (1, .int v1)]) rfl rfl (by decide) (fun _ => rfl) dX1_tellCost_51 (fun x4 => ?_)
        refine G_goto hX 9 (by decide) dX1_tellCost_54 ?_
        exact G_sub [1, 2, 0] rfl (ih b0 v1 x4 hb0 μ)
      · refine G_aload_n hX 0 rfl rfl dX1_tellCost_46 ?_
        refine G_iload_n hX 2 rfl rfl dX1_tellCost_47 ?_
        refine G_cVv hX b0 1 (fun ad adK => [.int v3]) [] (fun z2 h2 => cX1_workOut_ok (cx_l X) N b0 v3 μ z2 h2) ok_X1_workOut lm_X1_95 (atB_0 hb0).1 (atB_0 hb0).2 rfl rfl (fun _ _ => rfl) (Nat.le_of_ble_eq_true rfl) ⟨rfl, rfl, by decide, by decide⟩ (cs0 hcs) dX1_tellCost_48 (fun μ => ?_)
        refine G_iincN hX 2 (fun x5 => [(3, .int x5), (0, .ref (cx_ad X b0)), (1, .int v1)]) rfl rfl (by decide) (fun _ => rfl) dX1_tellCost_51 (fun x5 => ?_)
        refine G_goto hX 9 (by decide) dX1_tellCost_54 ?_
        exact G_sub [1, 2, 0] rfl (ih b0 v1 x5 hb0 μ)
set_option maxHeartbeats 4000000 in
set_option maxRecDepth 100000 in
theorem gX1_tellCost_E {X : Ctx} {z : Unit × Mem} (hX : Fx wC X cX1_tellCost 4 RX1 none (rmo 4 101)) (hQ : Qx_v wC X z) (hcs : cx_cells X = 0 ∧ cx_slots X = 0) (N : Nat) (t0 : Nat) (p0 : Int32) (p1 : Int32) (μ : Mem) : G wC X z 0 [(0, .ref (cx_ad X t0)), (1, .int p0), (2, .int p1)] [] μ (fX1_tellCost N t0 p0 p1 μ) := by
  unfold fX1_tellCost
  refine G_guard (fun ht0 => ?_)
  refine G_aload_n hX 0 rfl rfl dX1_tellCost_0 ?_
  refine gf_X1_31_B0 hX ht0 dX1_tellCost_1 ?_
  refine G_iload_n hX 1 rfl rfl dX1_tellCost_4 ?_
  refine G_iload_n hX 2 rfl rfl dX1_tellCost_5 ?_
  refine G_sI hX (atB_26 ht0) dX1_tellCost_6 (fun μ => ?_)
  refine G_iconst hX (0 : Int32) rfl dX1_tellCost_7 ?_
  refine G_istore_n hX [(3, .int (0 : Int32)), (0, .ref (cx_ad X t0)), (1, .int p0), (2, .int p1)] rfl (by decide) rfl dX1_tellCost_8 ?_
  exact G_sub [1, 2, 0] rfl (gX1_tellCost_9 hX hQ hcs N N t0 p0 (0 : Int32) ht0 μ)
theorem cX1_tellCost_ok (l : Launch) (N : Nat) (t0 : Nat) (p0 : Int32) (p1 : Int32) (μ : Mem) (z : Unit × Mem) (h : fX1_tellCost N t0 p0 p1 μ = some z) : Mv wC l yX1_tellCost cX1_tellCost 4 (rmo 4 101) (fun ad adK => [.ref (ad t0), .int p0, .int p1]) μ z := Mv.of h (by decide +kernel) (fun _ _ => Nat.le_of_ble_eq_true rfl) (fun X hX hQ hl hcs => gX1_tellCost_E hX hQ hcs N t0 p0 p1 μ)
/-! ===== DutyCase$Acts.takeBack(LDutyCase$Book;)V ===== -/
set_option maxHeartbeats 4000000 in
set_option maxRecDepth 100000 in
theorem gX0_takeBack_E {X : Ctx} {z : Unit × Mem} (hX : Fx wC X cX0_takeBack 3 RX0 none (rmo 5 124)) (hQ : Qx_v wC X z) (hcs : cx_cells X = 0 ∧ cx_slots X = 0) (N : Nat) (p0 : Nat) (μ : Mem) : G wC X z 0 [(0, .ref (cx_ad X 2)), (1, .ref (cx_ad X p0))] [] μ (fX0_takeBack N p0 μ) := by
  unfold fX0_takeBack
  refine G_guard (fun hp0 => ?_)
  refine G_aload_n hX 0 rfl rfl dX0_takeBack_0 ?_
  refine gf_X0_25_C2 hX dX0_takeBack_1 ?_
  refine G_nmi (fun x1 => ?_)
  refine G_if_ne hX 8 (by decide) dX0_takeBack_4 ?_ ?_
  · refine G_aload_n hX 0 rfl rfl dX0_takeBack_8 ?_
    refine G_aload_n hX 0 rfl rfl dX0_takeBack_9 ?_
    refine gf_X0_21_C2 hX dX0_takeBack_10 ?_
    refine G_nmi (fun x2 => ?_)
    refine G_bipush hX (16 : Int32) rfl dX0_takeBack_13 ?_
    refine G_iadd hX dX0_takeBack_15 ?_
    refine G_iconst hX (1 : Int32) rfl dX0_takeBack_16 ?_
    refine G_isub hX dX0_takeBack_17 ?_
    refine G_bipush hX (16 : Int32) rfl dX0_takeBack_18 ?_
    refine G_irem0 hX (by decide) dX0_takeBack_20 ?_
    refine G_nmi (fun x3 => ?_)
    refine pf_X0_21_C2 hX dX0_takeBack_21 (fun μ => ?_)
    refine G_aload_n hX 0 rfl rfl dX0_takeBack_24 ?_
    refine G_dup hX rfl dX0_takeBack_25 ?_
    refine gf_X0_25_C2 hX dX0_takeBack_26 ?_
    refine G_nmi (fun x4 => ?_)
    refine G_iconst hX (1 : Int32) rfl dX0_takeBack_29 ?_
    refine G_isub hX dX0_takeBack_30 ?_
    refine G_nmi (fun x5 => ?_)
    refine pf_X0_25_C2 hX dX0_takeBack_31 (fun μ => ?_)
    refine G_aload_n hX 0 rfl rfl dX0_takeBack_34 ?_
    refine gf_X0_15_C2 hX dX0_takeBack_35 ?_
    refine G_aload_n hX 0 rfl rfl dX0_takeBack_38 ?_
    refine gf_X0_21_C2 hX dX0_takeBack_39 ?_
    refine G_nmi (fun x6 => ?_)
    refine G_aI hX atC9 dX0_takeBack_42 (fun x7 => ?_)
    refine G_istore_n hX [(2, .int x7), (0, .ref (cx_ad X 2)), (1, .ref (cx_ad X p0))] rfl (by decide) rfl dX0_takeBack_43 ?_
    refine G_aload_n hX 1 rfl rfl dX0_takeBack_44 ?_
    refine gf_X0_11_C2 hX dX0_takeBack_45 ?_
    refine G_aload_n hX 1 rfl rfl dX0_takeBack_48 ?_
    refine gf_X0_21_C2 hX dX0_takeBack_49 ?_
    refine G_nmi (fun x8 => ?_)
    refine G_aI hX atC8 dX0_takeBack_52 (fun x9 => ?_)
    refine G_sw (fun hc0 => ?_) (fun hc0 => ?_)
    · refine G_swIn hX 88 0 (0) (by rw [hc0]; rfl) (by decide) (by decide) rfl rfl (by decide) dX0_takeBack_53 ?_
      refine G_aload_n hX 2 rfl rfl dX0_takeBack_88 ?_
      refine gf_X0_34_B0 hX hp0 dX0_takeBack_89 ?_
      refine G_iload_n hX 0 rfl rfl dX0_takeBack_92 ?_
      refine pf_X0_40_B12 hX hp0 dX0_takeBack_93 (fun μ => ?_)
      refine G_goto hX 187 (by decide) dX0_takeBack_96 ?_
      exact G_vret hX hQ dX0_takeBack_187
    refine G_sw (fun hc1 => ?_) (fun hc1 => ?_)
    · refine G_swIn hX 99 1 (1) (by rw [hc1]; rfl) (by decide) (by decide) rfl rfl (by decide) dX0_takeBack_53 ?_
      refine G_aload_n hX 2 rfl rfl dX0_takeBack_99 ?_
      refine gf_X0_34_B0 hX hp0 dX0_takeBack_100 ?_
      refine gf_X0_43_B12 hX hp0 dX0_takeBack_103 ?_
      refine G_iload_n hX 0 rfl rfl dX0_takeBack_106 ?_
      refine G_iconst hX (1 : Int32) rfl dX0_takeBack_107 ?_
      refine G_sZ hX (atB_22 hp0) dX0_takeBack_108 (fun μ => ?_)
      refine G_goto hX 187 (by decide) dX0_takeBack_109 ?_
      exact G_vret hX hQ dX0_takeBack_187
    refine G_sw (fun hc2 => ?_) (fun hc2 => ?_)
    · refine G_swIn hX 112 2 (2) (by rw [hc2]; rfl) (by decide) (by decide) rfl rfl (by decide) dX0_takeBack_53 ?_
      refine G_aload_n hX 2 rfl rfl dX0_takeBack_112 ?_
      refine G_iload_n hX 0 rfl rfl dX0_takeBack_113 ?_
      refine G_aload_n hX 1 rfl rfl dX0_takeBack_114 ?_
      refine gf_X0_18_C2 hX dX0_takeBack_115 ?_
      refine G_aload_n hX 1 rfl rfl dX0_takeBack_118 ?_
      refine gf_X0_21_C2 hX dX0_takeBack_119 ?_
      refine G_nmi (fun x10 => ?_)
      refine G_aI hX atC10 dX0_takeBack_122 (fun x11 => ?_)
      refine G_cVv hX p0 1 (fun ad adK => [.int x7, .int x11]) [] (fun z2 h2 => cX1_tellPrice_ok (cx_l X) N p0 x7 x11 μ z2 h2) ok_X1_tellPrice lm_X0_47 (atB_0 hp0).1 (atB_0 hp0).2 rfl rfl (fun _ _ => rfl) (Nat.le_of_ble_eq_true rfl) ⟨rfl, rfl, by decide, by decide⟩ (cs0 hcs) dX0_takeBack_123 (fun μ => ?_)
      refine G_goto hX 187 (by decide) dX0_takeBack_126 ?_
      exact G_vret hX hQ dX0_takeBack_187
    refine G_sw (fun hc3 => ?_) (fun hc3 => ?_)
    · refine G_swIn hX 129 3 (3) (by rw [hc3]; rfl) (by decide) (by decide) rfl rfl (by decide) dX0_takeBack_53 ?_
      refine G_aload_n hX 2 rfl rfl dX0_takeBack_129 ?_
      refine G_iload_n hX 0 rfl rfl dX0_takeBack_130 ?_
      refine G_aload_n hX 1 rfl rfl dX0_takeBack_131 ?_
      refine gf_X0_18_C2 hX dX0_takeBack_132 ?_
      refine G_aload_n hX 1 rfl rfl dX0_takeBack_135 ?_
      refine gf_X0_21_C2 hX dX0_takeBack_136 ?_
      refine G_nmi (fun x12 => ?_)
      refine G_aI hX atC10 dX0_takeBack_139 (fun x13 => ?_)
      refine G_cVv hX p0 1 (fun ad adK => [.int x7, .int x13]) [] (fun z2 h2 => cX1_tellCost_ok (cx_l X) N p0 x7 x13 μ z2 h2) ok_X1_tellCost lm_X0_51 (atB_0 hp0).1 (atB_0 hp0).2 rfl rfl (fun _ _ => rfl) (Nat.le_of_ble_eq_true rfl) ⟨rfl, rfl, by decide, by decide⟩ (cs0 hcs) dX0_takeBack_140 (fun μ => ?_)
      refine G_goto hX 187 (by decide) dX0_takeBack_143 ?_
      exact G_vret hX hQ dX0_takeBack_187
    refine G_sw (fun hc4 => ?_) (fun hc4 => ?_)
    · refine G_swIn hX 146 4 (4) (by rw [hc4]; rfl) (by decide) (by decide) rfl rfl (by decide) dX0_takeBack_53 ?_
      refine G_aload_n hX 2 rfl rfl dX0_takeBack_146 ?_
      refine gf_X0_54_B0 hX hp0 dX0_takeBack_147 ?_
      refine G_iload_n hX 0 rfl rfl dX0_takeBack_150 ?_
      refine G_aload_n hX 1 rfl rfl dX0_takeBack_151 ?_
      refine gf_X0_18_C2 hX dX0_takeBack_152 ?_
      refine G_aload_n hX 1 rfl rfl dX0_takeBack_155 ?_
      refine gf_X0_21_C2 hX dX0_takeBack_156 ?_
      refine G_nmi (fun x14 => ?_)
      refine G_aI hX atC10 dX0_takeBack_159 (fun x15 => ?_)
      refine G_sI hX (atB_28 hp0) dX0_takeBack_160 (fun μ => ?_)
      refine G_goto hX 187 (by decide) dX0_takeBack_161 ?_
      exact G_vret hX hQ dX0_takeBack_187
    refine G_swOut hX 164 (by decide) dX0_takeBack_53 (by have e0 := lv_neT (a := (0 : Int)) hc0 rfl; have e1 := lv_neT (a := (1 : Int)) hc1 rfl; have e2 := lv_neT (a := (2 : Int)) hc2 rfl; have e3 := lv_neT (a := (3 : Int)) hc3 rfl; have e4 := lv_neT (a := (4 : Int)) hc4 rfl; omega) ?_
    refine G_aload_n hX 2 rfl rfl dX0_takeBack_164 ?_
    refine gf_X0_57_B0 hX hp0 dX0_takeBack_165 ?_
    refine G_iload_n hX 0 rfl rfl dX0_takeBack_168 ?_
    refine G_aload_n hX 1 rfl rfl dX0_takeBack_169 ?_
    refine gf_X0_18_C2 hX dX0_takeBack_170 ?_
    refine G_aload_n hX 1 rfl rfl dX0_takeBack_173 ?_
    refine gf_X0_21_C2 hX dX0_takeBack_174 ?_
    refine G_nmi (fun x16 => ?_)
    refine G_aI hX atC10 dX0_takeBack_177 (fun x17 => ?_)
    refine G_if_eq hX 185 (by decide) dX0_takeBack_178 ?_ ?_
    · refine G_iconst hX (0 : Int32) rfl dX0_takeBack_185 ?_
      refine G_sZ hX (atB_27 hp0) dX0_takeBack_186 (fun μ => ?_)
      exact G_vret hX hQ dX0_takeBack_187
    · refine G_iconst hX (1 : Int32) rfl dX0_takeBack_181 ?_
      refine G_goto hX 186 (by decide) dX0_takeBack_182 ?_
      refine G_sZ hX (atB_27 hp0) dX0_takeBack_186 (fun μ => ?_)
      exact G_vret hX hQ dX0_takeBack_187
  · exact G_vret hX hQ dX0_takeBack_7
theorem cX0_takeBack_ok (l : Launch) (N : Nat) (p0 : Nat) (μ : Mem) (z : Unit × Mem) (h : fX0_takeBack N p0 μ = some z) : Mv wC l yX0_takeBack cX0_takeBack 3 (rmo 5 124) (fun ad adK => [.ref (ad 2), .ref (ad p0)]) μ z := Mv.of h (by decide +kernel) (fun _ _ => Nat.le_of_ble_eq_true rfl) (fun X hX hQ hl hcs => gX0_takeBack_E hX hQ hcs N p0 μ)
/-! ===== DutyCase$Sums.clear()V ===== -/
set_option maxHeartbeats 4000000 in
set_option maxRecDepth 100000 in
theorem gX9_clear_7 {X : Ctx} {z : Unit × Mem} (hX : Fx wC X cX9_clear 2 RX9 none (rmo 0 0)) (hQ : Qx_v wC X z) (hcs : cx_cells X = 0 ∧ cx_slots X = 0) (N : Nat) : ∀ (n : Nat) (b0 : Nat) (v1 : Int32) (hb0 : kU b0) (μ : Mem), G wC X z 7 [(0, .ref (cx_ad X b0)), (1, .int v1)] [] μ (fX9_clear_7 N n b0 v1 μ) := by
  intro n
  induction n with
  | zero =>
    intro b0 v1 hb0 μ
    exact G_none
  | succ n ih =>
    intro b0 v1 hb0 μ
    unfold fX9_clear_7
    refine G_iload_n hX 1 rfl rfl dX9_clear_7 ?_
    refine G_iconst hX (3 : Int32) rfl dX9_clear_8 ?_
    refine G_icmp_ge hX 32 (by decide) dX9_clear_9 ?_ ?_
    · exact G_vret hX hQ dX9_clear_32
    · refine G_aload_n hX 0 rfl rfl dX9_clear_12 ?_
      refine gf_X9_15_U0 hX hb0 dX9_clear_13 ?_
      refine G_iload_n hX 1 rfl rfl dX9_clear_16 ?_
      refine G_iconst hX (0 : Int32) rfl dX9_clear_17 ?_
      refine G_sI hX (atU_2 hb0) dX9_clear_18 (fun μ => ?_)
      refine G_aload_n hX 0 rfl rfl dX9_clear_19 ?_
      refine gf_X9_18_U0 hX hb0 dX9_clear_20 ?_
      refine G_iload_n hX 1 rfl rfl dX9_clear_23 ?_
      refine G_iconst hX (0 : Int32) rfl dX9_clear_24 ?_
      refine G_sI hX (atU_3 hb0) dX9_clear_25 (fun μ => ?_)
      refine G_iincN hX 1 (fun x1 => [(1, .int x1), (0, .ref (cx_ad X b0))]) rfl rfl (by decide) (fun _ => rfl) dX9_clear_26 (fun x1 => ?_)
      refine G_goto hX 7 (by decide) dX9_clear_29 ?_
      exact G_sub [1, 0] rfl (ih b0 x1 hb0 μ)
set_option maxHeartbeats 4000000 in
set_option maxRecDepth 100000 in
theorem gX9_clear_E {X : Ctx} {z : Unit × Mem} (hX : Fx wC X cX9_clear 2 RX9 none (rmo 0 0)) (hQ : Qx_v wC X z) (hcs : cx_cells X = 0 ∧ cx_slots X = 0) (N : Nat) (t0 : Nat) (μ : Mem) : G wC X z 0 [(0, .ref (cx_ad X t0))] [] μ (fX9_clear N t0 μ) := by
  unfold fX9_clear
  refine G_guard (fun ht0 => ?_)
  refine G_aload_n hX 0 rfl rfl dX9_clear_0 ?_
  refine G_iconst hX (0 : Int32) rfl dX9_clear_1 ?_
  refine pf_X9_25_U0 hX ht0 dX9_clear_2 (fun μ => ?_)
  refine G_iconst hX (0 : Int32) rfl dX9_clear_5 ?_
  refine G_istore_n hX [(1, .int (0 : Int32)), (0, .ref (cx_ad X t0))] rfl (by decide) rfl dX9_clear_6 ?_
  exact G_sub [1, 0] rfl (gX9_clear_7 hX hQ hcs N N t0 (0 : Int32) ht0 μ)
theorem cX9_clear_ok (l : Launch) (N : Nat) (t0 : Nat) (μ : Mem) (z : Unit × Mem) (h : fX9_clear N t0 μ = some z) : Mv wC l yX9_clear cX9_clear 2 (rmo 0 0) (fun ad adK => [.ref (ad t0)]) μ z := Mv.of h (by decide +kernel) (fun _ _ => Nat.le_of_ble_eq_true rfl) (fun X hX hQ hl hcs => gX9_clear_E hX hQ hcs N t0 μ)
/-! ===== DutyCase$Book.clear()V ===== -/
set_option maxHeartbeats 4000000 in
set_option maxRecDepth 100000 in
theorem gX1_clear_93 {X : Ctx} {z : Unit × Mem} (hX : Fx wC X cX1_clear 2 RX1 none (rmo 1 21)) (hQ : Qx_v wC X z) (hcs : cx_cells X = 0 ∧ cx_slots X = 0) (N : Nat) (b0 : Nat) (hb0 : kB b0) (μ : Mem) : G wC X z 93 [(0, .ref (cx_ad X b0))] [] μ (fX1_clear_93 N b0 μ) := by
  unfold fX1_clear_93
  refine G_aload_n hX 0 rfl rfl dX1_clear_93 ?_
  refine gf_X1_52_B0 hX hb0 dX1_clear_94 ?_
  refine G_iconst hX (4 : Int32) rfl dX1_clear_97 ?_
  refine G_bipush hX (10 : Int32) rfl dX1_clear_98 ?_
  refine G_sI hX (atB_28 hb0) dX1_clear_100 (fun μ => ?_)
  exact G_vret hX hQ dX1_clear_101
set_option maxHeartbeats 4000000 in
set_option maxRecDepth 100000 in
theorem gX1_clear_74 {X : Ctx} {z : Unit × Mem} (hX : Fx wC X cX1_clear 2 RX1 none (rmo 1 21)) (hQ : Qx_v wC X z) (hcs : cx_cells X = 0 ∧ cx_slots X = 0) (N : Nat) : ∀ (n : Nat) (b0 : Nat) (v1 : Int32) (hb0 : kB b0) (μ : Mem), G wC X z 74 [(0, .ref (cx_ad X b0)), (1, .int v1)] [] μ (fX1_clear_74 N n b0 v1 μ) := by
  intro n
  induction n with
  | zero =>
    intro b0 v1 hb0 μ
    exact G_none
  | succ n ih =>
    intro b0 v1 hb0 μ
    unfold fX1_clear_74
    refine G_iload_n hX 1 rfl rfl dX1_clear_74 ?_
    refine G_bipush hX (6 : Int32) rfl dX1_clear_75 ?_
    refine G_icmp_ge hX 93 (by decide) dX1_clear_77 ?_ ?_
    · exact G_sub [0] rfl (gX1_clear_93 hX hQ hcs N b0 hb0 μ)
    · refine G_aload_n hX 0 rfl rfl dX1_clear_80 ?_
      refine gf_X1_52_B0 hX hb0 dX1_clear_81 ?_
      refine G_iload_n hX 1 rfl rfl dX1_clear_84 ?_
      refine G_iconst hX (0 : Int32) rfl dX1_clear_85 ?_
      refine G_sI hX (atB_28 hb0) dX1_clear_86 (fun μ => ?_)
      refine G_iincN hX 1 (fun x3 => [(1, .int x3), (0, .ref (cx_ad X b0))]) rfl rfl (by decide) (fun _ => rfl) dX1_clear_87 (fun x3 => ?_)
      refine G_goto hX 74 (by decide) dX1_clear_90 ?_
      exact G_sub [1, 0] rfl (ih b0 x3 hb0 μ)
set_option maxHeartbeats 4000000 in
set_option maxRecDepth 100000 in
theorem gX1_clear_54 {X : Ctx} {z : Unit × Mem} (hX : Fx wC X cX1_clear 2 RX1 none (rmo 1 21)) (hQ : Qx_v wC X z) (hcs : cx_cells X = 0 ∧ cx_slots X = 0) (N : Nat) : ∀ (n : Nat) (b0 : Nat) (v1 : Int32) (hb0 : kB b0) (μ : Mem), G wC X z 54 [(0, .ref (cx_ad X b0)), (1, .int v1)] [] μ (fX1_clear_54 N n b0 v1 μ) := by
  intro n
  induction n with
  | zero =>
    intro b0 v1 hb0 μ
    exact G_none
  | succ n ih =>
    intro b0 v1 hb0 μ
    unfold fX1_clear_54
    refine G_iload_n hX 1 rfl rfl dX1_clear_54 ?_
    refine G_iconst hX (4 : Int32) rfl dX1_clear_55 ?_
    refine G_icmp_ge hX 72 (by decide) dX1_clear_56 ?_ ?_
    · refine G_iconst hX (0 : Int32) rfl dX1_clear_72 ?_
      refine G_istore_n hX [(1, .int (0 : Int32)), (0, .ref (cx_ad X b0))] rfl (by decide) rfl dX1_clear_73 ?_
      exact G_sub [1, 0] rfl (gX1_clear_74 hX hQ hcs N N b0 (0 : Int32) hb0 μ)
    · refine G_aload_n hX 0 rfl rfl dX1_clear_59 ?_
      refine gf_X1_34_B0 hX hb0 dX1_clear_60 ?_
      refine G_iload_n hX 1 rfl rfl dX1_clear_63 ?_
      refine G_iconst hX (0 : Int32) rfl dX1_clear_64 ?_
      refine G_sZ hX (atB_27 hb0) dX1_clear_65 (fun μ => ?_)
      refine G_iincN hX 1 (fun x2 => [(1, .int x2), (0, .ref (cx_ad X b0))]) rfl rfl (by decide) (fun _ => rfl) dX1_clear_66 (fun x2 => ?_)
      refine G_goto hX 54 (by decide) dX1_clear_69 ?_
      exact G_sub [1, 0] rfl (ih b0 x2 hb0 μ)
set_option maxHeartbeats 4000000 in
set_option maxRecDepth 100000 in
theorem gX1_clear_33 {X : Ctx} {z : Unit × Mem} (hX : Fx wC X cX1_clear 2 RX1 none (rmo 1 21)) (hQ : Qx_v wC X z) (hcs : cx_cells X = 0 ∧ cx_slots X = 0) (N : Nat) : ∀ (n : Nat) (b0 : Nat) (v1 : Int32) (hb0 : kB b0) (μ : Mem), G wC X z 33 [(0, .ref (cx_ad X b0)), (1, .int v1)] [] μ (fX1_clear_33 N n b0 v1 μ) := by
  intro n
  induction n with
  | zero =>
    intro b0 v1 hb0 μ
    exact G_none
  | succ n ih =>
    intro b0 v1 hb0 μ
    unfold fX1_clear_33
    refine G_iload_n hX 1 rfl rfl dX1_clear_33 ?_
    refine G_bipush hX (24 : Int32) rfl dX1_clear_34 ?_
    refine G_icmp_ge hX 52 (by decide) dX1_clear_36 ?_ ?_
    · refine G_iconst hX (0 : Int32) rfl dX1_clear_52 ?_
      refine G_istore_n hX [(1, .int (0 : Int32)), (0, .ref (cx_ad X b0))] rfl (by decide) rfl dX1_clear_53 ?_
      exact G_sub [1, 0] rfl (gX1_clear_54 hX hQ hcs N N b0 (0 : Int32) hb0 μ)
    · refine G_aload_n hX 0 rfl rfl dX1_clear_39 ?_
      refine gf_X1_31_B0 hX hb0 dX1_clear_40 ?_
      refine G_iload_n hX 1 rfl rfl dX1_clear_43 ?_
      refine G_iconst hX (0 : Int32) rfl dX1_clear_44 ?_
      refine G_sI hX (atB_26 hb0) dX1_clear_45 (fun μ => ?_)
      refine G_iincN hX 1 (fun x1 => [(1, .int x1), (0, .ref (cx_ad X b0))]) rfl rfl (by decide) (fun _ => rfl) dX1_clear_46 (fun x1 => ?_)
      refine G_goto hX 33 (by decide) dX1_clear_49 ?_
      exact G_sub [1, 0] rfl (ih b0 x1 hb0 μ)
set_option maxHeartbeats 4000000 in
set_option maxRecDepth 100000 in
theorem gX1_clear_E {X : Ctx} {z : Unit × Mem} (hX : Fx wC X cX1_clear 2 RX1 none (rmo 1 21)) (hQ : Qx_v wC X z) (hcs : cx_cells X = 0 ∧ cx_slots X = 0) (N : Nat) (t0 : Nat) (μ : Mem) : G wC X z 0 [(0, .ref (cx_ad X t0))] [] μ (fX1_clear N t0 μ) := by
  unfold fX1_clear
  refine G_guard (fun ht0 => ?_)
  refine G_aload_n hX 0 rfl rfl dX1_clear_0 ?_
  refine gf_X1_12_B0 hX ht0 dX1_clear_1 ?_
  refine G_iconst hX (0 : Int32) rfl dX1_clear_4 ?_
  refine pf_X1_55_B1 hX ht0 dX1_clear_5 (fun μ => ?_)
  refine G_aload_n hX 0 rfl rfl dX1_clear_8 ?_
  refine gf_X1_18_B0 hX ht0 dX1_clear_9 ?_
  refine G_iconst hX (0 : Int32) rfl dX1_clear_12 ?_
  refine pf_X1_55_B4 hX ht0 dX1_clear_13 (fun μ => ?_)
  refine G_aload_n hX 0 rfl rfl dX1_clear_16 ?_
  refine gf_X1_48_B0 hX ht0 dX1_clear_17 ?_
  refine G_iconst hX (0 : Int32) rfl dX1_clear_20 ?_
  refine pf_X1_59_B12 hX ht0 dX1_clear_21 (fun μ => ?_)
  refine G_aload_n hX 0 rfl rfl dX1_clear_24 ?_
  refine gf_X1_41_B0 hX ht0 dX1_clear_25 ?_
  refine G_cVv hX (t0 + 7) 9 (fun ad adK => []) [] (fun z2 h2 => cX9_clear_ok (cx_l X) N (t0 + 7) μ z2 h2) ok_X9_clear lm_X1_60 (atB_7 ht0).1 (atB_7 ht0).2 rfl rfl (fun _ _ => rfl) (Nat.le_of_ble_eq_true rfl) ⟨rfl, rfl, by decide, by decide⟩ (cs0 hcs) dX1_clear_28 (fun μ => ?_)
  refine G_iconst hX (0 : Int32) rfl dX1_clear_31 ?_
  refine G_istore_n hX [(1, .int (0 : Int32)), (0, .ref (cx_ad X t0))] rfl (by decide) rfl dX1_clear_32 ?_
  exact G_sub [1, 0] rfl (gX1_clear_33 hX hQ hcs N N t0 (0 : Int32) ht0 μ)
theorem cX1_clear_ok (l : Launch) (N : Nat) (t0 : Nat) (μ : Mem) (z : Unit × Mem) (h : fX1_clear N t0 μ = some z) : Mv wC l yX1_clear cX1_clear 2 (rmo 1 21) (fun ad adK => [.ref (ad t0)]) μ z := Mv.of h (by decide +kernel) (fun _ _ => Nat.le_of_ble_eq_true rfl) (fun X hX hQ hl hcs => gX1_clear_E hX hQ hcs N t0 μ)
/-! ===== DutyCase$Book.workOutAll()V ===== -/
set_option maxHeartbeats 4000000 in
set_option maxRecDepth 100000 in
theorem gX1_workOutAll_2 {X : Ctx} {z : Unit × Mem} (hX : Fx wC X cX1_workOutAll 2 RX1 none (rmo 4 101)) (hQ : Qx_v wC X z) (hcs : cx_cells X = 0 ∧ cx_slots X = 0) (N : Nat) : ∀ (n : Nat) (b0 : Nat) (v1 : Int32) (hb0 : kB b0) (μ : Mem), G wC X z 2 [(0, .ref (cx_ad X b0)), (1, .int v1)] [] μ (fX1_workOutAll_2 N n b0 v1 μ) := by
  intro n
  induction n with
  | zero =>
    intro b0 v1 hb0 μ
    exact G_none
  | succ n ih =>
    intro b0 v1 hb0 μ
    unfold fX1_workOutAll_2
    refine G_iload_n hX 1 rfl rfl dX1_workOutAll_2 ?_
    refine G_aload_n hX 0 rfl rfl dX1_workOutAll_3 ?_
    refine gf_X1_48_B0 hX hb0 dX1_workOutAll_4 ?_
    refine gf_X1_59_B12 hX hb0 dX1_workOutAll_7 ?_
    refine G_nmi (fun x1 => ?_)
    refine G_icmp_ge hX 24 (by decide) dX1_workOutAll_10 ?_ ?_
    · exact G_vret hX hQ dX1_workOutAll_24
    · refine G_aload_n hX 0 rfl rfl dX1_workOutAll_13 ?_
      refine G_iload_n hX 1 rfl rfl dX1_workOutAll_14 ?_
      refine G_cVv hX b0 1 (fun ad adK => [.int v1]) [] (fun z2 h2 => cX1_workOut_ok (cx_l X) N b0 v1 μ z2 h2) ok_X1_workOut lm_X1_95 (atB_0 hb0).1 (atB_0 hb0).2 rfl rfl (fun _ _ => rfl) (Nat.le_of_ble_eq_true rfl) ⟨rfl, rfl, by decide, by decide⟩ (cs0 hcs) dX1_workOutAll_15 (fun μ => ?_)
      refine G_iincN hX 1 (fun x2 => [(1, .int x2), (0, .ref (cx_ad X b0))]) rfl rfl (by decide) (fun _ => rfl) dX1_workOutAll_18 (fun x2 => ?_)
      refine G_goto hX 2 (by decide) dX1_workOutAll_21 ?_
      exact G_sub [1, 0] rfl (ih b0 x2 hb0 μ)
set_option maxHeartbeats 4000000 in
set_option maxRecDepth 100000 in
theorem gX1_workOutAll_E {X : Ctx} {z : Unit × Mem} (hX : Fx wC X cX1_workOutAll 2 RX1 none (rmo 4 101)) (hQ : Qx_v wC X z) (hcs : cx_cells X = 0 ∧ cx_slots X = 0) (N : Nat) (t0 : Nat) (μ : Mem) : G wC X z 0 [(0, .ref (cx_ad X t0))] [] μ (fX1_workOutAll N t0 μ) := by
  unfold fX1_workOutAll
  refine G_guard (fun ht0 => ?_)
  refine G_iconst hX (0 : Int32) rfl dX1_workOutAll_0 ?_
  refine G_istore_n hX [(1, .int (0 : Int32)), (0, .ref (cx_ad X t0))] rfl (by decide) rfl dX1_workOutAll_1 ?_
  exact G_sub [1, 0] rfl (gX1_workOutAll_2 hX hQ hcs N N t0 (0 : Int32) ht0 μ)
theorem cX1_workOutAll_ok (l : Launch) (N : Nat) (t0 : Nat) (μ : Mem) (z : Unit × Mem) (h : fX1_workOutAll N t0 μ = some z) : Mv wC l yX1_workOutAll cX1_workOutAll 2 (rmo 4 101) (fun ad adK => [.ref (ad t0)]) μ z := Mv.of h (by decide +kernel) (fun _ _ => Nat.le_of_ble_eq_true rfl) (fun X hX hQ hl hcs => gX1_workOutAll_E hX hQ hcs N t0 μ)
/-! ===== DutyCase$Book.isZeroing()Z ===== -/
set_option maxHeartbeats 4000000 in
set_option maxRecDepth 100000 in
theorem gX1_isZeroing_E {X : Ctx} {z : Int32 × Mem} (hX : Fx wC X cX1_isZeroing 1 RX1 (some .boolean) (rmo 0 0)) (hQ : Qx_i wC X z) (hcs : cx_cells X = 0 ∧ cx_slots X = 0) (N : Nat) (t0 : Nat) (μ : Mem) : G wC X z 0 [(0, .ref (cx_ad X t0))] [] μ (fX1_isZeroing N t0 μ) := by
  unfold fX1_isZeroing
  refine G_guard (fun ht0 => ?_)
  refine G_aload_n hX 0 rfl rfl dX1_isZeroing_0 ?_
  refine gf_X1_52_B0 hX ht0 dX1_isZeroing_1 ?_
  refine G_iconst hX (1 : Int32) rfl dX1_isZeroing_4 ?_
  refine G_aI hX (atB_28 ht0) dX1_isZeroing_5 (fun x1 => ?_)
  refine G_if_eq hX 13 (by decide) dX1_isZeroing_6 ?_ ?_
  · refine G_iconst hX (0 : Int32) rfl dX1_isZeroing_13 ?_
    exact G_zret hX hQ rfl dX1_isZeroing_14
  · refine G_iconst hX (1 : Int32) rfl dX1_isZeroing_9 ?_
    refine G_goto hX 14 (by decide) dX1_isZeroing_10 ?_
    exact G_zret hX hQ rfl dX1_isZeroing_14
theorem cX1_isZeroing_ok (l : Launch) (N : Nat) (t0 : Nat) (μ : Mem) (z : Int32 × Mem) (h : fX1_isZeroing N t0 μ = some z) : Mi wC l yX1_isZeroing cX1_isZeroing 1 .boolean (rmo 0 0) (fun ad adK => [.ref (ad t0)]) μ z := Mi.of h (by decide +kernel) (fun _ _ => Nat.le_of_ble_eq_true rfl) (fun X hX hQ hl hcs => gX1_isZeroing_E hX hQ hcs N t0 μ)
/-! ===== DutyCase$Book.methodOwed()I ===== -/
set_option maxHeartbeats 4000000 in
set_option maxRecDepth 100000 in
theorem gX1_methodOwed_E {X : Ctx} {z : Int32 × Mem} (hX : Fx wC X cX1_methodOwed 1 RX1 (some .int) (rmo 0 0)) (hQ : Qx_i wC X z) (hcs : cx_cells X = 0 ∧ cx_slots X = 0) (N : Nat) (t0 : Nat) (μ : Mem) : G wC X z 0 [(0, .ref (cx_ad X t0))] [] μ (fX1_methodOwed N t0 μ) := by
  unfold fX1_methodOwed
  refine G_guard (fun ht0 => ?_)
  refine G_aload_n hX 0 rfl rfl dX1_methodOwed_0 ?_
  refine gf_X1_52_B0 hX ht0 dX1_methodOwed_1 ?_
  refine G_iconst hX (0 : Int32) rfl dX1_methodOwed_4 ?_
  refine G_aI hX (atB_28 ht0) dX1_methodOwed_5 (fun x1 => ?_)
  refine G_iconst hX (2 : Int32) rfl dX1_methodOwed_6 ?_
  refine G_icmp_ne hX 14 (by decide) dX1_methodOwed_7 ?_ ?_
  · refine G_iconst hX (1 : Int32) rfl dX1_methodOwed_14 ?_
    exact G_iret hX hQ dX1_methodOwed_15
  · refine G_iconst hX (2 : Int32) rfl dX1_methodOwed_10 ?_
    refine G_goto hX 15 (by decide) dX1_methodOwed_11 ?_
    exact G_iret hX hQ dX1_methodOwed_15
theorem cX1_methodOwed_ok (l : Launch) (N : Nat) (t0 : Nat) (μ : Mem) (z : Int32 × Mem) (h : fX1_methodOwed N t0 μ = some z) : Mi wC l yX1_methodOwed cX1_methodOwed 1 .int (rmo 0 0) (fun ad adK => [.ref (ad t0)]) μ z := Mi.of h (by decide +kernel) (fun _ _ => Nat.le_of_ble_eq_true rfl) (fun X hX hQ hl hcs => gX1_methodOwed_E hX hQ hcs N t0 μ)
/-! ===== DutyCase$Book.monthToCompare(I)I ===== -/
set_option maxHeartbeats 4000000 in
set_option maxRecDepth 100000 in
theorem gX1_monthToCompare_E {X : Ctx} {z : Int32 × Mem} (hX : Fx wC X cX1_monthToCompare 2 RX1 (some .int) (rmo 0 0)) (hQ : Qx_i wC X z) (hcs : cx_cells X = 0 ∧ cx_slots X = 0) (N : Nat) (t0 : Nat) (p0 : Int32) (μ : Mem) : G wC X z 0 [(0, .ref (cx_ad X t0)), (1, .int p0)] [] μ (fX1_monthToCompare N t0 p0 μ) := by
  unfold fX1_monthToCompare
  refine G_guard (fun ht0 => ?_)
  refine G_aload_n hX 0 rfl rfl dX1_monthToCompare_0 ?_
  refine gf_X1_52_B0 hX ht0 dX1_monthToCompare_1 ?_
  refine G_iconst hX (3 : Int32) rfl dX1_monthToCompare_4 ?_
  refine G_aI hX (atB_28 ht0) dX1_monthToCompare_5 (fun x1 => ?_)
  refine G_if_eq hX 21 (by decide) dX1_monthToCompare_6 ?_ ?_
  · refine G_iconst hX (-1 : Int32) rfl dX1_monthToCompare_21 ?_
    exact G_iret hX hQ dX1_monthToCompare_22
  · refine G_aload_n hX 0 rfl rfl dX1_monthToCompare_9 ?_
    refine gf_X1_48_B0 hX ht0 dX1_monthToCompare_10 ?_
    refine gf_X1_99_B12 hX ht0 dX1_monthToCompare_13 ?_
    refine G_iload_n hX 1 rfl rfl dX1_monthToCompare_16 ?_
    refine G_aI hX (atB_17 ht0) dX1_monthToCompare_17 (fun x2 => ?_)
    refine G_goto hX 22 (by decide) dX1_monthToCompare_18 ?_
    exact G_iret hX hQ dX1_monthToCompare_22
theorem cX1_monthToCompare_ok (l : Launch) (N : Nat) (t0 : Nat) (p0 : Int32) (μ : Mem) (z : Int32 × Mem) (h : fX1_monthToCompare N t0 p0 μ = some z) : Mi wC l yX1_monthToCompare cX1_monthToCompare 2 .int (rmo 0 0) (fun ad adK => [.ref (ad t0), .int p0]) μ z := Mi.of h (by decide +kernel) (fun _ _ => Nat.le_of_ble_eq_true rfl) (fun X hX hQ hl hcs => gX1_monthToCompare_E hX hQ hcs N t0 p0 μ)
/-! ===== DutyCase$Book.countSilent()I ===== -/
set_option maxHeartbeats 4000000 in
set_option maxRecDepth 100000 in
theorem gX1_countSilent_4 {X : Ctx} {z : Int32 × Mem} (hX : Fx wC X cX1_countSilent 3 RX1 (some .int) (rmo 0 0)) (hQ : Qx_i wC X z) (hcs : cx_cells X = 0 ∧ cx_slots X = 0) (N : Nat) : ∀ (n : Nat) (b0 : Nat) (v1 : Int32) (v2 : Int32) (hb0 : kB b0) (μ : Mem), G wC X z 4 [(0, .ref (cx_ad X b0)), (1, .int v1), (2, .int v2)] [] μ (fX1_countSilent_4 N n b0 v1 v2 μ) := by
  intro n
  induction n with
  | zero =>
    intro b0 v1 v2 hb0 μ
    exact G_none
  | succ n ih =>
    intro b0 v1 v2 hb0 μ
    unfold fX1_countSilent_4
    refine G_iload_n hX 2 rfl rfl dX1_countSilent_4 ?_
    refine G_aload_n hX 0 rfl rfl dX1_countSilent_5 ?_
    refine gf_X1_18_B0 hX hb0 dX1_countSilent_6 ?_
    refine gf_X1_55_B4 hX hb0 dX1_countSilent_9 ?_
    refine G_nmi (fun x1 => ?_)
    refine G_icmp_ge hX 33 (by decide) dX1_countSilent_12 ?_ ?_
    · refine G_iload_n hX 1 rfl rfl dX1_countSilent_33 ?_
      exact G_iret hX hQ dX1_countSilent_34
    · refine G_aload_n hX 0 rfl rfl dX1_countSilent_15 ?_
      refine gf_X1_34_B0 hX hb0 dX1_countSilent_16 ?_
      refine G_iload_n hX 2 rfl rfl dX1_countSilent_19 ?_
      refine G_aZ hX (atB_27 hb0) dX1_countSilent_20 (fun x2 => ?_)
      refine G_if_eq hX 27 (by decide) dX1_countSilent_21 ?_ ?_
      · refine G_iincN hX 2 (fun x3 => [(2, .int x3), (0, .ref (cx_ad X b0)), (1, .int v1)]) rfl rfl (by decide) (fun _ => rfl) dX1_countSilent_27 (fun x3 => ?_)
        refine G_goto hX 4 (by decide) dX1_countSilent_30 ?_
        exact G_sub [1, 2, 0] rfl (ih b0 v1 x3 hb0 μ)
      · refine G_iincN hX 1 (fun x4 => [(1, .int x4), (0, .ref (cx_ad X b0)), (2, .int v2)]) rfl rfl (by decide) (fun _ => rfl) dX1_countSilent_24 (fun x4 => ?_)
        refine G_iincN hX 2 (fun x5 => [(2, .int x5), (1, .int x4), (0, .ref (cx_ad X b0))]) rfl rfl (by decide) (fun _ => rfl) dX1_countSilent_27 (fun x5 => ?_)
        refine G_goto hX 4 (by decide) dX1_countSilent_30 ?_
        exact G_sub [2, 1, 0] rfl (ih b0 x4 x5 hb0 μ)
set_option maxHeartbeats 4000000 in
set_option maxRecDepth 100000 in
theorem gX1_countSilent_E {X : Ctx} {z : Int32 × Mem} (hX : Fx wC X cX1_countSilent 3 RX1 (some .int) (rmo 0 0)) (hQ : Qx_i wC X z) (hcs : cx_cells X = 0 ∧ cx_slots X = 0) (N : Nat) (t0 : Nat) (μ : Mem) : G wC X z 0 [(0, .ref (cx_ad X t0))] [] μ (fX1_countSilent N t0 μ) := by
  unfold fX1_countSilent
  refine G_guard (fun ht0 => ?_)
  refine G_iconst hX (0 : Int32) rfl dX1_countSilent_0 ?_
  refine G_istore_n hX [(1, .int (0 : Int32)), (0, .ref (cx_ad X t0))] rfl (by decide) rfl dX1_countSilent_1 ?_
  refine G_iconst hX (0 : Int32) rfl dX1_countSilent_2 ?_
  refine G_istore_n hX [(2, .int (0 : Int32)), (1, .int (0 : Int32)), (0, .ref (cx_ad X t0))] rfl (by decide) rfl dX1_countSilent_3 ?_
  exact G_sub [2, 1, 0] rfl (gX1_countSilent_4 hX hQ hcs N N t0 (0 : Int32) (0 : Int32) ht0 μ)
theorem cX1_countSilent_ok (l : Launch) (N : Nat) (t0 : Nat) (μ : Mem) (z : Int32 × Mem) (h : fX1_countSilent N t0 μ = some z) : Mi wC l yX1_countSilent cX1_countSilent 3 .int (rmo 0 0) (fun ad adK => [.ref (ad t0)]) μ z := Mi.of h (by decide +kernel) (fun _ _ => Nat.le_of_ble_eq_true rfl) (fun X hX hQ hl hcs => gX1_countSilent_E hX hQ hcs N t0 μ)
/-! ===== DutyCase$Sums.emit(I)V ===== -/
set_option maxHeartbeats 4000000 in
set_option maxRecDepth 100000 in
theorem gX9_emit_E {X : Ctx} {z : Unit × Mem} (hX : Fx wC X cX9_emit 2 RX9 none (rmo 0 0)) (hQ : Qx_v wC X z) (hcs : cx_cells X = 0 ∧ cx_slots X = 0) (N : Nat) (t0 : Nat) (p0 : Int32) (μ : Mem) : G wC X z 0 [(0, .ref (cx_ad X t0)), (1, .int p0)] [] μ (fX9_emit N t0 p0 μ) := by
  unfold fX9_emit
  refine G_guard (fun ht0 => ?_)
  refine G_aload_n hX 0 rfl rfl dX9_emit_0 ?_
  refine gf_X9_25_U0 hX ht0 dX9_emit_1 ?_
  refine G_nmi (fun x1 => ?_)
  refine G_sipush hX (400 : Int32) rfl dX9_emit_4 ?_
  refine G_icmp_ge hX 30 (by decide) dX9_emit_7 ?_ ?_
  · exact G_vret hX hQ dX9_emit_30
  · refine G_aload_n hX 0 rfl rfl dX9_emit_10 ?_
    refine gf_X9_9_U0 hX ht0 dX9_emit_11 ?_
    refine G_aload_n hX 0 rfl rfl dX9_emit_14 ?_
    refine gf_X9_25_U0 hX ht0 dX9_emit_15 ?_
    refine G_nmi (fun x2 => ?_)
    refine G_iload_n hX 1 rfl rfl dX9_emit_18 ?_
    refine G_sI hX (atU_1 ht0) dX9_emit_19 (fun μ => ?_)
    refine G_aload_n hX 0 rfl rfl dX9_emit_20 ?_
    refine G_dup hX rfl dX9_emit_21 ?_
    refine gf_X9_25_U0 hX ht0 dX9_emit_22 ?_
    refine G_nmi (fun x3 => ?_)
    refine G_iconst hX (1 : Int32) rfl dX9_emit_25 ?_
    refine G_iadd hX dX9_emit_26 ?_
    refine G_nmi (fun x4 => ?_)
    refine pf_X9_25_U0 hX ht0 dX9_emit_27 (fun μ => ?_)
    exact G_vret hX hQ dX9_emit_30
theorem cX9_emit_ok (l : Launch) (N : Nat) (t0 : Nat) (p0 : Int32) (μ : Mem) (z : Unit × Mem) (h : fX9_emit N t0 p0 μ = some z) : Mv wC l yX9_emit cX9_emit 2 (rmo 0 0) (fun ad adK => [.ref (ad t0), .int p0]) μ z := Mv.of h (by decide +kernel) (fun _ _ => Nat.le_of_ble_eq_true rfl) (fun X hX hQ hl hcs => gX9_emit_E hX hQ hcs N t0 p0 μ)
/-! ===== DutyCase$Sums.tell(II)V ===== -/
set_option maxHeartbeats 4000000 in
set_option maxRecDepth 100000 in
theorem gX9_tell_E {X : Ctx} {z : Unit × Mem} (hX : Fx wC X cX9_tell 3 RX9 none (rmo 0 0)) (hQ : Qx_v wC X z) (hcs : cx_cells X = 0 ∧ cx_slots X = 0) (N : Nat) (t0 : Nat) (p0 : Int32) (p1 : Int32) (μ : Mem) : G wC X z 0 [(0, .ref (cx_ad X t0)), (1, .int p0), (2, .int p1)] [] μ (fX9_tell N t0 p0 p1 μ) := by
  unfold fX9_tell
  refine G_guard (fun ht0 => ?_)
  refine G_aload_n hX 0 rfl rfl dX9_tell_0 ?_
  refine gf_X9_15_U0 hX ht0 dX9_tell_1 ?_
  refine G_iload_n hX 1 rfl rfl dX9_tell_4 ?_
  refine G_iload_n hX 2 rfl rfl dX9_tell_5 ?_
  refine G_sI hX (atU_2 ht0) dX9_tell_6 (fun μ => ?_)
  refine G_aload_n hX 0 rfl rfl dX9_tell_7 ?_
  refine gf_X9_18_U0 hX ht0 dX9_tell_8 ?_
  refine G_iload_n hX 1 rfl rfl dX9_tell_11 ?_
  refine G_aload_n hX 0 rfl rfl dX9_tell_12 ?_
  refine gf_X9_25_U0 hX ht0 dX9_tell_13 ?_
  refine G_nmi (fun x1 => ?_)
  refine G_sI hX (atU_3 ht0) dX9_tell_16 (fun μ => ?_)
  exact G_vret hX hQ dX9_tell_17
theorem cX9_tell_ok (l : Launch) (N : Nat) (t0 : Nat) (p0 : Int32) (p1 : Int32) (μ : Mem) (z : Unit × Mem) (h : fX9_tell N t0 p0 p1 μ = some z) : Mv wC l yX9_tell cX9_tell 3 (rmo 0 0) (fun ad adK => [.ref (ad t0), .int p0, .int p1]) μ z := Mv.of h (by decide +kernel) (fun _ _ => Nat.le_of_ble_eq_true rfl) (fun X hX hQ hl hcs => gX9_tell_E hX hQ hcs N t0 p0 p1 μ)
