/-! ===== DutyCaseModel.lettersOf(I)I ===== -/
set_option maxHeartbeats 4000000 in
set_option maxRecDepth 100000 in
theorem gX11_lettersOf_4 {X : Ctx} {z : Int32 × Mem} (hX : Fx wM X cX11_lettersOf 3 RX11 (some .int) (rmo 0 0)) (hQ : Qx_i wM X z) (hcs : cx_cells X = 0 ∧ cx_slots X = 0) (N : Nat) : ∀ (n : Nat) (v1 : Int32) (v2 : Int32) (μ : Mem), G wM X z 4 [(1, .int v1), (2, .int v2)] [] μ (fX11_lettersOf_4 N n v1 v2 μ) := by
  intro n
  induction n with
  | zero =>
    intro v1 v2 μ
    exact G_none
  | succ n ih =>
    intro v1 v2 μ
    unfold fX11_lettersOf_4
    refine G_iload_n hX 1 rfl rfl dX11_lettersOf_4 ?_
    refine G_if_le hX 18 (by decide) dX11_lettersOf_5 ?_ ?_
    · refine G_iload_n hX 0 rfl rfl dX11_lettersOf_18 ?_
      exact G_iret hX hQ dX11_lettersOf_19
    · refine G_iincN hX 0 (fun x1 => [(1, .int x1), (2, .int v2)]) rfl rfl (by decide) (fun _ => rfl) dX11_lettersOf_8 (fun x1 => ?_)
      refine G_iload_n hX 1 rfl rfl dX11_lettersOf_11 ?_
      refine G_iconst hX (5 : Int32) rfl dX11_lettersOf_12 ?_
      refine G_ishr hX dX11_lettersOf_13 ?_
      refine G_nmi (fun x2 => ?_)
      refine G_istore_n hX [(2, .int x2), (1, .int x1)] rfl (by decide) rfl dX11_lettersOf_14 ?_
      refine G_goto hX 4 (by decide) dX11_lettersOf_15 ?_
      exact G_sub [1, 0] rfl (ih x1 x2 μ)
set_option maxHeartbeats 4000000 in
set_option maxRecDepth 100000 in
theorem gX11_lettersOf_E {X : Ctx} {z : Int32 × Mem} (hX : Fx wM X cX11_lettersOf 3 RX11 (some .int) (rmo 0 0)) (hQ : Qx_i wM X z) (hcs : cx_cells X = 0 ∧ cx_slots X = 0) (N : Nat) (p0 : Int32) (μ : Mem) : G wM X z 0 [(0, .int p0)] [] μ (fX11_lettersOf N p0 μ) := by
  unfold fX11_lettersOf
  refine G_iconst hX (0 : Int32) rfl dX11_lettersOf_0 ?_
  refine G_istore_n hX [(1, .int (0 : Int32)), (0, .int p0)] rfl (by decide) rfl dX11_lettersOf_1 ?_
  refine G_iload_n hX 1 rfl rfl dX11_lettersOf_2 ?_
  refine G_istore_n hX [(2, .int p0), (1, .int (0 : Int32)), (0, .int p0)] rfl (by decide) rfl dX11_lettersOf_3 ?_
  exact G_sub [1, 0] rfl (gX11_lettersOf_4 hX hQ hcs N N (0 : Int32) p0 μ)
theorem cX11_lettersOf_ok (l : Launch) (N : Nat) (p0 : Int32) (μ : Mem) (z : Int32 × Mem) (h : fX11_lettersOf N p0 μ = some z) : Mi wM l yX11_lettersOf cX11_lettersOf 3 .int (rmo 0 0) (fun ad adK => [.int p0]) μ z := Mi.of h (by decide +kernel) (fun _ _ => Nat.le_of_ble_eq_true rfl) (fun X hX hQ hl hcs => gX11_lettersOf_E hX hQ hcs N p0 μ)
/-! ===== DutyCaseModel.letter(II)I ===== -/
set_option maxHeartbeats 4000000 in
set_option maxRecDepth 100000 in
theorem gX11_letter_E {X : Ctx} {z : Int32 × Mem} (hX : Fx wM X cX11_letter 3 RX11 (some .int) (rmo 1 25)) (hQ : Qx_i wM X z) (hcs : cx_cells X = 0 ∧ cx_slots X = 0) (N : Nat) (p0 : Int32) (p1 : Int32) (μ : Mem) : G wM X z 0 [(0, .int p0), (1, .int p1)] [] μ (fX11_letter N p0 p1 μ) := by
  unfold fX11_letter
  refine G_iload_n hX 0 rfl rfl dX11_letter_0 ?_
  refine G_cSi hX (fun ad adK => [.int p0]) [] (fun z2 h2 => cX11_lettersOf_ok (cx_l X) N p0 μ z2 h2) ok_X11_lettersOf lm_X11_308 rfl (fun _ _ => rfl) (Nat.le_of_ble_eq_true rfl) ⟨rfl, rfl, by decide, by decide⟩ (cs0 hcs) dX11_letter_1 (fun r1 μ => ?_)
  refine G_istore_n hX [(2, .int r1), (0, .int p0), (1, .int p1)] rfl (by decide) rfl dX11_letter_4 ?_
  refine G_iload_n hX 2 rfl rfl dX11_letter_5 ?_
  refine G_i2l hX dX11_letter_6 ?_
  refine G_lconst hX (0 : Int64) rfl dX11_letter_7 ?_
  refine G_iload_n hX 0 rfl rfl dX11_letter_8 ?_
  refine G_iconst hX (1 : Int32) rfl dX11_letter_9 ?_
  refine G_isub hX dX11_letter_10 ?_
  refine G_i2l hX dX11_letter_11 ?_
  refine G_cSi hX (fun ad adK => [.long p1.toInt64, .long (0 : Int64), .long ((r1 - (1 : Int32)).toInt64)]) [] (fun z2 h2 => cX11_isIn_ok (cx_l X) N p1.toInt64 (0 : Int64) ((r1 - (1 : Int32)).toInt64) μ z2 h2) ok_X11_isIn lm_X11_301 rfl (fun _ _ => rfl) (Nat.le_of_ble_eq_true rfl) ⟨rfl, rfl, by decide, by decide⟩ (cs0 hcs) dX11_letter_12 (fun r2 μ => ?_)
  refine G_if_eq hX 36 (by decide) dX11_letter_15 ?_ ?_
  · refine G_iconst hX (-1 : Int32) rfl dX11_letter_36 ?_
    exact G_iret hX hQ dX11_letter_37
  · refine G_bipush hX (96 : Int32) rfl dX11_letter_18 ?_
    refine G_iload_n hX 1 rfl rfl dX11_letter_20 ?_
    refine G_iconst hX (5 : Int32) rfl dX11_letter_21 ?_
    refine G_iload_n hX 0 rfl rfl dX11_letter_22 ?_
    refine G_iconst hX (1 : Int32) rfl dX11_letter_23 ?_
    refine G_isub hX dX11_letter_24 ?_
    refine G_iload_n hX 2 rfl rfl dX11_letter_25 ?_
    refine G_isub hX dX11_letter_26 ?_
    refine G_imul hX dX11_letter_27 ?_
    refine G_ishr hX dX11_letter_28 ?_
    refine G_bipush hX (31 : Int32) rfl dX11_letter_29 ?_
    refine G_iand hX dX11_letter_31 ?_
    refine G_iadd hX dX11_letter_32 ?_
    refine G_goto hX 37 (by decide) dX11_letter_33 ?_
    exact G_iret hX hQ dX11_letter_37
theorem cX11_letter_ok (l : Launch) (N : Nat) (p0 : Int32) (p1 : Int32) (μ : Mem) (z : Int32 × Mem) (h : fX11_letter N p0 p1 μ = some z) : Mi wM l yX11_letter cX11_letter 3 .int (rmo 1 25) (fun ad adK => [.int p0, .int p1]) μ z := Mi.of h (by decide +kernel) (fun _ _ => Nat.le_of_ble_eq_true rfl) (fun X hX hQ hl hcs => gX11_letter_E hX hQ hcs N p0 p1 μ)
/-! ===== DutyCaseModel.name(ZII)I ===== -/
set_option maxHeartbeats 4000000 in
set_option maxRecDepth 100000 in
theorem gX11_name_29 {X : Ctx} {z : Int32 × Mem} (hX : Fx wM X cX11_name 4 RX11 (some .int) (rmo 2 47)) (hQ : Qx_i wM X z) (hcs : cx_cells X = 0 ∧ cx_slots X = 0) (N : Nat) (v1 : Int32) (v2 : Int32) (v3 : Int32) (s0 : Int32) (μ : Mem) : G wM X z 29 [(0, .ref (cx_ad X 0)), (1, .int v1), (2, .int v2), (3, .int v3)] [.int s0, .ref (cx_ad X 0)] μ (fX11_name_29 N v1 v2 v3 s0 μ) := by
  unfold fX11_name_29
  refine pf_X11_104_M0 hX dX11_name_29 (fun μ => ?_)
  refine G_aload_n hX 0 rfl rfl dX11_name_32 ?_
  refine gf_X11_104_M0 hX dX11_name_33 ?_
  refine G_nmi (fun x3 => ?_)
  refine G_if_le hX 43 (by decide) dX11_name_36 ?_ ?_
  · refine G_iload_n hX 1 rfl rfl dX11_name_43 ?_
    refine G_if_eq hX 56 (by decide) dX11_name_44 ?_ ?_
    · refine G_aload_n hX 0 rfl rfl dX11_name_56 ?_
      refine gf_X11_19_M0 hX dX11_name_57 ?_
      refine G_iload_n hX 2 rfl rfl dX11_name_60 ?_
      refine G_aI hX atM4 dX11_name_61 (fun x4 => ?_)
      refine G_iload_n hX 3 rfl rfl dX11_name_62 ?_
      refine G_cSi hX (fun ad adK => [.int x4, .int v3]) [] (fun z2 h2 => cX11_letter_ok (cx_l X) N x4 v3 μ z2 h2) ok_X11_letter lm_X11_317 rfl (fun _ _ => rfl) (Nat.le_of_ble_eq_true rfl) ⟨rfl, rfl, by decide, by decide⟩ (cs0 hcs) dX11_name_63 (fun r5 μ => ?_)
      exact G_iret hX hQ dX11_name_66
    · refine G_aload_n hX 0 rfl rfl dX11_name_47 ?_
      refine gf_X11_22_M0 hX dX11_name_48 ?_
      refine G_iload_n hX 2 rfl rfl dX11_name_51 ?_
      refine G_aI hX atM5 dX11_name_52 (fun x6 => ?_)
      refine G_goto hX 62 (by decide) dX11_name_53 ?_
      refine G_iload_n hX 3 rfl rfl dX11_name_62 ?_
      refine G_cSi hX (fun ad adK => [.int x6, .int v3]) [] (fun z2 h2 => cX11_letter_ok (cx_l X) N x6 v3 μ z2 h2) ok_X11_letter lm_X11_317 rfl (fun _ _ => rfl) (Nat.le_of_ble_eq_true rfl) ⟨rfl, rfl, by decide, by decide⟩ (cs0 hcs) dX11_name_63 (fun r7 μ => ?_)
      exact G_iret hX hQ dX11_name_66
  · refine G_iconst hX (0 : Int32) rfl dX11_name_39 ?_
    refine G_goto hX 66 (by decide) dX11_name_40 ?_
    exact G_iret hX hQ dX11_name_66
set_option maxHeartbeats 4000000 in
set_option maxRecDepth 100000 in
theorem gX11_name_E {X : Ctx} {z : Int32 × Mem} (hX : Fx wM X cX11_name 4 RX11 (some .int) (rmo 2 47)) (hQ : Qx_i wM X z) (hcs : cx_cells X = 0 ∧ cx_slots X = 0) (N : Nat) (p0 : Int32) (p1 : Int32) (p2 : Int32) (μ : Mem) : G wM X z 0 [(0, .ref (cx_ad X 0)), (1, .int p0), (2, .int p1), (3, .int p2)] [] μ (fX11_name N p0 p1 p2 μ) := by
  unfold fX11_name
  refine G_aload_n hX 0 rfl rfl dX11_name_0 ?_
  refine G_iload_n hX 1 rfl rfl dX11_name_1 ?_
  refine G_if_eq hX 16 (by decide) dX11_name_2 ?_ ?_
  · refine G_aload_n hX 0 rfl rfl dX11_name_16 ?_
    refine G_iload_n hX 2 rfl rfl dX11_name_17 ?_
    refine G_cVi hX 0 11 (fun ad adK => [.int p1]) [.ref (cx_ad X 0)] (fun z2 h2 => cX11_isModel_ok (cx_l X) N p1 μ z2 h2) ok_X11_isModel lm_X11_314 atM0.1 atM0.2 rfl rfl (fun _ _ => rfl) (Nat.le_of_ble_eq_true rfl) ⟨rfl, rfl, by decide, by decide⟩ (cs0 hcs) dX11_name_18 (fun r1 μ => ?_)
    refine G_if_eq hX 28 (by decide) dX11_name_21 ?_ ?_
    · refine G_iconst hX (1 : Int32) rfl dX11_name_28 ?_
      exact G_sub [0, 1, 2, 3] rfl (gX11_name_29 hX hQ hcs N p0 p1 p2 (1 : Int32) μ)
    · refine G_iconst hX (0 : Int32) rfl dX11_name_24 ?_
      refine G_goto hX 29 (by decide) dX11_name_25 ?_
      exact G_sub [0, 1, 2, 3] rfl (gX11_name_29 hX hQ hcs N p0 p1 p2 (0 : Int32) μ)
  · refine G_aload_n hX 0 rfl rfl dX11_name_5 ?_
    refine G_iload_n hX 2 rfl rfl dX11_name_6 ?_
    refine G_cVi hX 0 11 (fun ad adK => [.int p1]) [.ref (cx_ad X 0)] (fun z2 h2 => cX11_isFirm_ok (cx_l X) N p1 μ z2 h2) ok_X11_isFirm lm_X11_311 atM0.1 atM0.2 rfl rfl (fun _ _ => rfl) (Nat.le_of_ble_eq_true rfl) ⟨rfl, rfl, by decide, by decide⟩ (cs0 hcs) dX11_name_7 (fun r2 μ => ?_)
    refine G_if_eq hX 28 (by decide) dX11_name_10 ?_ ?_
    · refine G_iconst hX (1 : Int32) rfl dX11_name_28 ?_
      exact G_sub [0, 1, 2, 3] rfl (gX11_name_29 hX hQ hcs N p0 p1 p2 (1 : Int32) μ)
    · refine G_goto hX 24 (by decide) dX11_name_13 ?_
      refine G_iconst hX (0 : Int32) rfl dX11_name_24 ?_
      refine G_goto hX 29 (by decide) dX11_name_25 ?_
      exact G_sub [0, 1, 2, 3] rfl (gX11_name_29 hX hQ hcs N p0 p1 p2 (0 : Int32) μ)
theorem cX11_name_ok (l : Launch) (N : Nat) (p0 : Int32) (p1 : Int32) (p2 : Int32) (μ : Mem) (z : Int32 × Mem) (h : fX11_name N p0 p1 p2 μ = some z) : Mi wM l yX11_name cX11_name 4 .int (rmo 2 47) (fun ad adK => [.ref (ad 0), .int p0, .int p1, .int p2]) μ z := Mi.of h (by decide +kernel) (fun _ _ => Nat.le_of_ble_eq_true rfl) (fun X hX hQ hl hcs => gX11_name_E hX hQ hcs N p0 p1 p2 μ)
/-! ===== DutyCaseModel.model(II)I ===== -/
set_option maxHeartbeats 4000000 in
set_option maxRecDepth 100000 in
theorem gX11_model_30 {X : Ctx} {z : Int32 × Mem} (hX : Fx wM X cX11_model 3 RX11 (some .int) (rmo 2 46)) (hQ : Qx_i wM X z) (hcs : cx_cells X = 0 ∧ cx_slots X = 0) (N : Nat) (v1 : Int32) (v2 : Int32) (s0 : Int32) (μ : Mem) : G wM X z 30 [(0, .ref (cx_ad X 0)), (1, .int v1), (2, .int v2)] [.int s0, .ref (cx_ad X 0)] μ (fX11_model_30 N v1 v2 s0 μ) := by
  unfold fX11_model_30
  refine pf_X11_104_M0 hX dX11_model_30 (fun μ => ?_)
  refine G_aload_n hX 0 rfl rfl dX11_model_33 ?_
  refine gf_X11_104_M0 hX dX11_model_34 ?_
  refine G_nmi (fun x3 => ?_)
  refine G_if_le hX 44 (by decide) dX11_model_37 ?_ ?_
  · refine G_aload_n hX 0 rfl rfl dX11_model_44 ?_
    refine gf_X11_25_M0 hX dX11_model_45 ?_
    refine G_iconst hX (3 : Int32) rfl dX11_model_48 ?_
    refine G_iload_n hX 1 rfl rfl dX11_model_49 ?_
    refine G_imul hX dX11_model_50 ?_
    refine G_iload_n hX 2 rfl rfl dX11_model_51 ?_
    refine G_iadd hX dX11_model_52 ?_
    refine G_aI hX atM6 dX11_model_53 (fun x4 => ?_)
    exact G_iret hX hQ dX11_model_54
  · refine G_iconst hX (0 : Int32) rfl dX11_model_40 ?_
    refine G_goto hX 54 (by decide) dX11_model_41 ?_
    exact G_iret hX hQ dX11_model_54
set_option maxHeartbeats 4000000 in
set_option maxRecDepth 100000 in
theorem gX11_model_E {X : Ctx} {z : Int32 × Mem} (hX : Fx wM X cX11_model 3 RX11 (some .int) (rmo 2 46)) (hQ : Qx_i wM X z) (hcs : cx_cells X = 0 ∧ cx_slots X = 0) (N : Nat) (p0 : Int32) (p1 : Int32) (μ : Mem) : G wM X z 0 [(0, .ref (cx_ad X 0)), (1, .int p0), (2, .int p1)] [] μ (fX11_model N p0 p1 μ) := by
  unfold fX11_model
  refine G_aload_n hX 0 rfl rfl dX11_model_0 ?_
  refine G_aload_n hX 0 rfl rfl dX11_model_1 ?_
  refine G_iload_n hX 1 rfl rfl dX11_model_2 ?_
  refine G_cVi hX 0 11 (fun ad adK => [.int p0]) [.ref (cx_ad X 0)] (fun z2 h2 => cX11_isModel_ok (cx_l X) N p0 μ z2 h2) ok_X11_isModel lm_X11_314 atM0.1 atM0.2 rfl rfl (fun _ _ => rfl) (Nat.le_of_ble_eq_true rfl) ⟨rfl, rfl, by decide, by decide⟩ (cs0 hcs) dX11_model_3 (fun r1 μ => ?_)
  refine G_if_ne hX 13 (by decide) dX11_model_6 ?_ ?_
  · refine G_iload_n hX 2 rfl rfl dX11_model_13 ?_
    refine G_i2l hX dX11_model_14 ?_
    refine G_lconst hX (0 : Int64) rfl dX11_model_15 ?_
    refine G_ldc2 hX lc_X11_320 dX11_model_16 ?_
    refine G_cSi hX (fun ad adK => [.long p1.toInt64, .long (0 : Int64), .long (2 : Int64)]) [.ref (cx_ad X 0)] (fun z2 h2 => cX11_isIn_ok (cx_l X) N p1.toInt64 (0 : Int64) (2 : Int64) μ z2 h2) ok_X11_isIn lm_X11_301 rfl (fun _ _ => rfl) (Nat.le_of_ble_eq_true rfl) ⟨rfl, rfl, by decide, by decide⟩ (cs0 hcs) dX11_model_19 (fun r2 μ => ?_)
    refine G_if_eq hX 29 (by decide) dX11_model_22 ?_ ?_
    · refine G_iconst hX (2 : Int32) rfl dX11_model_29 ?_
      exact G_sub [0, 1, 2] rfl (gX11_model_30 hX hQ hcs N p0 p1 (2 : Int32) μ)
    · refine G_iconst hX (0 : Int32) rfl dX11_model_25 ?_
      refine G_goto hX 30 (by decide) dX11_model_26 ?_
      exact G_sub [0, 1, 2] rfl (gX11_model_30 hX hQ hcs N p0 p1 (0 : Int32) μ)
  · refine G_iconst hX (1 : Int32) rfl dX11_model_9 ?_
    refine G_goto hX 30 (by decide) dX11_model_10 ?_
    exact G_sub [0, 1, 2] rfl (gX11_model_30 hX hQ hcs N p0 p1 (1 : Int32) μ)
theorem cX11_model_ok (l : Launch) (N : Nat) (p0 : Int32) (p1 : Int32) (μ : Mem) (z : Int32 × Mem) (h : fX11_model N p0 p1 μ = some z) : Mi wM l yX11_model cX11_model 3 .int (rmo 2 46) (fun ad adK => [.ref (ad 0), .int p0, .int p1]) μ z := Mi.of h (by decide +kernel) (fun _ _ => Nat.le_of_ble_eq_true rfl) (fun X hX hQ hl hcs => gX11_model_E hX hQ hcs N p0 p1 μ)
/-! ===== DutyCaseModel.costOf(II)I ===== -/
set_option maxHeartbeats 4000000 in
set_option maxRecDepth 100000 in
theorem gX11_costOf_E {X : Ctx} {z : Int32 × Mem} (hX : Fx wM X cX11_costOf 4 RX11 (some .int) (rmo 0 0)) (hQ : Qx_i wM X z) (hcs : cx_cells X = 0 ∧ cx_slots X = 0) (N : Nat) (p0 : Int32) (p1 : Int32) (μ : Mem) : G wM X z 0 [(0, .ref (cx_ad X 0)), (1, .int p0), (2, .int p1)] [] μ (fX11_costOf N p0 p1 μ) := by
  unfold fX11_costOf
  refine G_aload_n hX 0 rfl rfl dX11_costOf_0 ?_
  refine gf_X11_7_M0 hX dX11_costOf_1 ?_
  refine G_iconst hX (0 : Int32) rfl dX11_costOf_4 ?_
  refine G_bipush hX (6 : Int32) rfl dX11_costOf_5 ?_
  refine G_iload_n hX 1 rfl rfl dX11_costOf_7 ?_
  refine G_imul hX dX11_costOf_8 ?_
  refine G_iadd hX dX11_costOf_9 ?_
  refine G_iload_n hX 2 rfl rfl dX11_costOf_10 ?_
  refine G_iadd hX dX11_costOf_11 ?_
  refine G_aI hX atM1 dX11_costOf_12 (fun x1 => ?_)
  refine G_istore_n hX [(3, .int x1), (0, .ref (cx_ad X 0)), (1, .int p0), (2, .int p1)] rfl (by decide) rfl dX11_costOf_13 ?_
  refine G_iload_n hX 0 rfl rfl dX11_costOf_14 ?_
  refine G_if_le hX 22 (by decide) dX11_costOf_15 ?_ ?_
  · refine G_aload_n hX 1 rfl rfl dX11_costOf_22 ?_
    refine gf_X11_25_M0 hX dX11_costOf_23 ?_
    refine G_iconst hX (3 : Int32) rfl dX11_costOf_26 ?_
    refine G_iload_n hX 3 rfl rfl dX11_costOf_27 ?_
    refine G_imul hX dX11_costOf_28 ?_
    refine G_aI hX atM6 dX11_costOf_29 (fun x2 => ?_)
    exact G_iret hX hQ dX11_costOf_30
  · refine G_iload_n hX 0 rfl rfl dX11_costOf_18 ?_
    refine G_goto hX 30 (by decide) dX11_costOf_19 ?_
    exact G_iret hX hQ dX11_costOf_30
theorem cX11_costOf_ok (l : Launch) (N : Nat) (p0 : Int32) (p1 : Int32) (μ : Mem) (z : Int32 × Mem) (h : fX11_costOf N p0 p1 μ = some z) : Mi wM l yX11_costOf cX11_costOf 4 .int (rmo 0 0) (fun ad adK => [.ref (ad 0), .int p0, .int p1]) μ z := Mi.of h (by decide +kernel) (fun _ _ => Nat.le_of_ble_eq_true rfl) (fun X hX hQ hl hcs => gX11_costOf_E hX hQ hcs N p0 p1 μ)
/-! ===== DutyCaseModel.cost(II)I ===== -/
set_option maxHeartbeats 4000000 in
set_option maxRecDepth 100000 in
theorem gX11_cost_22 {X : Ctx} {z : Int32 × Mem} (hX : Fx wM X cX11_cost 3 RX11 (some .int) (rmo 2 46)) (hQ : Qx_i wM X z) (hcs : cx_cells X = 0 ∧ cx_slots X = 0) (N : Nat) (v1 : Int32) (v2 : Int32) (s0 : Int32) (μ : Mem) : G wM X z 22 [(0, .ref (cx_ad X 0)), (1, .int v1), (2, .int v2)] [.int s0, .ref (cx_ad X 0)] μ (fX11_cost_22 N v1 v2 s0 μ) := by
  unfold fX11_cost_22
  refine pf_X11_104_M0 hX dX11_cost_22 (fun μ => ?_)
  refine G_aload_n hX 0 rfl rfl dX11_cost_25 ?_
  refine gf_X11_104_M0 hX dX11_cost_26 ?_
  refine G_nmi (fun x3 => ?_)
  refine G_if_le hX 36 (by decide) dX11_cost_29 ?_ ?_
  · refine G_aload_n hX 0 rfl rfl dX11_cost_36 ?_
    refine G_iload_n hX 1 rfl rfl dX11_cost_37 ?_
    refine G_iload_n hX 2 rfl rfl dX11_cost_38 ?_
    refine G_cVi hX 0 11 (fun ad adK => [.int v1, .int v2]) [] (fun z2 h2 => cX11_costOf_ok (cx_l X) N v1 v2 μ z2 h2) ok_X11_costOf lm_X11_322 atM0.1 atM0.2 rfl rfl (fun _ _ => rfl) (Nat.le_of_ble_eq_true rfl) ⟨rfl, rfl, by decide, by decide⟩ (cs0 hcs) dX11_cost_39 (fun r4 μ => ?_)
    exact G_iret hX hQ dX11_cost_42
  · refine G_iconst hX (0 : Int32) rfl dX11_cost_32 ?_
    refine G_goto hX 42 (by decide) dX11_cost_33 ?_
    exact G_iret hX hQ dX11_cost_42
set_option maxHeartbeats 4000000 in
set_option maxRecDepth 100000 in
theorem gX11_cost_E {X : Ctx} {z : Int32 × Mem} (hX : Fx wM X cX11_cost 3 RX11 (some .int) (rmo 2 46)) (hQ : Qx_i wM X z) (hcs : cx_cells X = 0 ∧ cx_slots X = 0) (N : Nat) (p0 : Int32) (p1 : Int32) (μ : Mem) : G wM X z 0 [(0, .ref (cx_ad X 0)), (1, .int p0), (2, .int p1)] [] μ (fX11_cost N p0 p1 μ) := by
  unfold fX11_cost
  refine G_aload_n hX 0 rfl rfl dX11_cost_0 ?_
  refine G_aload_n hX 0 rfl rfl dX11_cost_1 ?_
  refine G_iload_n hX 1 rfl rfl dX11_cost_2 ?_
  refine G_cVi hX 0 11 (fun ad adK => [.int p0]) [.ref (cx_ad X 0)] (fun z2 h2 => cX11_isFirm_ok (cx_l X) N p0 μ z2 h2) ok_X11_isFirm lm_X11_311 atM0.1 atM0.2 rfl rfl (fun _ _ => rfl) (Nat.le_of_ble_eq_true rfl) ⟨rfl, rfl, by decide, by decide⟩ (cs0 hcs) dX11_cost_3 (fun r1 μ => ?_)
  refine G_if_eq hX 21 (by decide) dX11_cost_6 ?_ ?_
  · refine G_iconst hX (1 : Int32) rfl dX11_cost_21 ?_
    exact G_sub [0, 1, 2] rfl (gX11_cost_22 hX hQ hcs N p0 p1 (1 : Int32) μ)
  · refine G_aload_n hX 0 rfl rfl dX11_cost_9 ?_
    refine G_iload_n hX 2 rfl rfl dX11_cost_10 ?_
    refine G_cVi hX 0 11 (fun ad adK => [.int p1]) [.ref (cx_ad X 0)] (fun z2 h2 => cX11_isModel_ok (cx_l X) N p1 μ z2 h2) ok_X11_isModel lm_X11_314 atM0.1 atM0.2 rfl rfl (fun _ _ => rfl) (Nat.le_of_ble_eq_true rfl) ⟨rfl, rfl, by decide, by decide⟩ (cs0 hcs) dX11_cost_11 (fun r2 μ => ?_)
    refine G_if_eq hX 21 (by decide) dX11_cost_14 ?_ ?_
    · refine G_iconst hX (1 : Int32) rfl dX11_cost_21 ?_
      exact G_sub [0, 1, 2] rfl (gX11_cost_22 hX hQ hcs N p0 p1 (1 : Int32) μ)
    · refine G_iconst hX (0 : Int32) rfl dX11_cost_17 ?_
      refine G_goto hX 22 (by decide) dX11_cost_18 ?_
      exact G_sub [0, 1, 2] rfl (gX11_cost_22 hX hQ hcs N p0 p1 (0 : Int32) μ)
theorem cX11_cost_ok (l : Launch) (N : Nat) (p0 : Int32) (p1 : Int32) (μ : Mem) (z : Int32 × Mem) (h : fX11_cost N p0 p1 μ = some z) : Mi wM l yX11_cost cX11_cost 3 .int (rmo 2 46) (fun ad adK => [.ref (ad 0), .int p0, .int p1]) μ z := Mi.of h (by decide +kernel) (fun _ _ => Nat.le_of_ble_eq_true rfl) (fun X hX hQ hl hcs => gX11_cost_E hX hQ hcs N p0 p1 μ)
/-! ===== DutyCaseModel.kept(J)J ===== -/
set_option maxHeartbeats 4000000 in
set_option maxRecDepth 100000 in
theorem gX11_kept_E {X : Ctx} {z : Int64 × Mem} (hX : Fx wM X cX11_kept 2 RX11 (some .long) (rmo 0 0)) (hQ : Qx_l wM X z) (hcs : cx_cells X = 0 ∧ cx_slots X = 0) (N : Nat) (p0 : Int64) (μ : Mem) : G wM X z 0 [(0, .long p0)] [] μ (fX11_kept N p0 μ) := by
  unfold fX11_kept
  refine G_lload_n hX 0 rfl rfl dX11_kept_0 ?_
  refine G_ldc2 hX lc_X11_325 dX11_kept_1 ?_
  refine G_lcmp hX dX11_kept_4 ?_
  refine G_if_ge hX 14 (by decide) dX11_kept_5 ?_ ?_
  · refine G_lload_n hX 0 rfl rfl dX11_kept_14 ?_
    refine G_ldc2 hX lc_X11_327 dX11_kept_15 ?_
    refine G_lcmp hX dX11_kept_18 ?_
    refine G_if_le hX 28 (by decide) dX11_kept_19 ?_ ?_
    · refine G_lload_n hX 0 rfl rfl dX11_kept_28 ?_
      exact G_lret hX hQ dX11_kept_29
    · refine G_ldc2 hX lc_X11_327 dX11_kept_22 ?_
      refine G_goto hX 29 (by decide) dX11_kept_25 ?_
      exact G_lret hX hQ dX11_kept_29
  · refine G_ldc2 hX lc_X11_325 dX11_kept_8 ?_
    refine G_goto hX 29 (by decide) dX11_kept_11 ?_
    exact G_lret hX hQ dX11_kept_29
theorem cX11_kept_ok (l : Launch) (N : Nat) (p0 : Int64) (μ : Mem) (z : Int64 × Mem) (h : fX11_kept N p0 μ = some z) : Ml wM l yX11_kept cX11_kept 2 .long (rmo 0 0) (fun ad adK => [.long p0]) μ z := Ml.of h (by decide +kernel) (fun _ _ => Nat.le_of_ble_eq_true rfl) (fun X hX hQ hl hcs => gX11_kept_E hX hQ hcs N p0 μ)
/-! ===== DutyCaseModel.down(JJ)J ===== -/
set_option maxHeartbeats 4000000 in
set_option maxRecDepth 100000 in
theorem gX11_down_24 {X : Ctx} {z : Int64 × Mem} (hX : Fx wM X cX11_down 6 RX11 (some .long) (rmo 0 0)) (hQ : Qx_l wM X z) (hcs : cx_cells X = 0 ∧ cx_slots X = 0) (N : Nat) (v2 : Int64) (v4 : Int64) (s0 : Int32) (μ : Mem) : G wM X z 24 [(2, .long v2), (4, .long v4)] [.int s0] μ (fX11_down_24 N v2 v4 s0 μ) := by
  unfold fX11_down_24
  refine G_lload_n hX 0 rfl rfl dX11_down_24 ?_
  refine G_lconst hX (0 : Int64) rfl dX11_down_25 ?_
  refine G_lcmp hX dX11_down_26 ?_
  refine G_if_ge hX 34 (by decide) dX11_down_27 ?_ ?_
  · refine G_iconst hX (0 : Int32) rfl dX11_down_34 ?_
    refine G_icmp_eq hX 45 (by decide) dX11_down_35 ?_ ?_
    · refine G_lload hX 1 rfl dX11_down_45 ?_
      exact G_lret hX hQ dX11_down_47
    · refine G_lload hX 1 rfl dX11_down_38 ?_
      refine G_lconst hX (1 : Int64) rfl dX11_down_40 ?_
      refine G_lsub hX dX11_down_41 ?_
      refine G_goto hX 47 (by decide) dX11_down_42 ?_
      exact G_lret hX hQ dX11_down_47
  · refine G_iconst hX (1 : Int32) rfl dX11_down_30 ?_
    refine G_goto hX 35 (by decide) dX11_down_31 ?_
    refine G_icmp_eq hX 45 (by decide) dX11_down_35 ?_ ?_
    · refine G_lload hX 1 rfl dX11_down_45 ?_
      exact G_lret hX hQ dX11_down_47
    · refine G_lload hX 1 rfl dX11_down_38 ?_
      refine G_lconst hX (1 : Int64) rfl dX11_down_40 ?_
      refine G_lsub hX dX11_down_41 ?_
      refine G_goto hX 47 (by decide) dX11_down_42 ?_
      exact G_lret hX hQ dX11_down_47
set_option maxHeartbeats 4000000 in
set_option maxRecDepth 100000 in
theorem gX11_down_E {X : Ctx} {z : Int64 × Mem} (hX : Fx wM X cX11_down 6 RX11 (some .long) (rmo 0 0)) (hQ : Qx_l wM X z) (hcs : cx_cells X = 0 ∧ cx_slots X = 0) (N : Nat) (p0 : Int64) (p1 : Int64) (μ : Mem) : G wM X z 0 [(0, .long p0), (2, .long p1)] [] μ (fX11_down N p0 p1 μ) := by
  unfold fX11_down
  refine G_lload_n hX 0 rfl rfl dX11_down_0 ?_
  refine G_lload_n hX 1 rfl rfl dX11_down_1 ?_
  refine G_ldv hX dX11_down_2 ?_
  refine G_nml (fun x1 => ?_)
  refine G_lstore hX [(4, .long x1), (0, .long p0), (2, .long p1)] (by decide) rfl dX11_down_3 ?_
  refine G_lload_n hX 1 rfl rfl dX11_down_5 ?_
  refine G_lload_n hX 2 rfl rfl dX11_down_6 ?_
  refine G_lrm hX dX11_down_7 ?_
  refine G_lconst hX (0 : Int64) rfl dX11_down_8 ?_
  refine G_lcmp hX dX11_down_9 ?_
  refine G_if_eq hX 45 (by decide) dX11_down_10 ?_ ?_
  · refine G_lload hX 0 rfl dX11_down_45 ?_
    exact G_lret hX hQ dX11_down_47
  · refine G_lload_n hX 1 rfl rfl dX11_down_13 ?_
    refine G_lconst hX (0 : Int64) rfl dX11_down_14 ?_
    refine G_lcmp hX dX11_down_15 ?_
    refine G_if_ge hX 23 (by decide) dX11_down_16 ?_ ?_
    · refine G_iconst hX (0 : Int32) rfl dX11_down_23 ?_
      exact G_sub [2, 0] rfl (gX11_down_24 hX hQ hcs N p1 x1 (0 : Int32) μ)
    · refine G_iconst hX (1 : Int32) rfl dX11_down_19 ?_
      refine G_goto hX 24 (by decide) dX11_down_20 ?_
      exact G_sub [2, 0] rfl (gX11_down_24 hX hQ hcs N p1 x1 (1 : Int32) μ)
theorem cX11_down_ok (l : Launch) (N : Nat) (p0 : Int64) (p1 : Int64) (μ : Mem) (z : Int64 × Mem) (h : fX11_down N p0 p1 μ = some z) : Ml wM l yX11_down cX11_down 6 .long (rmo 0 0) (fun ad adK => [.long p0, .long p1]) μ z := Ml.of h (by decide +kernel) (fun _ _ => Nat.le_of_ble_eq_true rfl) (fun X hX hQ hl hcs => gX11_down_E hX hQ hcs N p0 p1 μ)
/-! ===== DutyCaseModel.fact(II)J ===== -/
set_option maxHeartbeats 4000000 in
set_option maxRecDepth 100000 in
theorem gX11_fact_E {X : Ctx} {z : Int64 × Mem} (hX : Fx wM X cX11_fact 3 RX11 (some .long) (rmo 1 23)) (hQ : Qx_l wM X z) (hcs : cx_cells X = 0 ∧ cx_slots X = 0) (N : Nat) (p0 : Int32) (p1 : Int32) (μ : Mem) : G wM X z 0 [(0, .ref (cx_ad X 0)), (1, .int p0), (2, .int p1)] [] μ (fX11_fact N p0 p1 μ) := by
  unfold fX11_fact
  refine G_iload_n hX 2 rfl rfl dX11_fact_0 ?_
  refine G_sw (fun hc0 => ?_) (fun hc0 => ?_)
  · refine G_swIn hX 32 0 (0) (by rw [hc0]; rfl) (by decide) (by decide) rfl rfl (by decide) dX11_fact_1 ?_
    refine G_aload_n hX 0 rfl rfl dX11_fact_32 ?_
    refine G_iload_n hX 1 rfl rfl dX11_fact_33 ?_
    refine G_iconst hX (5 : Int32) rfl dX11_fact_34 ?_
    refine G_cVi hX 0 11 (fun ad adK => [.int p0, .int (5 : Int32)]) [] (fun z2 h2 => cX11_of_ok (cx_l X) N p0 (5 : Int32) μ z2 h2) ok_X11_of lm_X11_305 atM0.1 atM0.2 rfl rfl (fun _ _ => rfl) (Nat.le_of_ble_eq_true rfl) ⟨rfl, rfl, by decide, by decide⟩ (cs0 hcs) dX11_fact_35 (fun r1 μ => ?_)
    refine G_i2l hX dX11_fact_38 ?_
    exact G_lret hX hQ dX11_fact_39
  refine G_sw (fun hc1 => ?_) (fun hc1 => ?_)
  · refine G_swIn hX 40 1 (1) (by rw [hc1]; rfl) (by decide) (by decide) rfl rfl (by decide) dX11_fact_1 ?_
    refine G_aload_n hX 0 rfl rfl dX11_fact_40 ?_
    refine G_iload_n hX 1 rfl rfl dX11_fact_41 ?_
    refine G_bipush hX (6 : Int32) rfl dX11_fact_42 ?_
    refine G_cVi hX 0 11 (fun ad adK => [.int p0, .int (6 : Int32)]) [] (fun z2 h2 => cX11_of_ok (cx_l X) N p0 (6 : Int32) μ z2 h2) ok_X11_of lm_X11_305 atM0.1 atM0.2 rfl rfl (fun _ _ => rfl) (Nat.le_of_ble_eq_true rfl) ⟨rfl, rfl, by decide, by decide⟩ (cs0 hcs) dX11_fact_44 (fun r2 μ => ?_)
    refine G_i2l hX dX11_fact_47 ?_
    exact G_lret hX hQ dX11_fact_48
  refine G_sw (fun hc2 => ?_) (fun hc2 => ?_)
  · refine G_swIn hX 49 2 (2) (by rw [hc2]; rfl) (by decide) (by decide) rfl rfl (by decide) dX11_fact_1 ?_
    refine G_aload_n hX 0 rfl rfl dX11_fact_49 ?_
    refine G_iload_n hX 1 rfl rfl dX11_fact_50 ?_
    refine G_iconst hX (3 : Int32) rfl dX11_fact_51 ?_
    refine G_cVi hX 0 11 (fun ad adK => [.int p0, .int (3 : Int32)]) [] (fun z2 h2 => cX11_of_ok (cx_l X) N p0 (3 : Int32) μ z2 h2) ok_X11_of lm_X11_305 atM0.1 atM0.2 rfl rfl (fun _ _ => rfl) (Nat.le_of_ble_eq_true rfl) ⟨rfl, rfl, by decide, by decide⟩ (cs0 hcs) dX11_fact_52 (fun r3 μ => ?_)
    refine G_i2l hX dX11_fact_55 ?_
    exact G_lret hX hQ dX11_fact_56
  refine G_sw (fun hc3 => ?_) (fun hc3 => ?_)
  · refine G_swIn hX 57 3 (3) (by rw [hc3]; rfl) (by decide) (by decide) rfl rfl (by decide) dX11_fact_1 ?_
    refine G_aload_n hX 0 rfl rfl dX11_fact_57 ?_
    refine G_iload_n hX 1 rfl rfl dX11_fact_58 ?_
    refine G_iconst hX (4 : Int32) rfl dX11_fact_59 ?_
    refine G_cVi hX 0 11 (fun ad adK => [.int p0, .int (4 : Int32)]) [] (fun z2 h2 => cX11_of_ok (cx_l X) N p0 (4 : Int32) μ z2 h2) ok_X11_of lm_X11_305 atM0.1 atM0.2 rfl rfl (fun _ _ => rfl) (Nat.le_of_ble_eq_true rfl) ⟨rfl, rfl, by decide, by decide⟩ (cs0 hcs) dX11_fact_60 (fun r4 μ => ?_)
    refine G_i2l hX dX11_fact_63 ?_
    exact G_lret hX hQ dX11_fact_64
  refine G_swOut hX 65 (by decide) dX11_fact_1 (by have e0 := lv_neT (a := (0 : Int)) hc0 rfl; have e1 := lv_neT (a := (1 : Int)) hc1 rfl; have e2 := lv_neT (a := (2 : Int)) hc2 rfl; have e3 := lv_neT (a := (3 : Int)) hc3 rfl; omega) ?_
  refine G_aload_n hX 0 rfl rfl dX11_fact_65 ?_
  refine G_aload_n hX 0 rfl rfl dX11_fact_66 ?_
  refine G_iload_n hX 1 rfl rfl dX11_fact_67 ?_
  refine G_iconst hX (1 : Int32) rfl dX11_fact_68 ?_
  refine G_cVi hX 0 11 (fun ad adK => [.int p0, .int (1 : Int32)]) [.ref (cx_ad X 0)] (fun z2 h2 => cX11_of_ok (cx_l X) N p0 (1 : Int32) μ z2 h2) ok_X11_of lm_X11_305 atM0.1 atM0.2 rfl rfl (fun _ _ => rfl) (Nat.le_of_ble_eq_true rfl) ⟨rfl, rfl, by decide, by decide⟩ (cs0 hcs) dX11_fact_69 (fun r5 μ => ?_)
  refine G_aload_n hX 0 rfl rfl dX11_fact_72 ?_
  refine G_iload_n hX 1 rfl rfl dX11_fact_73 ?_
  refine G_iconst hX (2 : Int32) rfl dX11_fact_74 ?_
  refine G_cVi hX 0 11 (fun ad adK => [.int p0, .int (2 : Int32)]) [.int r5, .ref (cx_ad X 0)] (fun z2 h2 => cX11_of_ok (cx_l X) N p0 (2 : Int32) μ z2 h2) ok_X11_of lm_X11_305 atM0.1 atM0.2 rfl rfl (fun _ _ => rfl) (Nat.le_of_ble_eq_true rfl) ⟨rfl, rfl, by decide, by decide⟩ (cs0 hcs) dX11_fact_75 (fun r6 μ => ?_)
  refine G_cVi hX 0 11 (fun ad adK => [.int r5, .int r6]) [] (fun z2 h2 => cX11_costOf_ok (cx_l X) N r5 r6 μ z2 h2) ok_X11_costOf lm_X11_322 atM0.1 atM0.2 rfl rfl (fun _ _ => rfl) (Nat.le_of_ble_eq_true rfl) ⟨rfl, rfl, by decide, by decide⟩ (cs0 hcs) dX11_fact_78 (fun r7 μ => ?_)
  refine G_i2l hX dX11_fact_81 ?_
  exact G_lret hX hQ dX11_fact_82
theorem cX11_fact_ok (l : Launch) (N : Nat) (p0 : Int32) (p1 : Int32) (μ : Mem) (z : Int64 × Mem) (h : fX11_fact N p0 p1 μ = some z) : Ml wM l yX11_fact cX11_fact 3 .long (rmo 1 23) (fun ad adK => [.ref (ad 0), .int p0, .int p1]) μ z := Ml.of h (by decide +kernel) (fun _ _ => Nat.le_of_ble_eq_true rfl) (fun X hX hQ hl hcs => gX11_fact_E hX hQ hcs N p0 p1 μ)
/-! ===== DutyCaseModel.offOf(I)I ===== -/
set_option maxHeartbeats 4000000 in
set_option maxRecDepth 100000 in
theorem gX11_offOf_216 {X : Ctx} {z : Int32 × Mem} (hX : Fx wM X cX11_offOf 11 RX11 (some .int) (rmo 2 45)) (hQ : Qx_i wM X z) (hcs : cx_cells X = 0 ∧ cx_slots X = 0) (N : Nat) (v2 : Int32) (μ : Mem) : G wM X z 216 [(0, .ref (cx_ad X 0)), (2, .int v2)] [] μ (fX11_offOf_216 N v2 μ) := by
  unfold fX11_offOf_216
  refine G_aload_n hX 0 rfl rfl dX11_offOf_216 ?_
  refine gf_X11_34_M0 hX dX11_offOf_217 ?_
  refine G_iload_n hX 1 rfl rfl dX11_offOf_220 ?_
  refine G_aI hX atM9 dX11_offOf_221 (fun x13 => ?_)
  refine G_if_ne hX 229 (by decide) dX11_offOf_222 ?_ ?_
  · refine G_aload_n hX 0 rfl rfl dX11_offOf_229 ?_
    refine gf_X11_82_M0 hX dX11_offOf_230 ?_
    refine G_iconst hX (0 : Int32) rfl dX11_offOf_233 ?_
    refine G_aL hX atM23 dX11_offOf_234 (fun x14 => ?_)
    refine G_l2i hX dX11_offOf_235 ?_
    exact G_iret hX hQ dX11_offOf_236
  · refine G_iconst hX (0 : Int32) rfl dX11_offOf_225 ?_
    refine G_goto hX 236 (by decide) dX11_offOf_226 ?_
    exact G_iret hX hQ dX11_offOf_236
set_option maxHeartbeats 4000000 in
set_option maxRecDepth 100000 in
theorem gX11_offOf_54 {X : Ctx} {z : Int32 × Mem} (hX : Fx wM X cX11_offOf 11 RX11 (some .int) (rmo 2 45)) (hQ : Qx_i wM X z) (hcs : cx_cells X = 0 ∧ cx_slots X = 0) (N : Nat) (k16 : Int32 → Int32 → Int32 → Int32 → Mem → Option (Int32 × Mem)) (hk16 : ∀ (v1 : Int32) (v2 : Int32) (v3 : Int32) (v4 : Int32) (μ : Mem), G wM X z 16 [(0, .ref (cx_ad X 0)), (1, .int v1), (2, .int v2), (3, .int v3), (4, .int v4)] [] μ (k16 v1 v2 v3 v4 μ)) (v1 : Int32) (v2 : Int32) (v3 : Int32) (v4 : Int32) (μ : Mem) : G wM X z 54 [(0, .ref (cx_ad X 0)), (1, .int v1), (2, .int v2), (3, .int v3), (4, .int v4)] [] μ (fX11_offOf_54 N k16 v1 v2 v3 v4 μ) := by
  unfold fX11_offOf_54
  refine G_aload_n hX 0 rfl rfl dX11_offOf_54 ?_
  refine gf_X11_82_M0 hX dX11_offOf_55 ?_
  refine G_iload_n hX 3 rfl rfl dX11_offOf_58 ?_
  refine G_aload_n hX 0 rfl rfl dX11_offOf_59 ?_
  refine gf_X11_28_M0 hX dX11_offOf_60 ?_
  refine G_iload hX 4 rfl dX11_offOf_63 ?_
  refine G_aI hX atM7 dX11_offOf_65 (fun x15 => ?_)
  refine G_if_ne hX 80 (by decide) dX11_offOf_66 ?_ ?_
  · refine G_aload_n hX 0 rfl rfl dX11_offOf_80 ?_
    refine G_iload_n hX 1 rfl rfl dX11_offOf_81 ?_
    refine G_aload_n hX 0 rfl rfl dX11_offOf_82 ?_
    refine gf_X11_31_M0 hX dX11_offOf_83 ?_
    refine G_iload hX 4 rfl dX11_offOf_86 ?_
    refine G_aI hX atM8 dX11_offOf_88 (fun x16 => ?_)
    refine G_cVl hX 0 11 (fun ad adK => [.int v1, .int x16]) [.int v3, .ref (cx_ad X 23)] (fun z2 h2 => cX11_fact_ok (cx_l X) N v1 x16 μ z2 h2) ok_X11_fact lm_X11_329 atM0.1 atM0.2 rfl rfl (fun _ _ => rfl) (Nat.le_of_ble_eq_true rfl) ⟨rfl, rfl, by decide, by decide⟩ (cs0 hcs) dX11_offOf_89 (fun r17 μ => ?_)
    refine G_sL hX atM23 dX11_offOf_92 (fun μ => ?_)
    refine G_iincN hX 3 (fun x18 => [(3, .int x18), (0, .ref (cx_ad X 0)), (1, .int v1), (2, .int v2), (4, .int v4)]) rfl rfl (by decide) (fun _ => rfl) dX11_offOf_93 (fun x18 => ?_)
    refine G_goto hX 210 (by decide) dX11_offOf_96 ?_
    refine G_iincN hX 4 (fun x19 => [(4, .int x19), (3, .int x18), (0, .ref (cx_ad X 0)), (1, .int v1), (2, .int v2)]) rfl rfl (by decide) (fun _ => rfl) dX11_offOf_210 (fun x19 => ?_)
    refine G_goto hX 16 (by decide) dX11_offOf_213 ?_
    exact G_sub [2, 3, 4, 1, 0] rfl (hk16 v1 v2 x18 x19 μ)
  · refine G_aload_n hX 0 rfl rfl dX11_offOf_69 ?_
    refine gf_X11_31_M0 hX dX11_offOf_70 ?_
    refine G_iload hX 4 rfl dX11_offOf_73 ?_
    refine G_aI hX atM8 dX11_offOf_75 (fun x20 => ?_)
    refine G_i2l hX dX11_offOf_76 ?_
    refine G_goto hX 92 (by decide) dX11_offOf_77 ?_
    refine G_sL hX atM23 dX11_offOf_92 (fun μ => ?_)
    refine G_iincN hX 3 (fun x21 => [(3, .int x21), (0, .ref (cx_ad X 0)), (1, .int v1), (2, .int v2), (4, .int v4)]) rfl rfl (by decide) (fun _ => rfl) dX11_offOf_93 (fun x21 => ?_)
    refine G_goto hX 210 (by decide) dX11_offOf_96 ?_
    refine G_iincN hX 4 (fun x22 => [(4, .int x22), (3, .int x21), (0, .ref (cx_ad X 0)), (1, .int v1), (2, .int v2)]) rfl rfl (by decide) (fun _ => rfl) dX11_offOf_210 (fun x22 => ?_)
    refine G_goto hX 16 (by decide) dX11_offOf_213 ?_
    exact G_sub [2, 3, 4, 1, 0] rfl (hk16 v1 v2 x21 x22 μ)
set_option maxHeartbeats 4000000 in
set_option maxRecDepth 100000 in
theorem gX11_offOf_195 {X : Ctx} {z : Int32 × Mem} (hX : Fx wM X cX11_offOf 11 RX11 (some .int) (rmo 2 45)) (hQ : Qx_i wM X z) (hcs : cx_cells X = 0 ∧ cx_slots X = 0) (N : Nat) (k16 : Int32 → Int32 → Int32 → Int32 → Mem → Option (Int32 × Mem)) (hk16 : ∀ (v1 : Int32) (v2 : Int32) (v3 : Int32) (v4 : Int32) (μ : Mem), G wM X z 16 [(0, .ref (cx_ad X 0)), (1, .int v1), (2, .int v2), (3, .int v3), (4, .int v4)] [] μ (k16 v1 v2 v3 v4 μ)) (v1 : Int32) (v2 : Int32) (v3 : Int32) (v4 : Int32) (s0 : Int64) (μ : Mem) : G wM X z 195 [(0, .ref (cx_ad X 0)), (1, .int v1), (2, .int v2), (3, .int v3), (4, .int v4)] [.long s0] μ (fX11_offOf_195 N k16 v1 v2 v3 v4 s0 μ) := by
  unfold fX11_offOf_195
  refine G_lstore hX [(9, .long s0), (0, .ref (cx_ad X 0)), (1, .int v1), (2, .int v2), (3, .int v3), (4, .int v4)] (by decide) rfl dX11_offOf_195 ?_
  refine G_aload_n hX 1 rfl rfl dX11_offOf_197 ?_
  refine gf_X11_82_M0 hX dX11_offOf_198 ?_
  refine G_iload_n hX 4 rfl rfl dX11_offOf_201 ?_
  refine G_iconst hX (1 : Int32) rfl dX11_offOf_202 ?_
  refine G_isub hX dX11_offOf_203 ?_
  refine G_lload hX 0 rfl dX11_offOf_204 ?_
  refine G_cSl hX (fun ad adK => [.long s0]) [.int (v3 - (1 : Int32)), .ref (cx_ad X 23)] (fun z2 h2 => cX11_kept_ok (cx_l X) N s0 μ z2 h2) ok_X11_kept lm_X11_337 rfl (fun _ _ => rfl) (Nat.le_of_ble_eq_true rfl) ⟨rfl, rfl, by decide, by decide⟩ (cs0 hcs) dX11_offOf_206 (fun r23 μ => ?_)
  refine G_sL hX atM23 dX11_offOf_209 (fun μ => ?_)
  refine G_iincN hX 5 (fun x24 => [(4, .int x24), (9, .long s0), (0, .ref (cx_ad X 0)), (1, .int v1), (2, .int v2), (3, .int v3)]) rfl rfl (by decide) (fun _ => rfl) dX11_offOf_210 (fun x24 => ?_)
  refine G_goto hX 16 (by decide) dX11_offOf_213 ?_
  exact G_sub [2, 3, 4, 5, 0] rfl (hk16 v1 v2 v3 x24 μ)
set_option maxHeartbeats 4000000 in
set_option maxRecDepth 100000 in
theorem gX11_offOf_16 {X : Ctx} {z : Int32 × Mem} (hX : Fx wM X cX11_offOf 11 RX11 (some .int) (rmo 2 45)) (hQ : Qx_i wM X z) (hcs : cx_cells X = 0 ∧ cx_slots X = 0) (N : Nat) : ∀ (n : Nat) (v1 : Int32) (v2 : Int32) (v3 : Int32) (v4 : Int32) (μ : Mem), G wM X z 16 [(0, .ref (cx_ad X 0)), (1, .int v1), (2, .int v2), (3, .int v3), (4, .int v4)] [] μ (fX11_offOf_16 N n v1 v2 v3 v4 μ) := by
  intro n
  induction n with
  | zero =>
    intro v1 v2 v3 v4 μ
    exact G_none
  | succ n ih =>
    intro v1 v2 v3 v4 μ
    unfold fX11_offOf_16
    refine G_iload hX 4 rfl dX11_offOf_16 ?_
    refine G_sipush hX (400 : Int32) rfl dX11_offOf_18 ?_
    refine G_iload_n hX 2 rfl rfl dX11_offOf_21 ?_
    refine G_imul hX dX11_offOf_22 ?_
    refine G_aload_n hX 0 rfl rfl dX11_offOf_23 ?_
    refine gf_X11_34_M0 hX dX11_offOf_24 ?_
    refine G_iload_n hX 2 rfl rfl dX11_offOf_27 ?_
    refine G_aI hX atM9 dX11_offOf_28 (fun x3 => ?_)
    refine G_iadd hX dX11_offOf_29 ?_
    refine G_icmp_ge hX 216 (by decide) dX11_offOf_30 ?_ ?_
    · exact G_sub [0, 2] rfl (gX11_offOf_216 hX hQ hcs N v2 μ)
    · refine G_aload_n hX 0 rfl rfl dX11_offOf_33 ?_
      refine gf_X11_28_M0 hX dX11_offOf_34 ?_
      refine G_iload hX 4 rfl dX11_offOf_37 ?_
      refine G_aI hX atM7 dX11_offOf_39 (fun x4 => ?_)
      refine G_if_eq hX 54 (by decide) dX11_offOf_40 ?_ ?_
      · exact G_sub [0, 1, 2, 3, 4] rfl (gX11_offOf_54 hX hQ hcs N (fun v1 v2 v3 v4 μ => fX11_offOf_16 N n v1 v2 v3 v4 μ) (fun v1 v2 v3 v4  μ => ih v1 v2 v3 v4  μ) v1 v2 v3 v4 μ)
      · refine G_aload_n hX 0 rfl rfl dX11_offOf_43 ?_
        refine gf_X11_28_M0 hX dX11_offOf_44 ?_
        refine G_iload hX 4 rfl dX11_offOf_47 ?_
        refine G_aI hX atM7 dX11_offOf_49 (fun x5 => ?_)
        refine G_iconst hX (1 : Int32) rfl dX11_offOf_50 ?_
        refine G_icmp_ne hX 99 (by decide) dX11_offOf_51 ?_ ?_
        · refine G_iincN hX 3 (fun x6 => [(3, .int x6), (0, .ref (cx_ad X 0)), (1, .int v1), (2, .int v2), (4, .int v4)]) rfl rfl (by decide) (fun _ => rfl) dX11_offOf_99 (fun x6 => ?_)
          refine G_aload_n hX 1 rfl rfl dX11_offOf_102 ?_
          refine gf_X11_82_M0 hX dX11_offOf_103 ?_
          refine G_iload_n hX 0 rfl rfl dX11_offOf_106 ?_
          refine G_iconst hX (1 : Int32) rfl dX11_offOf_107 ?_
          refine G_isub hX dX11_offOf_108 ?_
          refine G_aL hX atM23 dX11_offOf_109 (fun x7 => ?_)
          refine G_lstore hX [(5, .long x7), (3, .int x6), (0, .ref (cx_ad X 0)), (1, .int v1), (2, .int v2), (4, .int v4)] (by decide) rfl dX11_offOf_110 ?_
          refine G_aload_n hX 2 rfl rfl dX11_offOf_112 ?_
          refine gf_X11_82_M0 hX dX11_offOf_113 ?_
          refine G_iload_n hX 1 rfl rfl dX11_offOf_116 ?_
          refine G_aL hX atM23 dX11_offOf_117 (fun x8 => ?_)
          refine G_lstore hX [(7, .long x8), (5, .long x7), (3, .int x6), (0, .ref (cx_ad X 0)), (1, .int v1), (2, .int v2), (4, .int v4)] (by decide) rfl dX11_offOf_118 ?_
          refine G_aload_n hX 3 rfl rfl dX11_offOf_120 ?_
          refine gf_X11_28_M0 hX dX11_offOf_121 ?_
          refine G_iload hX 6 rfl dX11_offOf_124 ?_
          refine G_aI hX atM7 dX11_offOf_126 (fun x9 => ?_)
          refine G_iconst hX (2 : Int32) rfl dX11_offOf_127 ?_
          refine G_icmp_ne hX 139 (by decide) dX11_offOf_128 ?_ ?_
          · refine G_aload_n hX 3 rfl rfl dX11_offOf_139 ?_
            refine gf_X11_28_M0 hX dX11_offOf_140 ?_
            refine G_iload hX 6 rfl dX11_offOf_143 ?_
            refine G_aI hX atM7 dX11_offOf_145 (fun x10 => ?_)
            refine G_iconst hX (3 : Int32) rfl dX11_offOf_146 ?_
            refine G_icmp_ne hX 158 (by decide) dX11_offOf_147 ?_ ?_
            · refine G_aload_n hX 3 rfl rfl dX11_offOf_158 ?_
              refine gf_X11_28_M0 hX dX11_offOf_159 ?_
              refine G_iload hX 6 rfl dX11_offOf_162 ?_
              refine G_aI hX atM7 dX11_offOf_164 (fun x11 => ?_)
              refine G_iconst hX (4 : Int32) rfl dX11_offOf_165 ?_
              refine G_icmp_ne hX 177 (by decide) dX11_offOf_166 ?_ ?_
              · refine G_lload hX 0 rfl dX11_offOf_177 ?_
                refine G_lconst hX (0 : Int64) rfl dX11_offOf_179 ?_
                refine G_lcmp hX dX11_offOf_180 ?_
                refine G_if_ne hX 188 (by decide) dX11_offOf_181 ?_ ?_
                · refine G_lload hX 1 rfl dX11_offOf_188 ?_
                  refine G_lload hX 0 rfl dX11_offOf_190 ?_
                  refine G_cSl hX (fun ad adK => [.long x7, .long x8]) [] (fun z2 h2 => cX11_down_ok (cx_l X) N x7 x8 μ z2 h2) ok_X11_down lm_X11_333 rfl (fun _ _ => rfl) (Nat.le_of_ble_eq_true rfl) ⟨rfl, rfl, by decide, by decide⟩ (cs0 hcs) dX11_offOf_192 (fun r12 μ => ?_)
                  exact G_sub [3, 4, 5, 2, 6] rfl (gX11_offOf_195 hX hQ hcs N (fun v1 v2 v3 v4 μ => fX11_offOf_16 N n v1 v2 v3 v4 μ) (fun v1 v2 v3 v4  μ => ih v1 v2 v3 v4  μ) v1 v2 x6 v4 r12 μ)
                · refine G_lconst hX (0 : Int64) rfl dX11_offOf_184 ?_
                  refine G_goto hX 195 (by decide) dX11_offOf_185 ?_
                  exact G_sub [3, 4, 5, 2, 6] rfl (gX11_offOf_195 hX hQ hcs N (fun v1 v2 v3 v4 μ => fX11_offOf_16 N n v1 v2 v3 v4 μ) (fun v1 v2 v3 v4  μ => ih v1 v2 v3 v4  μ) v1 v2 x6 v4 (0 : Int64) μ)
              · refine G_lload hX 1 rfl dX11_offOf_169 ?_
                refine G_lload hX 0 rfl dX11_offOf_171 ?_
                refine G_lmul hX dX11_offOf_173 ?_
                refine G_goto hX 195 (by decide) dX11_offOf_174 ?_
                exact G_sub [3, 4, 5, 2, 6] rfl (gX11_offOf_195 hX hQ hcs N (fun v1 v2 v3 v4 μ => fX11_offOf_16 N n v1 v2 v3 v4 μ) (fun v1 v2 v3 v4  μ => ih v1 v2 v3 v4  μ) v1 v2 x6 v4 (x7 * x8) μ)
            · refine G_lload hX 1 rfl dX11_offOf_150 ?_
              refine G_lload hX 0 rfl dX11_offOf_152 ?_
              refine G_lsub hX dX11_offOf_154 ?_
              refine G_goto hX 195 (by decide) dX11_offOf_155 ?_
              exact G_sub [3, 4, 5, 2, 6] rfl (gX11_offOf_195 hX hQ hcs N (fun v1 v2 v3 v4 μ => fX11_offOf_16 N n v1 v2 v3 v4 μ) (fun v1 v2 v3 v4  μ => ih v1 v2 v3 v4  μ) v1 v2 x6 v4 (x7 - x8) μ)
          · refine G_lload hX 1 rfl dX11_offOf_131 ?_
            refine G_lload hX 0 rfl dX11_offOf_133 ?_
            refine G_ladd hX dX11_offOf_135 ?_
            refine G_goto hX 195 (by decide) dX11_offOf_136 ?_
            exact G_sub [3, 4, 5, 2, 6] rfl (gX11_offOf_195 hX hQ hcs N (fun v1 v2 v3 v4 μ => fX11_offOf_16 N n v1 v2 v3 v4 μ) (fun v1 v2 v3 v4  μ => ih v1 v2 v3 v4  μ) v1 v2 x6 v4 (x7 + x8) μ)
        · exact G_sub [0, 1, 2, 3, 4] rfl (gX11_offOf_54 hX hQ hcs N (fun v1 v2 v3 v4 μ => fX11_offOf_16 N n v1 v2 v3 v4 μ) (fun v1 v2 v3 v4  μ => ih v1 v2 v3 v4  μ) v1 v2 v3 v4 μ)
set_option maxHeartbeats 4000000 in
set_option maxRecDepth 100000 in
theorem gX11_offOf_E {X : Ctx} {z : Int32 × Mem} (hX : Fx wM X cX11_offOf 11 RX11 (some .int) (rmo 2 45)) (hQ : Qx_i wM X z) (hcs : cx_cells X = 0 ∧ cx_slots X = 0) (N : Nat) (p0 : Int32) (μ : Mem) : G wM X z 0 [(0, .ref (cx_ad X 0)), (1, .int p0)] [] μ (fX11_offOf N p0 μ) := by
  unfold fX11_offOf
  refine G_aload_n hX 0 rfl rfl dX11_offOf_0 ?_
  refine G_iload_n hX 1 rfl rfl dX11_offOf_1 ?_
  refine G_iconst hX (0 : Int32) rfl dX11_offOf_2 ?_
  refine G_cVi hX 0 11 (fun ad adK => [.int p0, .int (0 : Int32)]) [] (fun z2 h2 => cX11_of_ok (cx_l X) N p0 (0 : Int32) μ z2 h2) ok_X11_of lm_X11_305 atM0.1 atM0.2 rfl rfl (fun _ _ => rfl) (Nat.le_of_ble_eq_true rfl) ⟨rfl, rfl, by decide, by decide⟩ (cs0 hcs) dX11_offOf_3 (fun r1 μ => ?_)
  refine G_istore_n hX [(2, .int r1), (0, .ref (cx_ad X 0)), (1, .int p0)] rfl (by decide) rfl dX11_offOf_6 ?_
  refine G_iconst hX (0 : Int32) rfl dX11_offOf_7 ?_
  refine G_istore_n hX [(3, .int (0 : Int32)), (2, .int r1), (0, .ref (cx_ad X 0)), (1, .int p0)] rfl (by decide) rfl dX11_offOf_8 ?_
  refine G_sipush hX (400 : Int32) rfl dX11_offOf_9 ?_
  refine G_iload_n hX 1 rfl rfl dX11_offOf_12 ?_
  refine G_imul hX dX11_offOf_13 ?_
  refine G_nmi (fun x2 => ?_)
  refine G_istore hX [(4, .int x2), (3, .int (0 : Int32)), (2, .int r1), (0, .ref (cx_ad X 0)), (1, .int p0)] (by decide) rfl dX11_offOf_14 ?_
  exact G_sub [3, 4, 2, 1, 0] rfl (gX11_offOf_16 hX hQ hcs N N p0 r1 (0 : Int32) x2 μ)
theorem cX11_offOf_ok (l : Launch) (N : Nat) (p0 : Int32) (μ : Mem) (z : Int32 × Mem) (h : fX11_offOf N p0 μ = some z) : Mi wM l yX11_offOf cX11_offOf 11 .int (rmo 2 45) (fun ad adK => [.ref (ad 0), .int p0]) μ z := Mi.of h (by decide +kernel) (fun _ _ => Nat.le_of_ble_eq_true rfl) (fun X hX hQ hl hcs => gX11_offOf_E hX hQ hcs N p0 μ)
/-! ===== DutyCaseModel.manyIn(II)I ===== -/
set_option maxHeartbeats 4000000 in
set_option maxRecDepth 100000 in
theorem gX11_manyIn_5 {X : Ctx} {z : Int32 × Mem} (hX : Fx wM X cX11_manyIn 5 RX11 (some .int) (rmo 2 46)) (hQ : Qx_i wM X z) (hcs : cx_cells X = 0 ∧ cx_slots X = 0) (N : Nat) : ∀ (n : Nat) (v1 : Int32) (v2 : Int32) (v3 : Int32) (v4 : Int32) (μ : Mem), G wM X z 5 [(0, .ref (cx_ad X 0)), (1, .int v1), (2, .int v2), (3, .int v3), (4, .int v4)] [] μ (fX11_manyIn_5 N n v1 v2 v3 v4 μ) := by
  intro n
  induction n with
  | zero =>
    intro v1 v2 v3 v4 μ
    exact G_none
  | succ n ih =>
    intro v1 v2 v3 v4 μ
    unfold fX11_manyIn_5
    refine G_iload hX 4 rfl dX11_manyIn_5 ?_
    refine G_aload_n hX 0 rfl rfl dX11_manyIn_7 ?_
    refine gf_X11_7_M0 hX dX11_manyIn_8 ?_
    refine G_bipush hX (34 : Int32) rfl dX11_manyIn_11 ?_
    refine G_aI hX atM1 dX11_manyIn_13 (fun x1 => ?_)
    refine G_icmp_ge hX 68 (by decide) dX11_manyIn_14 ?_ ?_
    · refine G_iload_n hX 3 rfl rfl dX11_manyIn_68 ?_
      exact G_iret hX hQ dX11_manyIn_69
    · refine G_iload_n hX 3 rfl rfl dX11_manyIn_17 ?_
      refine G_aload_n hX 0 rfl rfl dX11_manyIn_18 ?_
      refine G_iload hX 4 rfl dX11_manyIn_19 ?_
      refine G_cVi hX 0 11 (fun ad adK => [.int v4]) [.int v3] (fun z2 h2 => cX11_isSale_ok (cx_l X) N v4 μ z2 h2) ok_X11_isSale lm_X11_341 atM0.1 atM0.2 rfl rfl (fun _ _ => rfl) (Nat.le_of_ble_eq_true rfl) ⟨rfl, rfl, by decide, by decide⟩ (cs0 hcs) dX11_manyIn_21 (fun r2 μ => ?_)
      refine G_if_eq hX 59 (by decide) dX11_manyIn_24 ?_ ?_
      · refine G_iconst hX (0 : Int32) rfl dX11_manyIn_59 ?_
        refine G_iadd hX dX11_manyIn_60 ?_
        refine G_nmi (fun x3 => ?_)
        refine G_istore_n hX [(3, .int x3), (0, .ref (cx_ad X 0)), (1, .int v1), (2, .int v2), (4, .int v4)] rfl (by decide) rfl dX11_manyIn_61 ?_
        refine G_iincN hX 4 (fun x4 => [(4, .int x4), (3, .int x3), (0, .ref (cx_ad X 0)), (1, .int v1), (2, .int v2)]) rfl rfl (by decide) (fun _ => rfl) dX11_manyIn_62 (fun x4 => ?_)
        refine G_goto hX 5 (by decide) dX11_manyIn_65 ?_
        exact G_sub [2, 3, 4, 1, 0] rfl (ih v1 v2 x3 x4 μ)
      · refine G_aload_n hX 0 rfl rfl dX11_manyIn_27 ?_
        refine G_iload hX 4 rfl dX11_manyIn_28 ?_
        refine G_iconst hX (1 : Int32) rfl dX11_manyIn_30 ?_
        refine G_cVi hX 0 11 (fun ad adK => [.int v4, .int (1 : Int32)]) [.int v3] (fun z2 h2 => cX11_of_ok (cx_l X) N v4 (1 : Int32) μ z2 h2) ok_X11_of lm_X11_305 atM0.1 atM0.2 rfl rfl (fun _ _ => rfl) (Nat.le_of_ble_eq_true rfl) ⟨rfl, rfl, by decide, by decide⟩ (cs0 hcs) dX11_manyIn_31 (fun r5 μ => ?_)
        refine G_iload_n hX 1 rfl rfl dX11_manyIn_34 ?_
        refine G_icmp_ne hX 59 (by decide) dX11_manyIn_35 ?_ ?_
        · refine G_iconst hX (0 : Int32) rfl dX11_manyIn_59 ?_
          refine G_iadd hX dX11_manyIn_60 ?_
          refine G_nmi (fun x6 => ?_)
          refine G_istore_n hX [(3, .int x6), (0, .ref (cx_ad X 0)), (1, .int v1), (2, .int v2), (4, .int v4)] rfl (by decide) rfl dX11_manyIn_61 ?_
          refine G_iincN hX 4 (fun x7 => [(4, .int x7), (3, .int x6), (0, .ref (cx_ad X 0)), (1, .int v1), (2, .int v2)]) rfl rfl (by decide) (fun _ => rfl) dX11_manyIn_62 (fun x7 => ?_)
          refine G_goto hX 5 (by decide) dX11_manyIn_65 ?_
          exact G_sub [2, 3, 4, 1, 0] rfl (ih v1 v2 x6 x7 μ)
        · refine G_aload_n hX 0 rfl rfl dX11_manyIn_38 ?_
          refine G_iload hX 4 rfl dX11_manyIn_39 ?_
          refine G_iconst hX (0 : Int32) rfl dX11_manyIn_41 ?_
          refine G_cVi hX 0 11 (fun ad adK => [.int v4, .int (0 : Int32)]) [.int v3] (fun z2 h2 => cX11_of_ok (cx_l X) N v4 (0 : Int32) μ z2 h2) ok_X11_of lm_X11_305 atM0.1 atM0.2 rfl rfl (fun _ _ => rfl) (Nat.le_of_ble_eq_true rfl) ⟨rfl, rfl, by decide, by decide⟩ (cs0 hcs) dX11_manyIn_42 (fun r8 μ => ?_)
          refine G_iload_n hX 2 rfl rfl dX11_manyIn_45 ?_
          refine G_icmp_ne hX 59 (by decide) dX11_manyIn_46 ?_ ?_
          · refine G_iconst hX (0 : Int32) rfl dX11_manyIn_59 ?_
            refine G_iadd hX dX11_manyIn_60 ?_
            refine G_nmi (fun x9 => ?_)
            refine G_istore_n hX [(3, .int x9), (0, .ref (cx_ad X 0)), (1, .int v1), (2, .int v2), (4, .int v4)] rfl (by decide) rfl dX11_manyIn_61 ?_
            refine G_iincN hX 4 (fun x10 => [(4, .int x10), (3, .int x9), (0, .ref (cx_ad X 0)), (1, .int v1), (2, .int v2)]) rfl rfl (by decide) (fun _ => rfl) dX11_manyIn_62 (fun x10 => ?_)
            refine G_goto hX 5 (by decide) dX11_manyIn_65 ?_
            exact G_sub [2, 3, 4, 1, 0] rfl (ih v1 v2 x9 x10 μ)
          · refine G_aload_n hX 0 rfl rfl dX11_manyIn_49 ?_
            refine G_iload hX 4 rfl dX11_manyIn_50 ?_
            refine G_iconst hX (5 : Int32) rfl dX11_manyIn_52 ?_
            refine G_cVi hX 0 11 (fun ad adK => [.int v4, .int (5 : Int32)]) [.int v3] (fun z2 h2 => cX11_of_ok (cx_l X) N v4 (5 : Int32) μ z2 h2) ok_X11_of lm_X11_305 atM0.1 atM0.2 rfl rfl (fun _ _ => rfl) (Nat.le_of_ble_eq_true rfl) ⟨rfl, rfl, by decide, by decide⟩ (cs0 hcs) dX11_manyIn_53 (fun r11 μ => ?_)
            refine G_goto hX 60 (by decide) dX11_manyIn_56 ?_
            refine G_iadd hX dX11_manyIn_60 ?_
            refine G_nmi (fun x12 => ?_)
            refine G_istore_n hX [(3, .int x12), (0, .ref (cx_ad X 0)), (1, .int v1), (2, .int v2), (4, .int v4)] rfl (by decide) rfl dX11_manyIn_61 ?_
            refine G_iincN hX 4 (fun x13 => [(4, .int x13), (3, .int x12), (0, .ref (cx_ad X 0)), (1, .int v1), (2, .int v2)]) rfl rfl (by decide) (fun _ => rfl) dX11_manyIn_62 (fun x13 => ?_)
            refine G_goto hX 5 (by decide) dX11_manyIn_65 ?_
            exact G_sub [2, 3, 4, 1, 0] rfl (ih v1 v2 x12 x13 μ)
set_option maxHeartbeats 4000000 in
set_option maxRecDepth 100000 in
theorem gX11_manyIn_E {X : Ctx} {z : Int32 × Mem} (hX : Fx wM X cX11_manyIn 5 RX11 (some .int) (rmo 2 46)) (hQ : Qx_i wM X z) (hcs : cx_cells X = 0 ∧ cx_slots X = 0) (N : Nat) (p0 : Int32) (p1 : Int32) (μ : Mem) : G wM X z 0 [(0, .ref (cx_ad X 0)), (1, .int p0), (2, .int p1)] [] μ (fX11_manyIn N p0 p1 μ) := by
  unfold fX11_manyIn
  refine G_iconst hX (0 : Int32) rfl dX11_manyIn_0 ?_
  refine G_istore_n hX [(3, .int (0 : Int32)), (0, .ref (cx_ad X 0)), (1, .int p0), (2, .int p1)] rfl (by decide) rfl dX11_manyIn_1 ?_
  refine G_iconst hX (0 : Int32) rfl dX11_manyIn_2 ?_
  refine G_istore hX [(4, .int (0 : Int32)), (3, .int (0 : Int32)), (0, .ref (cx_ad X 0)), (1, .int p0), (2, .int p1)] (by decide) rfl dX11_manyIn_3 ?_
  exact G_sub [2, 3, 4, 1, 0] rfl (gX11_manyIn_5 hX hQ hcs N N p0 p1 (0 : Int32) (0 : Int32) μ)
theorem cX11_manyIn_ok (l : Launch) (N : Nat) (p0 : Int32) (p1 : Int32) (μ : Mem) (z : Int32 × Mem) (h : fX11_manyIn N p0 p1 μ = some z) : Mi wM l yX11_manyIn cX11_manyIn 5 .int (rmo 2 46) (fun ad adK => [.ref (ad 0), .int p0, .int p1]) μ z := Mi.of h (by decide +kernel) (fun _ _ => Nat.le_of_ble_eq_true rfl) (fun X hX hQ hl hcs => gX11_manyIn_E hX hQ hcs N p0 p1 μ)
/-! ===== DutyCaseModel.baseFor(I)I ===== -/
set_option maxHeartbeats 4000000 in
set_option maxRecDepth 100000 in
theorem gX11_baseFor_36 {X : Ctx} {z : Int32 × Mem} (hX : Fx wM X cX11_baseFor 5 RX11 (some .int) (rmo 3 70)) (hQ : Qx_i wM X z) (hcs : cx_cells X = 0 ∧ cx_slots X = 0) (N : Nat) (v2 : Int32) (v4 : Int32) (μ : Mem) : G wM X z 36 [(2, .int v2), (4, .int v4)] [] μ (fX11_baseFor_36 N v2 v4 μ) := by
  unfold fX11_baseFor_36
  refine G_iload hX 1 rfl dX11_baseFor_36 ?_
  refine G_if_le hX 54 (by decide) dX11_baseFor_38 ?_ ?_
  · refine G_iconst hX (-1 : Int32) rfl dX11_baseFor_54 ?_
    exact G_iret hX hQ dX11_baseFor_55
  · refine G_bipush hX (20 : Int32) rfl dX11_baseFor_41 ?_
    refine G_iload hX 1 rfl dX11_baseFor_43 ?_
    refine G_imul hX dX11_baseFor_45 ?_
    refine G_iload_n hX 0 rfl rfl dX11_baseFor_46 ?_
    refine G_icmp_lt hX 54 (by decide) dX11_baseFor_47 ?_ ?_
    · refine G_iconst hX (-1 : Int32) rfl dX11_baseFor_54 ?_
      exact G_iret hX hQ dX11_baseFor_55
    · refine G_iconst hX (2 : Int32) rfl dX11_baseFor_50 ?_
      refine G_goto hX 55 (by decide) dX11_baseFor_51 ?_
      exact G_iret hX hQ dX11_baseFor_55
set_option maxHeartbeats 4000000 in
set_option maxRecDepth 100000 in
theorem gX11_baseFor_E {X : Ctx} {z : Int32 × Mem} (hX : Fx wM X cX11_baseFor 5 RX11 (some .int) (rmo 3 70)) (hQ : Qx_i wM X z) (hcs : cx_cells X = 0 ∧ cx_slots X = 0) (N : Nat) (p0 : Int32) (μ : Mem) : G wM X z 0 [(0, .ref (cx_ad X 0)), (1, .int p0)] [] μ (fX11_baseFor N p0 μ) := by
  unfold fX11_baseFor
  refine G_aload_n hX 0 rfl rfl dX11_baseFor_0 ?_
  refine G_iload_n hX 1 rfl rfl dX11_baseFor_1 ?_
  refine G_iconst hX (1 : Int32) rfl dX11_baseFor_2 ?_
  refine G_cVi hX 0 11 (fun ad adK => [.int p0, .int (1 : Int32)]) [] (fun z2 h2 => cX11_manyIn_ok (cx_l X) N p0 (1 : Int32) μ z2 h2) ok_X11_manyIn lm_X11_344 atM0.1 atM0.2 rfl rfl (fun _ _ => rfl) (Nat.le_of_ble_eq_true rfl) ⟨rfl, rfl, by decide, by decide⟩ (cs0 hcs) dX11_baseFor_3 (fun r1 μ => ?_)
  refine G_istore_n hX [(2, .int r1), (0, .ref (cx_ad X 0)), (1, .int p0)] rfl (by decide) rfl dX11_baseFor_6 ?_
  refine G_aload_n hX 1 rfl rfl dX11_baseFor_7 ?_
  refine G_iload_n hX 2 rfl rfl dX11_baseFor_8 ?_
  refine G_iconst hX (0 : Int32) rfl dX11_baseFor_9 ?_
  refine G_cVi hX 0 11 (fun ad adK => [.int p0, .int (0 : Int32)]) [] (fun z2 h2 => cX11_manyIn_ok (cx_l X) N p0 (0 : Int32) μ z2 h2) ok_X11_manyIn lm_X11_344 atM0.1 atM0.2 rfl rfl (fun _ _ => rfl) (Nat.le_of_ble_eq_true rfl) ⟨rfl, rfl, by decide, by decide⟩ (cs0 hcs) dX11_baseFor_10 (fun r2 μ => ?_)
  refine G_istore_n hX [(3, .int r2), (2, .int r1), (0, .ref (cx_ad X 0)), (1, .int p0)] rfl (by decide) rfl dX11_baseFor_13 ?_
  refine G_aload_n hX 2 rfl rfl dX11_baseFor_14 ?_
  refine G_iload_n hX 3 rfl rfl dX11_baseFor_15 ?_
  refine G_iconst hX (2 : Int32) rfl dX11_baseFor_16 ?_
  refine G_cVi hX 0 11 (fun ad adK => [.int p0, .int (2 : Int32)]) [] (fun z2 h2 => cX11_manyIn_ok (cx_l X) N p0 (2 : Int32) μ z2 h2) ok_X11_manyIn lm_X11_344 atM0.1 atM0.2 rfl rfl (fun _ _ => rfl) (Nat.le_of_ble_eq_true rfl) ⟨rfl, rfl, by decide, by decide⟩ (cs0 hcs) dX11_baseFor_17 (fun r3 μ => ?_)
  refine G_istore hX [(4, .int r3), (3, .int r2), (2, .int r1), (0, .ref (cx_ad X 0)), (1, .int p0)] (by decide) rfl dX11_baseFor_20 ?_
  refine G_iload_n hX 1 rfl rfl dX11_baseFor_22 ?_
  refine G_if_le hX 36 (by decide) dX11_baseFor_23 ?_ ?_
  · exact G_sub [2, 0] rfl (gX11_baseFor_36 hX hQ hcs N r1 r3 μ)
  · refine G_bipush hX (20 : Int32) rfl dX11_baseFor_26 ?_
    refine G_iload_n hX 1 rfl rfl dX11_baseFor_28 ?_
    refine G_imul hX dX11_baseFor_29 ?_
    refine G_iload_n hX 2 rfl rfl dX11_baseFor_30 ?_
    refine G_icmp_lt hX 36 (by decide) dX11_baseFor_31 ?_ ?_
    · exact G_sub [2, 0] rfl (gX11_baseFor_36 hX hQ hcs N r1 r3 μ)
    · refine G_iconst hX (0 : Int32) rfl dX11_baseFor_34 ?_
      exact G_iret hX hQ dX11_baseFor_35
theorem cX11_baseFor_ok (l : Launch) (N : Nat) (p0 : Int32) (μ : Mem) (z : Int32 × Mem) (h : fX11_baseFor N p0 μ = some z) : Mi wM l yX11_baseFor cX11_baseFor 5 .int (rmo 3 70) (fun ad adK => [.ref (ad 0), .int p0]) μ z := Mi.of h (by decide +kernel) (fun _ _ => Nat.le_of_ble_eq_true rfl) (fun X hX hQ hl hcs => gX11_baseFor_E hX hQ hcs N p0 μ)
/-! ===== DutyCaseModel.isInBase(I)Z ===== -/
set_option maxHeartbeats 4000000 in
set_option maxRecDepth 100000 in
theorem gX11_isInBase_E {X : Ctx} {z : Int32 × Mem} (hX : Fx wM X cX11_isInBase 2 RX11 (some .boolean) (rmo 2 46)) (hQ : Qx_i wM X z) (hcs : cx_cells X = 0 ∧ cx_slots X = 0) (N : Nat) (p0 : Int32) (μ : Mem) : G wM X z 0 [(0, .ref (cx_ad X 0)), (1, .int p0)] [] μ (fX11_isInBase N p0 μ) := by
  unfold fX11_isInBase
  refine G_aload_n hX 0 rfl rfl dX11_isInBase_0 ?_
  refine G_iload_n hX 1 rfl rfl dX11_isInBase_1 ?_
  refine G_cVi hX 0 11 (fun ad adK => [.int p0]) [] (fun z2 h2 => cX11_isSale_ok (cx_l X) N p0 μ z2 h2) ok_X11_isSale lm_X11_341 atM0.1 atM0.2 rfl rfl (fun _ _ => rfl) (Nat.le_of_ble_eq_true rfl) ⟨rfl, rfl, by decide, by decide⟩ (cs0 hcs) dX11_isInBase_2 (fun r1 μ => ?_)
  refine G_if_eq hX 32 (by decide) dX11_isInBase_5 ?_ ?_
  · refine G_iconst hX (0 : Int32) rfl dX11_isInBase_32 ?_
    exact G_zret hX hQ rfl dX11_isInBase_33
  · refine G_aload_n hX 0 rfl rfl dX11_isInBase_8 ?_
    refine G_iload_n hX 1 rfl rfl dX11_isInBase_9 ?_
    refine G_iconst hX (0 : Int32) rfl dX11_isInBase_10 ?_
    refine G_cVi hX 0 11 (fun ad adK => [.int p0, .int (0 : Int32)]) [] (fun z2 h2 => cX11_of_ok (cx_l X) N p0 (0 : Int32) μ z2 h2) ok_X11_of lm_X11_305 atM0.1 atM0.2 rfl rfl (fun _ _ => rfl) (Nat.le_of_ble_eq_true rfl) ⟨rfl, rfl, by decide, by decide⟩ (cs0 hcs) dX11_isInBase_11 (fun r2 μ => ?_)
    refine G_aload_n hX 0 rfl rfl dX11_isInBase_14 ?_
    refine gf_X11_79_M0 hX dX11_isInBase_15 ?_
    refine G_aload_n hX 0 rfl rfl dX11_isInBase_18 ?_
    refine G_iload_n hX 1 rfl rfl dX11_isInBase_19 ?_
    refine G_iconst hX (1 : Int32) rfl dX11_isInBase_20 ?_
    refine G_cVi hX 0 11 (fun ad adK => [.int p0, .int (1 : Int32)]) [.ref (cx_ad X 22), .int r2] (fun z2 h2 => cX11_of_ok (cx_l X) N p0 (1 : Int32) μ z2 h2) ok_X11_of lm_X11_305 atM0.1 atM0.2 rfl rfl (fun _ _ => rfl) (Nat.le_of_ble_eq_true rfl) ⟨rfl, rfl, by decide, by decide⟩ (cs0 hcs) dX11_isInBase_21 (fun r3 μ => ?_)
    refine G_aI hX atM22 dX11_isInBase_24 (fun x4 => ?_)
    refine G_icmp_ne hX 32 (by decide) dX11_isInBase_25 ?_ ?_
    · refine G_iconst hX (0 : Int32) rfl dX11_isInBase_32 ?_
      exact G_zret hX hQ rfl dX11_isInBase_33
    · refine G_iconst hX (1 : Int32) rfl dX11_isInBase_28 ?_
      refine G_goto hX 33 (by decide) dX11_isInBase_29 ?_
      exact G_zret hX hQ rfl dX11_isInBase_33
theorem cX11_isInBase_ok (l : Launch) (N : Nat) (p0 : Int32) (μ : Mem) (z : Int32 × Mem) (h : fX11_isInBase N p0 μ = some z) : Mi wM l yX11_isInBase cX11_isInBase 2 .boolean (rmo 2 46) (fun ad adK => [.ref (ad 0), .int p0]) μ z := Mi.of h (by decide +kernel) (fun _ _ => Nat.le_of_ble_eq_true rfl) (fun X hX hQ hl hcs => gX11_isInBase_E hX hQ hcs N p0 μ)
/-! ===== DutyCaseModel.manyBase(IIZ)I ===== -/
set_option maxHeartbeats 4000000 in
set_option maxRecDepth 100000 in
theorem gX11_manyBase_77 {X : Ctx} {z : Int32 × Mem} (hX : Fx wM X cX11_manyBase 7 RX11 (some .int) (rmo 3 67)) (hQ : Qx_i wM X z) (hcs : cx_cells X = 0 ∧ cx_slots X = 0) (N : Nat) (k6 : Int32 → Int32 → Int32 → Int32 → Int32 → Mem → Option (Int32 × Mem)) (hk6 : ∀ (v1 : Int32) (v2 : Int32) (v3 : Int32) (v4 : Int32) (v5 : Int32) (μ : Mem), G wM X z 6 [(0, .ref (cx_ad X 0)), (1, .int v1), (2, .int v2), (3, .int v3), (4, .int v4), (5, .int v5)] [] μ (k6 v1 v2 v3 v4 v5 μ)) (v1 : Int32) (v2 : Int32) (v3 : Int32) (v5 : Int32) (s0 : Int32) (μ : Mem) : G wM X z 77 [(0, .ref (cx_ad X 0)), (1, .int v1), (2, .int v2), (3, .int v3), (5, .int v5)] [.int s0] μ (fX11_manyBase_77 N k6 v1 v2 v3 v5 s0 μ) := by
  unfold fX11_manyBase_77
  refine G_aload_n hX 0 rfl rfl dX11_manyBase_77 ?_
  refine G_iload hX 4 rfl dX11_manyBase_78 ?_
  refine G_iconst hX (5 : Int32) rfl dX11_manyBase_80 ?_
  refine G_cVi hX 0 11 (fun ad adK => [.int v5, .int (5 : Int32)]) [.int s0] (fun z2 h2 => cX11_of_ok (cx_l X) N v5 (5 : Int32) μ z2 h2) ok_X11_of lm_X11_305 atM0.1 atM0.2 rfl rfl (fun _ _ => rfl) (Nat.le_of_ble_eq_true rfl) ⟨rfl, rfl, by decide, by decide⟩ (cs0 hcs) dX11_manyBase_81 (fun r10 μ => ?_)
  refine G_goto hX 88 (by decide) dX11_manyBase_84 ?_
  refine G_iadd hX dX11_manyBase_88 ?_
  refine G_nmi (fun x11 => ?_)
  refine G_istore hX [(4, .int x11), (0, .ref (cx_ad X 0)), (1, .int v1), (2, .int v2), (3, .int v3), (5, .int v5)] (by decide) rfl dX11_manyBase_89 ?_
  refine G_iincN hX 5 (fun x12 => [(5, .int x12), (4, .int x11), (0, .ref (cx_ad X 0)), (1, .int v1), (2, .int v2), (3, .int v3)]) rfl rfl (by decide) (fun _ => rfl) dX11_manyBase_91 (fun x12 => ?_)
  refine G_goto hX 6 (by decide) dX11_manyBase_94 ?_
  exact G_sub [2, 3, 4, 5, 1, 0] rfl (hk6 v1 v2 v3 x11 x12 μ)
set_option maxHeartbeats 4000000 in
set_option maxRecDepth 100000 in
theorem gX11_manyBase_54 {X : Ctx} {z : Int32 × Mem} (hX : Fx wM X cX11_manyBase 7 RX11 (some .int) (rmo 3 67)) (hQ : Qx_i wM X z) (hcs : cx_cells X = 0 ∧ cx_slots X = 0) (N : Nat) (k6 : Int32 → Int32 → Int32 → Int32 → Int32 → Mem → Option (Int32 × Mem)) (hk6 : ∀ (v1 : Int32) (v2 : Int32) (v3 : Int32) (v4 : Int32) (v5 : Int32) (μ : Mem), G wM X z 6 [(0, .ref (cx_ad X 0)), (1, .int v1), (2, .int v2), (3, .int v3), (4, .int v4), (5, .int v5)] [] μ (k6 v1 v2 v3 v4 v5 μ)) (v1 : Int32) (v2 : Int32) (v3 : Int32) (v4 : Int32) (v5 : Int32) (s0 : Int32) (μ : Mem) : G wM X z 54 [(0, .ref (cx_ad X 0)), (1, .int v1), (2, .int v2), (3, .int v3), (4, .int v4), (5, .int v5)] [.int s0] μ (fX11_manyBase_54 N k6 v1 v2 v3 v4 v5 s0 μ) := by
  unfold fX11_manyBase_54
  refine G_istore hX [(6, .int s0), (0, .ref (cx_ad X 0)), (1, .int v1), (2, .int v2), (3, .int v3), (4, .int v4), (5, .int v5)] (by decide) rfl dX11_manyBase_54 ?_
  refine G_iload hX 5 rfl dX11_manyBase_56 ?_
  refine G_iload hX 0 rfl dX11_manyBase_58 ?_
  refine G_if_eq hX 87 (by decide) dX11_manyBase_60 ?_ ?_
  · refine G_iconst hX (0 : Int32) rfl dX11_manyBase_87 ?_
    refine G_iadd hX dX11_manyBase_88 ?_
    refine G_nmi (fun x5 => ?_)
    refine G_istore hX [(4, .int x5), (6, .int s0), (0, .ref (cx_ad X 0)), (1, .int v1), (2, .int v2), (3, .int v3), (5, .int v5)] (by decide) rfl dX11_manyBase_89 ?_
    refine G_iincN hX 6 (fun x6 => [(5, .int x6), (4, .int x5), (6, .int s0), (0, .ref (cx_ad X 0)), (1, .int v1), (2, .int v2), (3, .int v3)]) rfl rfl (by decide) (fun _ => rfl) dX11_manyBase_91 (fun x6 => ?_)
    refine G_goto hX 6 (by decide) dX11_manyBase_94 ?_
    exact G_sub [3, 4, 5, 6, 1, 0] rfl (hk6 v1 v2 v3 x5 x6 μ)
  · refine G_iload_n hX 4 rfl rfl dX11_manyBase_63 ?_
    refine G_if_eq hX 77 (by decide) dX11_manyBase_64 ?_ ?_
    · exact G_sub [1, 2, 3, 4, 6] rfl (gX11_manyBase_77 hX hQ hcs N k6 hk6 v1 v2 v3 v5 v4 μ)
    · refine G_aload_n hX 1 rfl rfl dX11_manyBase_67 ?_
      refine gf_X11_72_M0 hX dX11_manyBase_68 ?_
      refine G_iload hX 6 rfl dX11_manyBase_71 ?_
      refine G_aZ hX atM20 dX11_manyBase_73 (fun x7 => ?_)
      refine G_if_eq hX 87 (by decide) dX11_manyBase_74 ?_ ?_
      · refine G_iconst hX (0 : Int32) rfl dX11_manyBase_87 ?_
        refine G_iadd hX dX11_manyBase_88 ?_
        refine G_nmi (fun x8 => ?_)
        refine G_istore hX [(4, .int x8), (6, .int s0), (0, .ref (cx_ad X 0)), (1, .int v1), (2, .int v2), (3, .int v3), (5, .int v5)] (by decide) rfl dX11_manyBase_89 ?_
        refine G_iincN hX 6 (fun x9 => [(5, .int x9), (4, .int x8), (6, .int s0), (0, .ref (cx_ad X 0)), (1, .int v1), (2, .int v2), (3, .int v3)]) rfl rfl (by decide) (fun _ => rfl) dX11_manyBase_91 (fun x9 => ?_)
        refine G_goto hX 6 (by decide) dX11_manyBase_94 ?_
        exact G_sub [3, 4, 5, 6, 1, 0] rfl (hk6 v1 v2 v3 x8 x9 μ)
      · exact G_sub [1, 2, 3, 4, 6] rfl (gX11_manyBase_77 hX hQ hcs N k6 hk6 v1 v2 v3 v5 v4 μ)
set_option maxHeartbeats 4000000 in
set_option maxRecDepth 100000 in
theorem gX11_manyBase_6 {X : Ctx} {z : Int32 × Mem} (hX : Fx wM X cX11_manyBase 7 RX11 (some .int) (rmo 3 67)) (hQ : Qx_i wM X z) (hcs : cx_cells X = 0 ∧ cx_slots X = 0) (N : Nat) : ∀ (n : Nat) (v1 : Int32) (v2 : Int32) (v3 : Int32) (v4 : Int32) (v5 : Int32) (μ : Mem), G wM X z 6 [(0, .ref (cx_ad X 0)), (1, .int v1), (2, .int v2), (3, .int v3), (4, .int v4), (5, .int v5)] [] μ (fX11_manyBase_6 N n v1 v2 v3 v4 v5 μ) := by
  intro n
  induction n with
  | zero =>
    intro v1 v2 v3 v4 v5 μ
    exact G_none
  | succ n ih =>
    intro v1 v2 v3 v4 v5 μ
    unfold fX11_manyBase_6
    refine G_iload hX 5 rfl dX11_manyBase_6 ?_
    refine G_aload_n hX 0 rfl rfl dX11_manyBase_8 ?_
    refine gf_X11_7_M0 hX dX11_manyBase_9 ?_
    refine G_bipush hX (34 : Int32) rfl dX11_manyBase_12 ?_
    refine G_aI hX atM1 dX11_manyBase_14 (fun x1 => ?_)
    refine G_icmp_ge hX 97 (by decide) dX11_manyBase_15 ?_ ?_
    · refine G_iload hX 4 rfl dX11_manyBase_97 ?_
      exact G_iret hX hQ dX11_manyBase_99
    · refine G_aload_n hX 0 rfl rfl dX11_manyBase_18 ?_
      refine G_iload hX 5 rfl dX11_manyBase_19 ?_
      refine G_cVi hX 0 11 (fun ad adK => [.int v5]) [] (fun z2 h2 => cX11_isInBase_ok (cx_l X) N v5 μ z2 h2) ok_X11_isInBase lm_X11_347 atM0.1 atM0.2 rfl rfl (fun _ _ => rfl) (Nat.le_of_ble_eq_true rfl) ⟨rfl, rfl, by decide, by decide⟩ (cs0 hcs) dX11_manyBase_21 (fun r2 μ => ?_)
      refine G_if_eq hX 53 (by decide) dX11_manyBase_24 ?_ ?_
      · refine G_iconst hX (0 : Int32) rfl dX11_manyBase_53 ?_
        exact G_sub [0, 1, 2, 3, 4, 5] rfl (gX11_manyBase_54 hX hQ hcs N (fun v1 v2 v3 v4 v5 μ => fX11_manyBase_6 N n v1 v2 v3 v4 v5 μ) (fun v1 v2 v3 v4 v5  μ => ih v1 v2 v3 v4 v5  μ) v1 v2 v3 v4 v5 (0 : Int32) μ)
      · refine G_aload_n hX 0 rfl rfl dX11_manyBase_27 ?_
        refine G_iload hX 5 rfl dX11_manyBase_28 ?_
        refine G_iconst hX (1 : Int32) rfl dX11_manyBase_30 ?_
        refine G_cVi hX 0 11 (fun ad adK => [.int v5, .int (1 : Int32)]) [] (fun z2 h2 => cX11_of_ok (cx_l X) N v5 (1 : Int32) μ z2 h2) ok_X11_of lm_X11_305 atM0.1 atM0.2 rfl rfl (fun _ _ => rfl) (Nat.le_of_ble_eq_true rfl) ⟨rfl, rfl, by decide, by decide⟩ (cs0 hcs) dX11_manyBase_31 (fun r3 μ => ?_)
        refine G_iload_n hX 1 rfl rfl dX11_manyBase_34 ?_
        refine G_icmp_ne hX 53 (by decide) dX11_manyBase_35 ?_ ?_
        · refine G_iconst hX (0 : Int32) rfl dX11_manyBase_53 ?_
          exact G_sub [0, 1, 2, 3, 4, 5] rfl (gX11_manyBase_54 hX hQ hcs N (fun v1 v2 v3 v4 v5 μ => fX11_manyBase_6 N n v1 v2 v3 v4 v5 μ) (fun v1 v2 v3 v4 v5  μ => ih v1 v2 v3 v4 v5  μ) v1 v2 v3 v4 v5 (0 : Int32) μ)
        · refine G_aload_n hX 0 rfl rfl dX11_manyBase_38 ?_
          refine G_iload hX 5 rfl dX11_manyBase_39 ?_
          refine G_iconst hX (2 : Int32) rfl dX11_manyBase_41 ?_
          refine G_cVi hX 0 11 (fun ad adK => [.int v5, .int (2 : Int32)]) [] (fun z2 h2 => cX11_of_ok (cx_l X) N v5 (2 : Int32) μ z2 h2) ok_X11_of lm_X11_305 atM0.1 atM0.2 rfl rfl (fun _ _ => rfl) (Nat.le_of_ble_eq_true rfl) ⟨rfl, rfl, by decide, by decide⟩ (cs0 hcs) dX11_manyBase_42 (fun r4 μ => ?_)
          refine G_iload_n hX 2 rfl rfl dX11_manyBase_45 ?_
          refine G_icmp_ne hX 53 (by decide) dX11_manyBase_46 ?_ ?_
          · refine G_iconst hX (0 : Int32) rfl dX11_manyBase_53 ?_
            exact G_sub [0, 1, 2, 3, 4, 5] rfl (gX11_manyBase_54 hX hQ hcs N (fun v1 v2 v3 v4 v5 μ => fX11_manyBase_6 N n v1 v2 v3 v4 v5 μ) (fun v1 v2 v3 v4 v5  μ => ih v1 v2 v3 v4 v5  μ) v1 v2 v3 v4 v5 (0 : Int32) μ)
          · refine G_iconst hX (1 : Int32) rfl dX11_manyBase_49 ?_
            refine G_goto hX 54 (by decide) dX11_manyBase_50 ?_
            exact G_sub [0, 1, 2, 3, 4, 5] rfl (gX11_manyBase_54 hX hQ hcs N (fun v1 v2 v3 v4 v5 μ => fX11_manyBase_6 N n v1 v2 v3 v4 v5 μ) (fun v1 v2 v3 v4 v5  μ => ih v1 v2 v3 v4 v5  μ) v1 v2 v3 v4 v5 (1 : Int32) μ)
set_option maxHeartbeats 4000000 in
set_option maxRecDepth 100000 in
theorem gX11_manyBase_E {X : Ctx} {z : Int32 × Mem} (hX : Fx wM X cX11_manyBase 7 RX11 (some .int) (rmo 3 67)) (hQ : Qx_i wM X z) (hcs : cx_cells X = 0 ∧ cx_slots X = 0) (N : Nat) (p0 : Int32) (p1 : Int32) (p2 : Int32) (μ : Mem) : G wM X z 0 [(0, .ref (cx_ad X 0)), (1, .int p0), (2, .int p1), (3, .int p2)] [] μ (fX11_manyBase N p0 p1 p2 μ) := by
  unfold fX11_manyBase
  refine G_iconst hX (0 : Int32) rfl dX11_manyBase_0 ?_
  refine G_istore hX [(4, .int (0 : Int32)), (0, .ref (cx_ad X 0)), (1, .int p0), (2, .int p1), (3, .int p2)] (by decide) rfl dX11_manyBase_1 ?_
  refine G_iconst hX (0 : Int32) rfl dX11_manyBase_3 ?_
  refine G_istore hX [(5, .int (0 : Int32)), (4, .int (0 : Int32)), (0, .ref (cx_ad X 0)), (1, .int p0), (2, .int p1), (3, .int p2)] (by decide) rfl dX11_manyBase_4 ?_
  exact G_sub [2, 3, 4, 5, 1, 0] rfl (gX11_manyBase_6 hX hQ hcs N N p0 p1 p2 (0 : Int32) (0 : Int32) μ)
theorem cX11_manyBase_ok (l : Launch) (N : Nat) (p0 : Int32) (p1 : Int32) (p2 : Int32) (μ : Mem) (z : Int32 × Mem) (h : fX11_manyBase N p0 p1 p2 μ = some z) : Mi wM l yX11_manyBase cX11_manyBase 7 .int (rmo 3 67) (fun ad adK => [.ref (ad 0), .int p0, .int p1, .int p2]) μ z := Mi.of h (by decide +kernel) (fun _ _ => Nat.le_of_ble_eq_true rfl) (fun X hX hQ hl hcs => gX11_manyBase_E hX hQ hcs N p0 p1 p2 μ)
/-! ===== DutyCaseModel.areOut(II)Z ===== -/
set_option maxHeartbeats 4000000 in
set_option maxRecDepth 100000 in
theorem gX11_areOut_E {X : Ctx} {z : Int32 × Mem} (hX : Fx wM X cX11_areOut 4 RX11 (some .boolean) (rmo 4 93)) (hQ : Qx_i wM X z) (hcs : cx_cells X = 0 ∧ cx_slots X = 0) (N : Nat) (p0 : Int32) (p1 : Int32) (μ : Mem) : G wM X z 0 [(0, .ref (cx_ad X 0)), (1, .int p0), (2, .int p1)] [] μ (fX11_areOut N p0 p1 μ) := by
  unfold fX11_areOut
  refine G_aload_n hX 0 rfl rfl dX11_areOut_0 ?_
  refine G_iload_n hX 1 rfl rfl dX11_areOut_1 ?_
  refine G_iload_n hX 2 rfl rfl dX11_areOut_2 ?_
  refine G_iconst hX (1 : Int32) rfl dX11_areOut_3 ?_
  refine G_cVi hX 0 11 (fun ad adK => [.int p0, .int p1, .int (1 : Int32)]) [] (fun z2 h2 => cX11_manyBase_ok (cx_l X) N p0 p1 (1 : Int32) μ z2 h2) ok_X11_manyBase lm_X11_350 atM0.1 atM0.2 rfl rfl (fun _ _ => rfl) (Nat.le_of_ble_eq_true rfl) ⟨rfl, rfl, by decide, by decide⟩ (cs0 hcs) dX11_areOut_4 (fun r1 μ => ?_)
  refine G_istore_n hX [(3, .int r1), (0, .ref (cx_ad X 0)), (1, .int p0), (2, .int p1)] rfl (by decide) rfl dX11_areOut_7 ?_
  refine G_iload_n hX 0 rfl rfl dX11_areOut_8 ?_
  refine G_if_le hX 29 (by decide) dX11_areOut_9 ?_ ?_
  · refine G_iconst hX (0 : Int32) rfl dX11_areOut_29 ?_
    exact G_zret hX hQ rfl dX11_areOut_30
  · refine G_iconst hX (5 : Int32) rfl dX11_areOut_12 ?_
    refine G_iload_n hX 0 rfl rfl dX11_areOut_13 ?_
    refine G_imul hX dX11_areOut_14 ?_
    refine G_aload_n hX 1 rfl rfl dX11_areOut_15 ?_
    refine G_iload_n hX 2 rfl rfl dX11_areOut_16 ?_
    refine G_iload_n hX 3 rfl rfl dX11_areOut_17 ?_
    refine G_iconst hX (0 : Int32) rfl dX11_areOut_18 ?_
    refine G_cVi hX 0 11 (fun ad adK => [.int p0, .int p1, .int (0 : Int32)]) [.int ((5 : Int32) * r1)] (fun z2 h2 => cX11_manyBase_ok (cx_l X) N p0 p1 (0 : Int32) μ z2 h2) ok_X11_manyBase lm_X11_350 atM0.1 atM0.2 rfl rfl (fun _ _ => rfl) (Nat.le_of_ble_eq_true rfl) ⟨rfl, rfl, by decide, by decide⟩ (cs0 hcs) dX11_areOut_19 (fun r2 μ => ?_)
    refine G_icmp_lt hX 29 (by decide) dX11_areOut_22 ?_ ?_
    · refine G_iconst hX (0 : Int32) rfl dX11_areOut_29 ?_
      exact G_zret hX hQ rfl dX11_areOut_30
    · refine G_iconst hX (1 : Int32) rfl dX11_areOut_25 ?_
      refine G_goto hX 30 (by decide) dX11_areOut_26 ?_
      exact G_zret hX hQ rfl dX11_areOut_30
theorem cX11_areOut_ok (l : Launch) (N : Nat) (p0 : Int32) (p1 : Int32) (μ : Mem) (z : Int32 × Mem) (h : fX11_areOut N p0 p1 μ = some z) : Mi wM l yX11_areOut cX11_areOut 4 .boolean (rmo 4 93) (fun ad adK => [.ref (ad 0), .int p0, .int p1]) μ z := Mi.of h (by decide +kernel) (fun _ _ => Nat.le_of_ble_eq_true rfl) (fun X hX hQ hl hcs => gX11_areOut_E hX hQ hcs N p0 p1 μ)
/-! ===== DutyCaseModel.lays()V ===== -/
set_option maxHeartbeats 4000000 in
set_option maxRecDepth 100000 in
theorem gX11_lays_159 {X : Ctx} {z : Unit × Mem} (hX : Fx wM X cX11_lays 3 RX11 none (rmo 5 116)) (hQ : Qx_v wM X z) (hcs : cx_cells X = 0 ∧ cx_slots X = 0) (N : Nat) : ∀ (n : Nat) (v1 : Int32) (μ : Mem), G wM X z 159 [(0, .ref (cx_ad X 0)), (1, .int v1)] [] μ (fX11_lays_159 N n v1 μ) := by
  intro n
  induction n with
  | zero =>
    intro v1 μ
    exact G_none
  | succ n ih =>
    intro v1 μ
    unfold fX11_lays_159
    refine G_iload_n hX 1 rfl rfl dX11_lays_159 ?_
    refine G_aload_n hX 0 rfl rfl dX11_lays_160 ?_
    refine gf_X11_7_M0 hX dX11_lays_161 ?_
    refine G_bipush hX (34 : Int32) rfl dX11_lays_164 ?_
    refine G_aI hX atM1 dX11_lays_166 (fun x10 => ?_)
    refine G_icmp_ge hX 223 (by decide) dX11_lays_167 ?_ ?_
    · exact G_vret hX hQ dX11_lays_223
    · refine G_aload_n hX 0 rfl rfl dX11_lays_170 ?_
      refine gf_X11_76_M0 hX dX11_lays_171 ?_
      refine G_iload_n hX 1 rfl rfl dX11_lays_174 ?_
      refine G_aload_n hX 0 rfl rfl dX11_lays_175 ?_
      refine G_iload_n hX 1 rfl rfl dX11_lays_176 ?_
      refine G_cVi hX 0 11 (fun ad adK => [.int v1]) [.int v1, .ref (cx_ad X 21)] (fun z2 h2 => cX11_isInBase_ok (cx_l X) N v1 μ z2 h2) ok_X11_isInBase lm_X11_347 atM0.1 atM0.2 rfl rfl (fun _ _ => rfl) (Nat.le_of_ble_eq_true rfl) ⟨rfl, rfl, by decide, by decide⟩ (cs0 hcs) dX11_lays_177 (fun r11 μ => ?_)
      refine G_if_eq hX 215 (by decide) dX11_lays_180 ?_ ?_
      · refine G_iconst hX (0 : Int32) rfl dX11_lays_215 ?_
        refine G_sZ hX atM21 dX11_lays_216 (fun μ => ?_)
        refine G_iincN hX 1 (fun x12 => [(1, .int x12), (0, .ref (cx_ad X 0))]) rfl rfl (by decide) (fun _ => rfl) dX11_lays_217 (fun x12 => ?_)
        refine G_goto hX 159 (by decide) dX11_lays_220 ?_
        exact G_sub [1, 0] rfl (ih x12 μ)
      · refine G_aload_n hX 0 rfl rfl dX11_lays_183 ?_
        refine gf_X11_72_M0 hX dX11_lays_184 ?_
        refine G_iload_n hX 1 rfl rfl dX11_lays_187 ?_
        refine G_aZ hX atM20 dX11_lays_188 (fun x13 => ?_)
        refine G_if_eq hX 211 (by decide) dX11_lays_189 ?_ ?_
        · refine G_iconst hX (1 : Int32) rfl dX11_lays_211 ?_
          refine G_goto hX 216 (by decide) dX11_lays_212 ?_
          refine G_sZ hX atM21 dX11_lays_216 (fun μ => ?_)
          refine G_iincN hX 1 (fun x14 => [(1, .int x14), (0, .ref (cx_ad X 0))]) rfl rfl (by decide) (fun _ => rfl) dX11_lays_217 (fun x14 => ?_)
          refine G_goto hX 159 (by decide) dX11_lays_220 ?_
          exact G_sub [1, 0] rfl (ih x14 μ)
        · refine G_aload_n hX 0 rfl rfl dX11_lays_192 ?_
          refine G_aload_n hX 0 rfl rfl dX11_lays_193 ?_
          refine G_iload_n hX 1 rfl rfl dX11_lays_194 ?_
          refine G_iconst hX (1 : Int32) rfl dX11_lays_195 ?_
          refine G_cVi hX 0 11 (fun ad adK => [.int v1, .int (1 : Int32)]) [.ref (cx_ad X 0), .int v1, .ref (cx_ad X 21)] (fun z2 h2 => cX11_of_ok (cx_l X) N v1 (1 : Int32) μ z2 h2) ok_X11_of lm_X11_305 atM0.1 atM0.2 rfl rfl (fun _ _ => rfl) (Nat.le_of_ble_eq_true rfl) ⟨rfl, rfl, by decide, by decide⟩ (cs0 hcs) dX11_lays_196 (fun r15 μ => ?_)
          refine G_aload_n hX 0 rfl rfl dX11_lays_199 ?_
          refine G_iload_n hX 1 rfl rfl dX11_lays_200 ?_
          refine G_iconst hX (2 : Int32) rfl dX11_lays_201 ?_
          refine G_cVi hX 0 11 (fun ad adK => [.int v1, .int (2 : Int32)]) [.int r15, .ref (cx_ad X 0), .int v1, .ref (cx_ad X 21)] (fun z2 h2 => cX11_of_ok (cx_l X) N v1 (2 : Int32) μ z2 h2) ok_X11_of lm_X11_305 atM0.1 atM0.2 rfl rfl (fun _ _ => rfl) (Nat.le_of_ble_eq_true rfl) ⟨rfl, rfl, by decide, by decide⟩ (cs0 hcs) dX11_lays_202 (fun r16 μ => ?_)
          refine G_cVi hX 0 11 (fun ad adK => [.int r15, .int r16]) [.int v1, .ref (cx_ad X 21)] (fun z2 h2 => cX11_areOut_ok (cx_l X) N r15 r16 μ z2 h2) ok_X11_areOut lm_X11_361 atM0.1 atM0.2 rfl rfl (fun _ _ => rfl) (Nat.le_of_ble_eq_true rfl) ⟨rfl, rfl, by decide, by decide⟩ (cs0 hcs) dX11_lays_205 (fun r17 μ => ?_)
          refine G_if_ne hX 215 (by decide) dX11_lays_208 ?_ ?_
          · refine G_iconst hX (0 : Int32) rfl dX11_lays_215 ?_
            refine G_sZ hX atM21 dX11_lays_216 (fun μ => ?_)
            refine G_iincN hX 1 (fun x18 => [(1, .int x18), (0, .ref (cx_ad X 0))]) rfl rfl (by decide) (fun _ => rfl) dX11_lays_217 (fun x18 => ?_)
            refine G_goto hX 159 (by decide) dX11_lays_220 ?_
            exact G_sub [1, 0] rfl (ih x18 μ)
          · refine G_iconst hX (1 : Int32) rfl dX11_lays_211 ?_
            refine G_goto hX 216 (by decide) dX11_lays_212 ?_
            refine G_sZ hX atM21 dX11_lays_216 (fun μ => ?_)
            refine G_iincN hX 1 (fun x19 => [(1, .int x19), (0, .ref (cx_ad X 0))]) rfl rfl (by decide) (fun _ => rfl) dX11_lays_217 (fun x19 => ?_)
            refine G_goto hX 159 (by decide) dX11_lays_220 ?_
            exact G_sub [1, 0] rfl (ih x19 μ)
set_option maxHeartbeats 4000000 in
set_option maxRecDepth 100000 in
theorem gX11_lays_106 {X : Ctx} {z : Unit × Mem} (hX : Fx wM X cX11_lays 3 RX11 none (rmo 5 116)) (hQ : Qx_v wM X z) (hcs : cx_cells X = 0 ∧ cx_slots X = 0) (N : Nat) (k42 : Int32 → Mem → Option (Unit × Mem)) (hk42 : ∀ (v1 : Int32) (μ : Mem), G wM X z 42 [(0, .ref (cx_ad X 0)), (1, .int v1)] [] μ (k42 v1 μ)) (v1 : Int32) (s0 : Int32) (s1 : Int32) (μ : Mem) : G wM X z 106 [(0, .ref (cx_ad X 0)), (1, .int v1)] [.int s0, .int s1, .ref (cx_ad X 19)] μ (fX11_lays_106 N k42 v1 s0 s1 μ) := by
  unfold fX11_lays_106
  refine G_sI hX atM19 dX11_lays_106 (fun μ => ?_)
  refine G_aload_n hX 0 rfl rfl dX11_lays_107 ?_
  refine gf_X11_72_M0 hX dX11_lays_108 ?_
  refine G_iload_n hX 1 rfl rfl dX11_lays_111 ?_
  refine G_aload_n hX 0 rfl rfl dX11_lays_112 ?_
  refine G_iload_n hX 1 rfl rfl dX11_lays_113 ?_
  refine G_cVi hX 0 11 (fun ad adK => [.int v1]) [.int v1, .ref (cx_ad X 20)] (fun z2 h2 => cX11_isInBase_ok (cx_l X) N v1 μ z2 h2) ok_X11_isInBase lm_X11_347 atM0.1 atM0.2 rfl rfl (fun _ _ => rfl) (Nat.le_of_ble_eq_true rfl) ⟨rfl, rfl, by decide, by decide⟩ (cs0 hcs) dX11_lays_114 (fun r20 μ => ?_)
  refine G_if_eq hX 149 (by decide) dX11_lays_117 ?_ ?_
  · refine G_iconst hX (0 : Int32) rfl dX11_lays_149 ?_
    refine G_sZ hX atM20 dX11_lays_150 (fun μ => ?_)
    refine G_iincN hX 1 (fun x21 => [(1, .int x21), (0, .ref (cx_ad X 0))]) rfl rfl (by decide) (fun _ => rfl) dX11_lays_151 (fun x21 => ?_)
    refine G_goto hX 42 (by decide) dX11_lays_154 ?_
    exact G_sub [1, 0] rfl (hk42 x21 μ)
  · refine G_aload_n hX 0 rfl rfl dX11_lays_120 ?_
    refine gf_X11_69_M0 hX dX11_lays_121 ?_
    refine G_iload_n hX 1 rfl rfl dX11_lays_124 ?_
    refine G_aI hX atM19 dX11_lays_125 (fun x22 => ?_)
    refine G_aload_n hX 0 rfl rfl dX11_lays_126 ?_
    refine G_aload_n hX 0 rfl rfl dX11_lays_127 ?_
    refine G_iload_n hX 1 rfl rfl dX11_lays_128 ?_
    refine G_iconst hX (1 : Int32) rfl dX11_lays_129 ?_
    refine G_cVi hX 0 11 (fun ad adK => [.int v1, .int (1 : Int32)]) [.ref (cx_ad X 0), .int x22, .int v1, .ref (cx_ad X 20)] (fun z2 h2 => cX11_of_ok (cx_l X) N v1 (1 : Int32) μ z2 h2) ok_X11_of lm_X11_305 atM0.1 atM0.2 rfl rfl (fun _ _ => rfl) (Nat.le_of_ble_eq_true rfl) ⟨rfl, rfl, by decide, by decide⟩ (cs0 hcs) dX11_lays_130 (fun r23 μ => ?_)
    refine G_aload_n hX 0 rfl rfl dX11_lays_133 ?_
    refine G_iload_n hX 1 rfl rfl dX11_lays_134 ?_
    refine G_iconst hX (2 : Int32) rfl dX11_lays_135 ?_
    refine G_cVi hX 0 11 (fun ad adK => [.int v1, .int (2 : Int32)]) [.int r23, .ref (cx_ad X 0), .int x22, .int v1, .ref (cx_ad X 20)] (fun z2 h2 => cX11_of_ok (cx_l X) N v1 (2 : Int32) μ z2 h2) ok_X11_of lm_X11_305 atM0.1 atM0.2 rfl rfl (fun _ _ => rfl) (Nat.le_of_ble_eq_true rfl) ⟨rfl, rfl, by decide, by decide⟩ (cs0 hcs) dX11_lays_136 (fun r24 μ => ?_)
    refine G_cVi hX 0 11 (fun ad adK => [.int r23, .int r24]) [.int x22, .int v1, .ref (cx_ad X 20)] (fun z2 h2 => cX11_costOf_ok (cx_l X) N r23 r24 μ z2 h2) ok_X11_costOf lm_X11_322 atM0.1 atM0.2 rfl rfl (fun _ _ => rfl) (Nat.le_of_ble_eq_true rfl) ⟨rfl, rfl, by decide, by decide⟩ (cs0 hcs) dX11_lays_139 (fun r25 μ => ?_)
    refine G_icmp_ge hX 149 (by decide) dX11_lays_142 ?_ ?_
    · refine G_iconst hX (0 : Int32) rfl dX11_lays_149 ?_
      refine G_sZ hX atM20 dX11_lays_150 (fun μ => ?_)
      refine G_iincN hX 1 (fun x26 => [(1, .int x26), (0, .ref (cx_ad X 0))]) rfl rfl (by decide) (fun _ => rfl) dX11_lays_151 (fun x26 => ?_)
      refine G_goto hX 42 (by decide) dX11_lays_154 ?_
      exact G_sub [1, 0] rfl (hk42 x26 μ)
    · refine G_iconst hX (1 : Int32) rfl dX11_lays_145 ?_
      refine G_goto hX 150 (by decide) dX11_lays_146 ?_
      refine G_sZ hX atM20 dX11_lays_150 (fun μ => ?_)
      refine G_iincN hX 1 (fun x27 => [(1, .int x27), (0, .ref (cx_ad X 0))]) rfl rfl (by decide) (fun _ => rfl) dX11_lays_151 (fun x27 => ?_)
      refine G_goto hX 42 (by decide) dX11_lays_154 ?_
      exact G_sub [1, 0] rfl (hk42 x27 μ)
set_option maxHeartbeats 4000000 in
set_option maxRecDepth 100000 in
theorem gX11_lays_42 {X : Ctx} {z : Unit × Mem} (hX : Fx wM X cX11_lays 3 RX11 none (rmo 5 116)) (hQ : Qx_v wM X z) (hcs : cx_cells X = 0 ∧ cx_slots X = 0) (N : Nat) : ∀ (n : Nat) (v1 : Int32) (μ : Mem), G wM X z 42 [(0, .ref (cx_ad X 0)), (1, .int v1)] [] μ (fX11_lays_42 N n v1 μ) := by
  intro n
  induction n with
  | zero =>
    intro v1 μ
    exact G_none
  | succ n ih =>
    intro v1 μ
    unfold fX11_lays_42
    refine G_iload_n hX 1 rfl rfl dX11_lays_42 ?_
    refine G_aload_n hX 0 rfl rfl dX11_lays_43 ?_
    refine gf_X11_7_M0 hX dX11_lays_44 ?_
    refine G_bipush hX (34 : Int32) rfl dX11_lays_47 ?_
    refine G_aI hX atM1 dX11_lays_49 (fun x5 => ?_)
    refine G_icmp_ge hX 157 (by decide) dX11_lays_50 ?_ ?_
    · refine G_iconst hX (0 : Int32) rfl dX11_lays_157 ?_
      refine G_istore_n hX [(1, .int (0 : Int32)), (0, .ref (cx_ad X 0))] rfl (by decide) rfl dX11_lays_158 ?_
      exact G_sub [1, 0] rfl (gX11_lays_159 hX hQ hcs N N (0 : Int32) μ)
    · refine G_aload_n hX 0 rfl rfl dX11_lays_53 ?_
      refine gf_X11_66_M0 hX dX11_lays_54 ?_
      refine G_iload_n hX 1 rfl rfl dX11_lays_57 ?_
      refine G_aload_n hX 0 rfl rfl dX11_lays_58 ?_
      refine G_iload_n hX 1 rfl rfl dX11_lays_59 ?_
      refine G_cVi hX 0 11 (fun ad adK => [.int v1]) [.int v1, .ref (cx_ad X 18)] (fun z2 h2 => cX11_offOf_ok (cx_l X) N v1 μ z2 h2) ok_X11_offOf lm_X11_357 atM0.1 atM0.2 rfl rfl (fun _ _ => rfl) (Nat.le_of_ble_eq_true rfl) ⟨rfl, rfl, by decide, by decide⟩ (cs0 hcs) dX11_lays_60 (fun r6 μ => ?_)
      refine G_sI hX atM18 dX11_lays_63 (fun μ => ?_)
      refine G_aload_n hX 0 rfl rfl dX11_lays_64 ?_
      refine G_iload_n hX 1 rfl rfl dX11_lays_65 ?_
      refine G_bipush hX (6 : Int32) rfl dX11_lays_66 ?_
      refine G_cVi hX 0 11 (fun ad adK => [.int v1, .int (6 : Int32)]) [] (fun z2 h2 => cX11_of_ok (cx_l X) N v1 (6 : Int32) μ z2 h2) ok_X11_of lm_X11_305 atM0.1 atM0.2 rfl rfl (fun _ _ => rfl) (Nat.le_of_ble_eq_true rfl) ⟨rfl, rfl, by decide, by decide⟩ (cs0 hcs) dX11_lays_68 (fun r7 μ => ?_)
      refine G_aload_n hX 0 rfl rfl dX11_lays_71 ?_
      refine gf_X11_66_M0 hX dX11_lays_72 ?_
      refine G_iload_n hX 1 rfl rfl dX11_lays_75 ?_
      refine G_aI hX atM18 dX11_lays_76 (fun x8 => ?_)
      refine G_isub hX dX11_lays_77 ?_
      refine G_nmi (fun x9 => ?_)
      refine G_istore_n hX [(2, .int x9), (0, .ref (cx_ad X 0)), (1, .int v1)] rfl (by decide) rfl dX11_lays_78 ?_
      refine G_aload_n hX 1 rfl rfl dX11_lays_79 ?_
      refine gf_X11_69_M0 hX dX11_lays_80 ?_
      refine G_iload_n hX 2 rfl rfl dX11_lays_83 ?_
      refine G_iload_n hX 0 rfl rfl dX11_lays_84 ?_
      refine G_if_ge hX 92 (by decide) dX11_lays_85 ?_ ?_
      · refine G_iload_n hX 0 rfl rfl dX11_lays_92 ?_
        refine G_ldcw hX lc_X11_360 dX11_lays_93 ?_
        refine G_icmp_le hX 105 (by decide) dX11_lays_96 ?_ ?_
        · refine G_iload_n hX 0 rfl rfl dX11_lays_105 ?_
          exact G_sub [1, 2] rfl (gX11_lays_106 hX hQ hcs N (fun v1 μ => fX11_lays_42 N n v1 μ) (fun v1  μ => ih v1  μ) v1 x9 v1 μ)
        · refine G_ldcw hX lc_X11_360 dX11_lays_99 ?_
          refine G_goto hX 106 (by decide) dX11_lays_102 ?_
          exact G_sub [1, 2] rfl (gX11_lays_106 hX hQ hcs N (fun v1 μ => fX11_lays_42 N n v1 μ) (fun v1  μ => ih v1  μ) v1 (99999 : Int32) v1 μ)
      · refine G_iconst hX (0 : Int32) rfl dX11_lays_88 ?_
        refine G_goto hX 106 (by decide) dX11_lays_89 ?_
        exact G_sub [1, 2] rfl (gX11_lays_106 hX hQ hcs N (fun v1 μ => fX11_lays_42 N n v1 μ) (fun v1  μ => ih v1  μ) v1 (0 : Int32) v1 μ)
set_option maxHeartbeats 4000000 in
set_option maxRecDepth 100000 in
theorem gX11_lays_15 {X : Ctx} {z : Unit × Mem} (hX : Fx wM X cX11_lays 3 RX11 none (rmo 5 116)) (hQ : Qx_v wM X z) (hcs : cx_cells X = 0 ∧ cx_slots X = 0) (N : Nat) : ∀ (n : Nat) (v1 : Int32) (μ : Mem), G wM X z 15 [(0, .ref (cx_ad X 0)), (1, .int v1)] [] μ (fX11_lays_15 N n v1 μ) := by
  intro n
  induction n with
  | zero =>
    intro v1 μ
    exact G_none
  | succ n ih =>
    intro v1 μ
    unfold fX11_lays_15
    refine G_iload_n hX 1 rfl rfl dX11_lays_15 ?_
    refine G_aload_n hX 0 rfl rfl dX11_lays_16 ?_
    refine gf_X11_291_M0 hX dX11_lays_17 ?_
    refine G_nmi (fun x2 => ?_)
    refine G_icmp_ge hX 40 (by decide) dX11_lays_20 ?_ ?_
    · refine G_iconst hX (0 : Int32) rfl dX11_lays_40 ?_
      refine G_istore_n hX [(1, .int (0 : Int32)), (0, .ref (cx_ad X 0))] rfl (by decide) rfl dX11_lays_41 ?_
      exact G_sub [1, 0] rfl (gX11_lays_42 hX hQ hcs N N (0 : Int32) μ)
    · refine G_aload_n hX 0 rfl rfl dX11_lays_23 ?_
      refine gf_X11_79_M0 hX dX11_lays_24 ?_
      refine G_iload_n hX 1 rfl rfl dX11_lays_27 ?_
      refine G_aload_n hX 0 rfl rfl dX11_lays_28 ?_
      refine G_iload_n hX 1 rfl rfl dX11_lays_29 ?_
      refine G_cVi hX 0 11 (fun ad adK => [.int v1]) [.int v1, .ref (cx_ad X 22)] (fun z2 h2 => cX11_baseFor_ok (cx_l X) N v1 μ z2 h2) ok_X11_baseFor lm_X11_354 atM0.1 atM0.2 rfl rfl (fun _ _ => rfl) (Nat.le_of_ble_eq_true rfl) ⟨rfl, rfl, by decide, by decide⟩ (cs0 hcs) dX11_lays_30 (fun r3 μ => ?_)
      refine G_sI hX atM22 dX11_lays_33 (fun μ => ?_)
      refine G_iincN hX 1 (fun x4 => [(1, .int x4), (0, .ref (cx_ad X 0))]) rfl rfl (by decide) (fun _ => rfl) dX11_lays_34 (fun x4 => ?_)
      refine G_goto hX 15 (by decide) dX11_lays_37 ?_
      exact G_sub [1, 0] rfl (ih x4 μ)
set_option maxHeartbeats 4000000 in
set_option maxRecDepth 100000 in
theorem gX11_lays_E {X : Ctx} {z : Unit × Mem} (hX : Fx wM X cX11_lays 3 RX11 none (rmo 5 116)) (hQ : Qx_v wM X z) (hcs : cx_cells X = 0 ∧ cx_slots X = 0) (N : Nat) (μ : Mem) : G wM X z 0 [(0, .ref (cx_ad X 0))] [] μ (fX11_lays N μ) := by
  unfold fX11_lays
  refine G_aload_n hX 0 rfl rfl dX11_lays_0 ?_
  refine gf_X11_297_M0 hX dX11_lays_1 ?_
  refine G_nmi (fun x1 => ?_)
  refine G_if_eq hX 8 (by decide) dX11_lays_4 ?_ ?_
  · refine G_aload_n hX 0 rfl rfl dX11_lays_8 ?_
    refine G_iconst hX (1 : Int32) rfl dX11_lays_9 ?_
    refine pf_X11_297_M0 hX ⟨rfl, rfl⟩ dX11_lays_10 (fun μ => ?_)
    refine G_iconst hX (0 : Int32) rfl dX11_lays_13 ?_
    refine G_istore_n hX [(1, .int (0 : Int32)), (0, .ref (cx_ad X 0))] rfl (by decide) rfl dX11_lays_14 ?_
    exact G_sub [1, 0] rfl (gX11_lays_15 hX hQ hcs N N (0 : Int32) μ)
  · exact G_vret hX hQ dX11_lays_7
theorem cX11_lays_ok (l : Launch) (N : Nat) (μ : Mem) (z : Unit × Mem) (h : fX11_lays N μ = some z) : Mv wM l yX11_lays cX11_lays 3 (rmo 5 116) (fun ad adK => [.ref (ad 0)]) μ z := Mv.of h (by decide +kernel) (fun _ _ => Nat.le_of_ble_eq_true rfl) (fun X hX hQ hl hcs => gX11_lays_E hX hQ hcs N μ)
/-! ===== DutyCaseModel.sale(II)I ===== -/
set_option maxHeartbeats 4000000 in
set_option maxRecDepth 100000 in
theorem gX11_sale_30 {X : Ctx} {z : Int32 × Mem} (hX : Fx wM X cX11_sale 3 RX11 (some .int) (rmo 6 138)) (hQ : Qx_i wM X z) (hcs : cx_cells X = 0 ∧ cx_slots X = 0) (N : Nat) (v1 : Int32) (v2 : Int32) (s0 : Int32) (μ : Mem) : G wM X z 30 [(0, .ref (cx_ad X 0)), (1, .int v1), (2, .int v2)] [.int s0, .ref (cx_ad X 0)] μ (fX11_sale_30 N v1 v2 s0 μ) := by
  unfold fX11_sale_30
  refine pf_X11_104_M0 hX dX11_sale_30 (fun μ => ?_)
  refine G_aload_n hX 0 rfl rfl dX11_sale_33 ?_
  refine gf_X11_104_M0 hX dX11_sale_34 ?_
  refine G_nmi (fun x3 => ?_)
  refine G_if_le hX 42 (by decide) dX11_sale_37 ?_ ?_
  · refine G_aload_n hX 0 rfl rfl dX11_sale_42 ?_
    refine G_cVv hX 0 11 (fun ad adK => []) [] (fun z2 h2 => cX11_lays_ok (cx_l X) N μ z2 h2) ok_X11_lays lm_X11_367 atM0.1 atM0.2 rfl rfl (fun _ _ => rfl) (Nat.le_of_ble_eq_true rfl) ⟨rfl, rfl, by decide, by decide⟩ (cs0 hcs) dX11_sale_43 (fun μ => ?_)
    refine G_iload_n hX 2 rfl rfl dX11_sale_46 ?_
    refine G_sw (fun hc7 => ?_) (fun hc7 => ?_)
    · refine G_swIn hX 76 0 (7) (by rw [hc7]; rfl) (by decide) (by decide) rfl rfl (by decide) dX11_sale_47 ?_
      refine G_aload_n hX 0 rfl rfl dX11_sale_76 ?_
      refine gf_X11_66_M0 hX dX11_sale_77 ?_
      refine G_iload_n hX 1 rfl rfl dX11_sale_80 ?_
      refine G_aI hX atM18 dX11_sale_81 (fun x4 => ?_)
      exact G_iret hX hQ dX11_sale_82
    refine G_sw (fun hc8 => ?_) (fun hc8 => ?_)
    · refine G_swIn hX 83 1 (8) (by rw [hc8]; rfl) (by decide) (by decide) rfl rfl (by decide) dX11_sale_47 ?_
      refine G_aload_n hX 0 rfl rfl dX11_sale_83 ?_
      refine gf_X11_69_M0 hX dX11_sale_84 ?_
      refine G_iload_n hX 1 rfl rfl dX11_sale_87 ?_
      refine G_aI hX atM19 dX11_sale_88 (fun x5 => ?_)
      exact G_iret hX hQ dX11_sale_89
    refine G_sw (fun hc9 => ?_) (fun hc9 => ?_)
    · refine G_swIn hX 90 2 (9) (by rw [hc9]; rfl) (by decide) (by decide) rfl rfl (by decide) dX11_sale_47 ?_
      refine G_aload_n hX 0 rfl rfl dX11_sale_90 ?_
      refine gf_X11_72_M0 hX dX11_sale_91 ?_
      refine G_iload_n hX 1 rfl rfl dX11_sale_94 ?_
      refine G_aZ hX atM20 dX11_sale_95 (fun x6 => ?_)
      refine G_if_eq hX 103 (by decide) dX11_sale_96 ?_ ?_
      · refine G_iconst hX (0 : Int32) rfl dX11_sale_103 ?_
        exact G_iret hX hQ dX11_sale_104
      · refine G_iconst hX (1 : Int32) rfl dX11_sale_99 ?_
        refine G_goto hX 104 (by decide) dX11_sale_100 ?_
        exact G_iret hX hQ dX11_sale_104
    refine G_sw (fun hc10 => ?_) (fun hc10 => ?_)
    · refine G_swIn hX 105 3 (10) (by rw [hc10]; rfl) (by decide) (by decide) rfl rfl (by decide) dX11_sale_47 ?_
      refine G_aload_n hX 0 rfl rfl dX11_sale_105 ?_
      refine gf_X11_76_M0 hX dX11_sale_106 ?_
      refine G_iload_n hX 1 rfl rfl dX11_sale_109 ?_
      refine G_aZ hX atM21 dX11_sale_110 (fun x7 => ?_)
      refine G_if_eq hX 118 (by decide) dX11_sale_111 ?_ ?_
      · refine G_iconst hX (0 : Int32) rfl dX11_sale_118 ?_
        exact G_iret hX hQ dX11_sale_119
      · refine G_iconst hX (1 : Int32) rfl dX11_sale_114 ?_
        refine G_goto hX 119 (by decide) dX11_sale_115 ?_
        exact G_iret hX hQ dX11_sale_119
    refine G_swOut hX 120 (by decide) dX11_sale_47 (by have e0 := lv_neT (a := (7 : Int)) hc7 rfl; have e1 := lv_neT (a := (8 : Int)) hc8 rfl; have e2 := lv_neT (a := (9 : Int)) hc9 rfl; have e3 := lv_neT (a := (10 : Int)) hc10 rfl; omega) ?_
    refine G_aload_n hX 0 rfl rfl dX11_sale_120 ?_
    refine G_iload_n hX 1 rfl rfl dX11_sale_121 ?_
    refine G_iload_n hX 2 rfl rfl dX11_sale_122 ?_
    refine G_cVi hX 0 11 (fun ad adK => [.int v1, .int v2]) [] (fun z2 h2 => cX11_of_ok (cx_l X) N v1 v2 μ z2 h2) ok_X11_of lm_X11_305 atM0.1 atM0.2 rfl rfl (fun _ _ => rfl) (Nat.le_of_ble_eq_true rfl) ⟨rfl, rfl, by decide, by decide⟩ (cs0 hcs) dX11_sale_123 (fun r8 μ => ?_)
    exact G_iret hX hQ dX11_sale_126
  · refine G_iconst hX (0 : Int32) rfl dX11_sale_40 ?_
    exact G_iret hX hQ dX11_sale_41
set_option maxHeartbeats 4000000 in
set_option maxRecDepth 100000 in
theorem gX11_sale_E {X : Ctx} {z : Int32 × Mem} (hX : Fx wM X cX11_sale 3 RX11 (some .int) (rmo 6 138)) (hQ : Qx_i wM X z) (hcs : cx_cells X = 0 ∧ cx_slots X = 0) (N : Nat) (p0 : Int32) (p1 : Int32) (μ : Mem) : G wM X z 0 [(0, .ref (cx_ad X 0)), (1, .int p0), (2, .int p1)] [] μ (fX11_sale N p0 p1 μ) := by
  unfold fX11_sale
  refine G_aload_n hX 0 rfl rfl dX11_sale_0 ?_
  refine G_aload_n hX 0 rfl rfl dX11_sale_1 ?_
  refine G_iload_n hX 1 rfl rfl dX11_sale_2 ?_
  refine G_cVi hX 0 11 (fun ad adK => [.int p0]) [.ref (cx_ad X 0)] (fun z2 h2 => cX11_isSale_ok (cx_l X) N p0 μ z2 h2) ok_X11_isSale lm_X11_341 atM0.1 atM0.2 rfl rfl (fun _ _ => rfl) (Nat.le_of_ble_eq_true rfl) ⟨rfl, rfl, by decide, by decide⟩ (cs0 hcs) dX11_sale_3 (fun r1 μ => ?_)
  refine G_if_ne hX 13 (by decide) dX11_sale_6 ?_ ?_
  · refine G_iload_n hX 2 rfl rfl dX11_sale_13 ?_
    refine G_i2l hX dX11_sale_14 ?_
    refine G_lconst hX (0 : Int64) rfl dX11_sale_15 ?_
    refine G_ldc2 hX lc_X11_365 dX11_sale_16 ?_
    refine G_cSi hX (fun ad adK => [.long p1.toInt64, .long (0 : Int64), .long (10 : Int64)]) [.ref (cx_ad X 0)] (fun z2 h2 => cX11_isIn_ok (cx_l X) N p1.toInt64 (0 : Int64) (10 : Int64) μ z2 h2) ok_X11_isIn lm_X11_301 rfl (fun _ _ => rfl) (Nat.le_of_ble_eq_true rfl) ⟨rfl, rfl, by decide, by decide⟩ (cs0 hcs) dX11_sale_19 (fun r2 μ => ?_)
    refine G_if_eq hX 29 (by decide) dX11_sale_22 ?_ ?_
    · refine G_iconst hX (2 : Int32) rfl dX11_sale_29 ?_
      exact G_sub [0, 1, 2] rfl (gX11_sale_30 hX hQ hcs N p0 p1 (2 : Int32) μ)
    · refine G_iconst hX (0 : Int32) rfl dX11_sale_25 ?_
      refine G_goto hX 30 (by decide) dX11_sale_26 ?_
      exact G_sub [0, 1, 2] rfl (gX11_sale_30 hX hQ hcs N p0 p1 (0 : Int32) μ)
  · refine G_iconst hX (1 : Int32) rfl dX11_sale_9 ?_
    refine G_goto hX 30 (by decide) dX11_sale_10 ?_
    exact G_sub [0, 1, 2] rfl (gX11_sale_30 hX hQ hcs N p0 p1 (1 : Int32) μ)
theorem cX11_sale_ok (l : Launch) (N : Nat) (p0 : Int32) (p1 : Int32) (μ : Mem) (z : Int32 × Mem) (h : fX11_sale N p0 p1 μ = some z) : Mi wM l yX11_sale cX11_sale 3 .int (rmo 6 138) (fun ad adK => [.ref (ad 0), .int p0, .int p1]) μ z := Mi.of h (by decide +kernel) (fun _ _ => Nat.le_of_ble_eq_true rfl) (fun X hX hQ hl hcs => gX11_sale_E hX hQ hcs N p0 p1 μ)
/-! ===== DutyCaseModel.remembers()V ===== -/
set_option maxHeartbeats 4000000 in
set_option maxRecDepth 100000 in
theorem gX11_remembers_88 {X : Ctx} {z : Unit × Mem} (hX : Fx wM X cX11_remembers 2 RX11 none (rmo 0 0)) (hQ : Qx_v wM X z) (hcs : cx_cells X = 0 ∧ cx_slots X = 0) (N : Nat) (μ : Mem) : G wM X z 88 [(0, .ref (cx_ad X 0))] [] μ (fX11_remembers_88 N μ) := by
  unfold fX11_remembers_88
  refine G_aload_n hX 0 rfl rfl dX11_remembers_88 ?_
  refine G_dup hX rfl dX11_remembers_89 ?_
  refine gf_X11_294_M0 hX dX11_remembers_90 ?_
  refine G_nmi (fun x7 => ?_)
  refine G_iconst hX (1 : Int32) rfl dX11_remembers_93 ?_
  refine G_iadd hX dX11_remembers_94 ?_
  refine G_nmi (fun x8 => ?_)
  refine pf_X11_294_M0 hX dX11_remembers_95 (fun μ => ?_)
  refine G_aload_n hX 0 rfl rfl dX11_remembers_98 ?_
  refine G_iconst hX (0 : Int32) rfl dX11_remembers_99 ?_
  refine pf_X11_297_M0 hX ⟨rfl, rfl⟩ dX11_remembers_100 (fun μ => ?_)
  exact G_vret hX hQ dX11_remembers_103
set_option maxHeartbeats 4000000 in
set_option maxRecDepth 100000 in
theorem gX11_remembers_54 {X : Ctx} {z : Unit × Mem} (hX : Fx wM X cX11_remembers 2 RX11 none (rmo 0 0)) (hQ : Qx_v wM X z) (hcs : cx_cells X = 0 ∧ cx_slots X = 0) (N : Nat) : ∀ (n : Nat) (v1 : Int32) (μ : Mem), G wM X z 54 [(0, .ref (cx_ad X 0)), (1, .int v1)] [] μ (fX11_remembers_54 N n v1 μ) := by
  intro n
  induction n with
  | zero =>
    intro v1 μ
    exact G_none
  | succ n ih =>
    intro v1 μ
    unfold fX11_remembers_54
    refine G_iload_n hX 1 rfl rfl dX11_remembers_54 ?_
    refine G_sipush hX (355 : Int32) rfl dX11_remembers_55 ?_
    refine G_icmp_ge hX 88 (by decide) dX11_remembers_58 ?_ ?_
    · exact G_sub [0] rfl (gX11_remembers_88 hX hQ hcs N μ)
    · refine G_aload_n hX 0 rfl rfl dX11_remembers_61 ?_
      refine gf_X11_16_M0 hX dX11_remembers_62 ?_
      refine G_sipush hX (355 : Int32) rfl dX11_remembers_65 ?_
      refine G_aload_n hX 0 rfl rfl dX11_remembers_68 ?_
      refine gf_X11_294_M0 hX dX11_remembers_69 ?_
      refine G_nmi (fun x2 => ?_)
      refine G_imul hX dX11_remembers_72 ?_
      refine G_iload_n hX 1 rfl rfl dX11_remembers_73 ?_
      refine G_iadd hX dX11_remembers_74 ?_
      refine G_aload_n hX 0 rfl rfl dX11_remembers_75 ?_
      refine gf_X11_7_M0 hX dX11_remembers_76 ?_
      refine G_iload_n hX 1 rfl rfl dX11_remembers_79 ?_
      refine G_aI hX atM1 dX11_remembers_80 (fun x3 => ?_)
      refine G_sI hX atM3 dX11_remembers_81 (fun μ => ?_)
      refine G_iincN hX 1 (fun x4 => [(1, .int x4), (0, .ref (cx_ad X 0))]) rfl rfl (by decide) (fun _ => rfl) dX11_remembers_82 (fun x4 => ?_)
      refine G_goto hX 54 (by decide) dX11_remembers_85 ?_
      exact G_sub [1, 0] rfl (ih x4 μ)
set_option maxHeartbeats 4000000 in
set_option maxRecDepth 100000 in
theorem gX11_remembers_42 {X : Ctx} {z : Unit × Mem} (hX : Fx wM X cX11_remembers 2 RX11 none (rmo 0 0)) (hQ : Qx_v wM X z) (hcs : cx_cells X = 0 ∧ cx_slots X = 0) (N : Nat) (μ : Mem) : G wM X z 42 [(0, .ref (cx_ad X 0))] [] μ (fX11_remembers_42 N μ) := by
  unfold fX11_remembers_42
  refine G_aload_n hX 0 rfl rfl dX11_remembers_42 ?_
  refine G_dup hX rfl dX11_remembers_43 ?_
  refine gf_X11_294_M0 hX dX11_remembers_44 ?_
  refine G_nmi (fun x9 => ?_)
  refine G_iconst hX (1 : Int32) rfl dX11_remembers_47 ?_
  refine G_isub hX dX11_remembers_48 ?_
  refine G_nmi (fun x10 => ?_)
  refine pf_X11_294_M0 hX dX11_remembers_49 (fun μ => ?_)
  refine G_iconst hX (0 : Int32) rfl dX11_remembers_52 ?_
  refine G_istore_n hX [(1, .int (0 : Int32)), (0, .ref (cx_ad X 0))] rfl (by decide) rfl dX11_remembers_53 ?_
  exact G_sub [1, 0] rfl (gX11_remembers_54 hX hQ hcs N N (0 : Int32) μ)
set_option maxHeartbeats 4000000 in
set_option maxRecDepth 100000 in
theorem gX11_remembers_13 {X : Ctx} {z : Unit × Mem} (hX : Fx wM X cX11_remembers 2 RX11 none (rmo 0 0)) (hQ : Qx_v wM X z) (hcs : cx_cells X = 0 ∧ cx_slots X = 0) (N : Nat) : ∀ (n : Nat) (v1 : Int32) (μ : Mem), G wM X z 13 [(0, .ref (cx_ad X 0)), (1, .int v1)] [] μ (fX11_remembers_13 N n v1 μ) := by
  intro n
  induction n with
  | zero =>
    intro v1 μ
    exact G_none
  | succ n ih =>
    intro v1 μ
    unfold fX11_remembers_13
    refine G_iload_n hX 1 rfl rfl dX11_remembers_13 ?_
    refine G_sipush hX (5680 : Int32) rfl dX11_remembers_14 ?_
    refine G_icmp_ge hX 42 (by decide) dX11_remembers_17 ?_ ?_
    · exact G_sub [0] rfl (gX11_remembers_42 hX hQ hcs N μ)
    · refine G_aload_n hX 0 rfl rfl dX11_remembers_20 ?_
      refine gf_X11_16_M0 hX dX11_remembers_21 ?_
      refine G_iload_n hX 1 rfl rfl dX11_remembers_24 ?_
      refine G_sipush hX (355 : Int32) rfl dX11_remembers_25 ?_
      refine G_isub hX dX11_remembers_28 ?_
      refine G_aload_n hX 0 rfl rfl dX11_remembers_29 ?_
      refine gf_X11_16_M0 hX dX11_remembers_30 ?_
      refine G_iload_n hX 1 rfl rfl dX11_remembers_33 ?_
      refine G_aI hX atM3 dX11_remembers_34 (fun x5 => ?_)
      refine G_sI hX atM3 dX11_remembers_35 (fun μ => ?_)
      refine G_iincN hX 1 (fun x6 => [(1, .int x6), (0, .ref (cx_ad X 0))]) rfl rfl (by decide) (fun _ => rfl) dX11_remembers_36 (fun x6 => ?_)
      refine G_goto hX 13 (by decide) dX11_remembers_39 ?_
      exact G_sub [1, 0] rfl (ih x6 μ)
set_option maxHeartbeats 4000000 in
set_option maxRecDepth 100000 in
theorem gX11_remembers_E {X : Ctx} {z : Unit × Mem} (hX : Fx wM X cX11_remembers 2 RX11 none (rmo 0 0)) (hQ : Qx_v wM X z) (hcs : cx_cells X = 0 ∧ cx_slots X = 0) (N : Nat) (μ : Mem) : G wM X z 0 [(0, .ref (cx_ad X 0))] [] μ (fX11_remembers N μ) := by
  unfold fX11_remembers
  refine G_aload_n hX 0 rfl rfl dX11_remembers_0 ?_
  refine gf_X11_294_M0 hX dX11_remembers_1 ?_
  refine G_nmi (fun x1 => ?_)
  refine G_bipush hX (16 : Int32) rfl dX11_remembers_4 ?_
  refine G_icmp_ne hX 52 (by decide) dX11_remembers_6 ?_ ?_
  · refine G_iconst hX (0 : Int32) rfl dX11_remembers_52 ?_
    refine G_istore_n hX [(1, .int (0 : Int32)), (0, .ref (cx_ad X 0))] rfl (by decide) rfl dX11_remembers_53 ?_
    exact G_sub [1, 0] rfl (gX11_remembers_54 hX hQ hcs N N (0 : Int32) μ)
  · refine G_sipush hX (355 : Int32) rfl dX11_remembers_9 ?_
    refine G_istore_n hX [(1, .int (355 : Int32)), (0, .ref (cx_ad X 0))] rfl (by decide) rfl dX11_remembers_12 ?_
    exact G_sub [1, 0] rfl (gX11_remembers_13 hX hQ hcs N N (355 : Int32) μ)
theorem cX11_remembers_ok (l : Launch) (N : Nat) (μ : Mem) (z : Unit × Mem) (h : fX11_remembers N μ = some z) : Mv wM l yX11_remembers cX11_remembers 2 (rmo 0 0) (fun ad adK => [.ref (ad 0)]) μ z := Mv.of h (by decide +kernel) (fun _ _ => Nat.le_of_ble_eq_true rfl) (fun X hX hQ hl hcs => gX11_remembers_E hX hQ hcs N μ)
/-! ===== DutyCaseModel.put(IIIIIII)I ===== -/
set_option maxHeartbeats 4000000 in
set_option maxRecDepth 100000 in
theorem gX11_put_E {X : Ctx} {z : Int32 × Mem} (hX : Fx wM X cX11_put 9 RX11 (some .int) (rmo 2 46)) (hQ : Qx_i wM X z) (hcs : cx_cells X = 0 ∧ cx_slots X = 0) (N : Nat) (p0 : Int32) (p1 : Int32) (p2 : Int32) (p3 : Int32) (p4 : Int32) (p5 : Int32) (p6 : Int32) (μ : Mem) : G wM X z 0 [(0, .ref (cx_ad X 0)), (1, .int p0), (2, .int p1), (3, .int p2), (4, .int p3), (5, .int p4), (6, .int p5), (7, .int p6)] [] μ (fX11_put N p0 p1 p2 p3 p4 p5 p6 μ) := by
  unfold fX11_put
  refine G_aload_n hX 0 rfl rfl dX11_put_0 ?_
  refine G_iconst hX (0 : Int32) rfl dX11_put_1 ?_
  refine pf_X11_104_M0 hX dX11_put_2 (fun μ => ?_)
  refine G_aload_n hX 0 rfl rfl dX11_put_5 ?_
  refine G_iload_n hX 2 rfl rfl dX11_put_6 ?_
  refine G_cVi hX 0 11 (fun ad adK => [.int p1]) [] (fun z2 h2 => cX11_isFirm_ok (cx_l X) N p1 μ z2 h2) ok_X11_isFirm lm_X11_311 atM0.1 atM0.2 rfl rfl (fun _ _ => rfl) (Nat.le_of_ble_eq_true rfl) ⟨rfl, rfl, by decide, by decide⟩ (cs0 hcs) dX11_put_7 (fun r1 μ => ?_)
  refine G_if_eq hX 21 (by decide) dX11_put_10 ?_ ?_
  · refine G_aload_n hX 0 rfl rfl dX11_put_21 ?_
    refine G_iconst hX (1 : Int32) rfl dX11_put_22 ?_
    refine G_cVi hX 0 11 (fun ad adK => [.int (1 : Int32)]) [] (fun z2 h2 => cX11_fails_ok (cx_l X) N (1 : Int32) μ z2 h2) ok_X11_fails lm_X11_282 atM0.1 atM0.2 rfl rfl (fun _ _ => rfl) (Nat.le_of_ble_eq_true rfl) ⟨rfl, rfl, by decide, by decide⟩ (cs0 hcs) dX11_put_23 (fun r2 μ => ?_)
    exact G_iret hX hQ dX11_put_26
  · refine G_aload_n hX 0 rfl rfl dX11_put_13 ?_
    refine G_iload_n hX 3 rfl rfl dX11_put_14 ?_
    refine G_cVi hX 0 11 (fun ad adK => [.int p2]) [] (fun z2 h2 => cX11_isModel_ok (cx_l X) N p2 μ z2 h2) ok_X11_isModel lm_X11_314 atM0.1 atM0.2 rfl rfl (fun _ _ => rfl) (Nat.le_of_ble_eq_true rfl) ⟨rfl, rfl, by decide, by decide⟩ (cs0 hcs) dX11_put_15 (fun r3 μ => ?_)
    refine G_if_ne hX 27 (by decide) dX11_put_18 ?_ ?_
    · refine G_iload_n hX 1 rfl rfl dX11_put_27 ?_
      refine G_i2l hX dX11_put_28 ?_
      refine G_lconst hX (0 : Int64) rfl dX11_put_29 ?_
      refine G_ldc2 hX lc_X11_320 dX11_put_30 ?_
      refine G_cSi hX (fun ad adK => [.long p0.toInt64, .long (0 : Int64), .long (2 : Int64)]) [] (fun z2 h2 => cX11_isIn_ok (cx_l X) N p0.toInt64 (0 : Int64) (2 : Int64) μ z2 h2) ok_X11_isIn lm_X11_301 rfl (fun _ _ => rfl) (Nat.le_of_ble_eq_true rfl) ⟨rfl, rfl, by decide, by decide⟩ (cs0 hcs) dX11_put_33 (fun r4 μ => ?_)
      refine G_if_eq hX 91 (by decide) dX11_put_36 ?_ ?_
      · refine G_aload_n hX 0 rfl rfl dX11_put_91 ?_
        refine G_iconst hX (2 : Int32) rfl dX11_put_92 ?_
        refine G_cVi hX 0 11 (fun ad adK => [.int (2 : Int32)]) [] (fun z2 h2 => cX11_fails_ok (cx_l X) N (2 : Int32) μ z2 h2) ok_X11_fails lm_X11_282 atM0.1 atM0.2 rfl rfl (fun _ _ => rfl) (Nat.le_of_ble_eq_true rfl) ⟨rfl, rfl, by decide, by decide⟩ (cs0 hcs) dX11_put_93 (fun r5 μ => ?_)
        exact G_iret hX hQ dX11_put_96
      · refine G_iload hX 4 rfl dX11_put_39 ?_
        refine G_i2l hX dX11_put_41 ?_
        refine G_lconst hX (0 : Int64) rfl dX11_put_42 ?_
        refine G_ldc2 hX lc_X11_370 dX11_put_43 ?_
        refine G_cSi hX (fun ad adK => [.long p3.toInt64, .long (0 : Int64), .long (3 : Int64)]) [] (fun z2 h2 => cX11_isIn_ok (cx_l X) N p3.toInt64 (0 : Int64) (3 : Int64) μ z2 h2) ok_X11_isIn lm_X11_301 rfl (fun _ _ => rfl) (Nat.le_of_ble_eq_true rfl) ⟨rfl, rfl, by decide, by decide⟩ (cs0 hcs) dX11_put_46 (fun r6 μ => ?_)
        refine G_if_eq hX 91 (by decide) dX11_put_49 ?_ ?_
        · refine G_aload_n hX 0 rfl rfl dX11_put_91 ?_
          refine G_iconst hX (2 : Int32) rfl dX11_put_92 ?_
          refine G_cVi hX 0 11 (fun ad adK => [.int (2 : Int32)]) [] (fun z2 h2 => cX11_fails_ok (cx_l X) N (2 : Int32) μ z2 h2) ok_X11_fails lm_X11_282 atM0.1 atM0.2 rfl rfl (fun _ _ => rfl) (Nat.le_of_ble_eq_true rfl) ⟨rfl, rfl, by decide, by decide⟩ (cs0 hcs) dX11_put_93 (fun r7 μ => ?_)
          exact G_iret hX hQ dX11_put_96
        · refine G_iload hX 5 rfl dX11_put_52 ?_
          refine G_i2l hX dX11_put_54 ?_
          refine G_lconst hX (0 : Int64) rfl dX11_put_55 ?_
          refine G_ldc2 hX lc_X11_372 dX11_put_56 ?_
          refine G_cSi hX (fun ad adK => [.long p4.toInt64, .long (0 : Int64), .long (11 : Int64)]) [] (fun z2 h2 => cX11_isIn_ok (cx_l X) N p4.toInt64 (0 : Int64) (11 : Int64) μ z2 h2) ok_X11_isIn lm_X11_301 rfl (fun _ _ => rfl) (Nat.le_of_ble_eq_true rfl) ⟨rfl, rfl, by decide, by decide⟩ (cs0 hcs) dX11_put_59 (fun r8 μ => ?_)
          refine G_if_eq hX 91 (by decide) dX11_put_62 ?_ ?_
          · refine G_aload_n hX 0 rfl rfl dX11_put_91 ?_
            refine G_iconst hX (2 : Int32) rfl dX11_put_92 ?_
            refine G_cVi hX 0 11 (fun ad adK => [.int (2 : Int32)]) [] (fun z2 h2 => cX11_fails_ok (cx_l X) N (2 : Int32) μ z2 h2) ok_X11_fails lm_X11_282 atM0.1 atM0.2 rfl rfl (fun _ _ => rfl) (Nat.le_of_ble_eq_true rfl) ⟨rfl, rfl, by decide, by decide⟩ (cs0 hcs) dX11_put_93 (fun r9 μ => ?_)
            exact G_iret hX hQ dX11_put_96
          · refine G_iload hX 6 rfl dX11_put_65 ?_
            refine G_i2l hX dX11_put_67 ?_
            refine G_lconst hX (1 : Int64) rfl dX11_put_68 ?_
            refine G_ldc2 hX lc_X11_374 dX11_put_69 ?_
            refine G_cSi hX (fun ad adK => [.long p5.toInt64, .long (1 : Int64), .long (999 : Int64)]) [] (fun z2 h2 => cX11_isIn_ok (cx_l X) N p5.toInt64 (1 : Int64) (999 : Int64) μ z2 h2) ok_X11_isIn lm_X11_301 rfl (fun _ _ => rfl) (Nat.le_of_ble_eq_true rfl) ⟨rfl, rfl, by decide, by decide⟩ (cs0 hcs) dX11_put_72 (fun r10 μ => ?_)
            refine G_if_eq hX 91 (by decide) dX11_put_75 ?_ ?_
            · refine G_aload_n hX 0 rfl rfl dX11_put_91 ?_
              refine G_iconst hX (2 : Int32) rfl dX11_put_92 ?_
              refine G_cVi hX 0 11 (fun ad adK => [.int (2 : Int32)]) [] (fun z2 h2 => cX11_fails_ok (cx_l X) N (2 : Int32) μ z2 h2) ok_X11_fails lm_X11_282 atM0.1 atM0.2 rfl rfl (fun _ _ => rfl) (Nat.le_of_ble_eq_true rfl) ⟨rfl, rfl, by decide, by decide⟩ (cs0 hcs) dX11_put_93 (fun r11 μ => ?_)
              exact G_iret hX hQ dX11_put_96
            · refine G_iload hX 7 rfl dX11_put_78 ?_
              refine G_i2l hX dX11_put_80 ?_
              refine G_lconst hX (1 : Int64) rfl dX11_put_81 ?_
              refine G_ldc2 hX lc_X11_376 dX11_put_82 ?_
              refine G_cSi hX (fun ad adK => [.long p6.toInt64, .long (1 : Int64), .long (9999 : Int64)]) [] (fun z2 h2 => cX11_isIn_ok (cx_l X) N p6.toInt64 (1 : Int64) (9999 : Int64) μ z2 h2) ok_X11_isIn lm_X11_301 rfl (fun _ _ => rfl) (Nat.le_of_ble_eq_true rfl) ⟨rfl, rfl, by decide, by decide⟩ (cs0 hcs) dX11_put_85 (fun r12 μ => ?_)
              refine G_if_ne hX 97 (by decide) dX11_put_88 ?_ ?_
              · refine G_aload_n hX 0 rfl rfl dX11_put_97 ?_
                refine gf_X11_7_M0 hX dX11_put_98 ?_
                refine G_bipush hX (34 : Int32) rfl dX11_put_101 ?_
                refine G_aI hX atM1 dX11_put_103 (fun x13 => ?_)
                refine G_bipush hX (40 : Int32) rfl dX11_put_104 ?_
                refine G_icmp_ne hX 115 (by decide) dX11_put_106 ?_ ?_
                · refine G_aload_n hX 0 rfl rfl dX11_put_115 ?_
                  refine G_cVv hX 0 11 (fun ad adK => []) [] (fun z2 h2 => cX11_remembers_ok (cx_l X) N μ z2 h2) ok_X11_remembers lm_X11_378 atM0.1 atM0.2 rfl rfl (fun _ _ => rfl) (Nat.le_of_ble_eq_true rfl) ⟨rfl, rfl, by decide, by decide⟩ (cs0 hcs) dX11_put_116 (fun μ => ?_)
                  refine G_bipush hX (35 : Int32) rfl dX11_put_119 ?_
                  refine G_bipush hX (8 : Int32) rfl dX11_put_121 ?_
                  refine G_aload_n hX 0 rfl rfl dX11_put_123 ?_
                  refine gf_X11_7_M0 hX dX11_put_124 ?_
                  refine G_bipush hX (34 : Int32) rfl dX11_put_127 ?_
                  refine G_aI hX atM1 dX11_put_129 (fun x14 => ?_)
                  refine G_imul hX dX11_put_130 ?_
                  refine G_iadd hX dX11_put_131 ?_
                  refine G_nmi (fun x15 => ?_)
                  refine G_istore hX [(8, .int x15), (0, .ref (cx_ad X 0)), (1, .int p0), (2, .int p1), (3, .int p2), (4, .int p3), (5, .int p4), (6, .int p5), (7, .int p6)] (by decide) rfl dX11_put_132 ?_
                  refine G_aload_n hX 1 rfl rfl dX11_put_134 ?_
                  refine gf_X11_7_M0 hX dX11_put_135 ?_
                  refine G_iload hX 0 rfl dX11_put_138 ?_
                  refine G_iconst hX (0 : Int32) rfl dX11_put_140 ?_
                  refine G_iadd hX dX11_put_141 ?_
                  refine G_iload_n hX 2 rfl rfl dX11_put_142 ?_
                  refine G_sI hX atM1 dX11_put_143 (fun μ => ?_)
                  refine G_aload_n hX 1 rfl rfl dX11_put_144 ?_
                  refine gf_X11_7_M0 hX dX11_put_145 ?_
                  refine G_iload hX 0 rfl dX11_put_148 ?_
                  refine G_iconst hX (1 : Int32) rfl dX11_put_150 ?_
                  refine G_iadd hX dX11_put_151 ?_
                  refine G_iload_n hX 3 rfl rfl dX11_put_152 ?_
                  refine G_sI hX atM1 dX11_put_153 (fun μ => ?_)
                  refine G_aload_n hX 1 rfl rfl dX11_put_154 ?_
                  refine gf_X11_7_M0 hX dX11_put_155 ?_
                  refine G_iload hX 0 rfl dX11_put_158 ?_
                  refine G_iconst hX (2 : Int32) rfl dX11_put_160 ?_
                  refine G_iadd hX dX11_put_161 ?_
                  refine G_iload_n hX 4 rfl rfl dX11_put_162 ?_
                  refine G_sI hX atM1 dX11_put_163 (fun μ => ?_)
                  refine G_aload_n hX 1 rfl rfl dX11_put_164 ?_
                  refine gf_X11_7_M0 hX dX11_put_165 ?_
                  refine G_iload hX 0 rfl dX11_put_168 ?_
                  refine G_iconst hX (3 : Int32) rfl dX11_put_170 ?_
                  refine G_iadd hX dX11_put_171 ?_
                  refine G_iload hX 5 rfl dX11_put_172 ?_
                  refine G_sI hX atM1 dX11_put_174 (fun μ => ?_)
                  refine G_aload_n hX 1 rfl rfl dX11_put_175 ?_
                  refine gf_X11_7_M0 hX dX11_put_176 ?_
                  refine G_iload hX 0 rfl dX11_put_179 ?_
                  refine G_iconst hX (4 : Int32) rfl dX11_put_181 ?_
                  refine G_iadd hX dX11_put_182 ?_
                  refine G_iload hX 6 rfl dX11_put_183 ?_
                  refine G_sI hX atM1 dX11_put_185 (fun μ => ?_)
                  refine G_aload_n hX 1 rfl rfl dX11_put_186 ?_
                  refine gf_X11_7_M0 hX dX11_put_187 ?_
                  refine G_iload hX 0 rfl dX11_put_190 ?_
                  refine G_iconst hX (5 : Int32) rfl dX11_put_192 ?_
                  refine G_iadd hX dX11_put_193 ?_
                  refine G_iload hX 7 rfl dX11_put_194 ?_
                  refine G_sI hX atM1 dX11_put_196 (fun μ => ?_)
                  refine G_aload_n hX 1 rfl rfl dX11_put_197 ?_
                  refine gf_X11_7_M0 hX dX11_put_198 ?_
                  refine G_iload hX 0 rfl dX11_put_201 ?_
                  refine G_bipush hX (6 : Int32) rfl dX11_put_203 ?_
                  refine G_iadd hX dX11_put_205 ?_
                  refine G_iload hX 8 rfl dX11_put_206 ?_
                  refine G_sI hX atM1 dX11_put_208 (fun μ => ?_)
                  refine G_aload_n hX 1 rfl rfl dX11_put_209 ?_
                  refine gf_X11_7_M0 hX dX11_put_210 ?_
                  refine G_iload hX 0 rfl dX11_put_213 ?_
                  refine G_bipush hX (7 : Int32) rfl dX11_put_215 ?_
                  refine G_iadd hX dX11_put_217 ?_
                  refine G_iconst hX (1 : Int32) rfl dX11_put_218 ?_
                  refine G_sI hX atM1 dX11_put_219 (fun μ => ?_)
                  refine G_aload_n hX 1 rfl rfl dX11_put_220 ?_
                  refine gf_X11_7_M0 hX dX11_put_221 ?_
                  refine G_bipush hX (34 : Int32) rfl dX11_put_224 ?_
                  refine G_dup2 hX rfl rfl dX11_put_226 ?_
                  refine G_aI hX atM1 dX11_put_227 (fun x16 => ?_)
                  refine G_iconst hX (1 : Int32) rfl dX11_put_228 ?_
                  refine G_iadd hX dX11_put_229 ?_
                  refine G_sI hX atM1 dX11_put_230 (fun μ => ?_)
                  refine G_aload_n hX 1 rfl rfl dX11_put_231 ?_
                  refine gf_X11_7_M0 hX dX11_put_232 ?_
                  refine G_bipush hX (34 : Int32) rfl dX11_put_235 ?_
                  refine G_aI hX atM1 dX11_put_237 (fun x17 => ?_)
                  refine G_iconst hX (1 : Int32) rfl dX11_put_238 ?_
                  refine G_isub hX dX11_put_239 ?_
                  exact G_iret hX hQ dX11_put_240
                · refine G_aload_n hX 0 rfl rfl dX11_put_109 ?_
                  refine G_iconst hX (3 : Int32) rfl dX11_put_110 ?_
                  refine G_cVi hX 0 11 (fun ad adK => [.int (3 : Int32)]) [] (fun z2 h2 => cX11_fails_ok (cx_l X) N (3 : Int32) μ z2 h2) ok_X11_fails lm_X11_282 atM0.1 atM0.2 rfl rfl (fun _ _ => rfl) (Nat.le_of_ble_eq_true rfl) ⟨rfl, rfl, by decide, by decide⟩ (cs0 hcs) dX11_put_111 (fun r18 μ => ?_)
                  exact G_iret hX hQ dX11_put_114
              · refine G_aload_n hX 0 rfl rfl dX11_put_91 ?_
                refine G_iconst hX (2 : Int32) rfl dX11_put_92 ?_
                refine G_cVi hX 0 11 (fun ad adK => [.int (2 : Int32)]) [] (fun z2 h2 => cX11_fails_ok (cx_l X) N (2 : Int32) μ z2 h2) ok_X11_fails lm_X11_282 atM0.1 atM0.2 rfl rfl (fun _ _ => rfl) (Nat.le_of_ble_eq_true rfl) ⟨rfl, rfl, by decide, by decide⟩ (cs0 hcs) dX11_put_93 (fun r19 μ => ?_)
                exact G_iret hX hQ dX11_put_96
    · refine G_aload_n hX 0 rfl rfl dX11_put_21 ?_
      refine G_iconst hX (1 : Int32) rfl dX11_put_22 ?_
      refine G_cVi hX 0 11 (fun ad adK => [.int (1 : Int32)]) [] (fun z2 h2 => cX11_fails_ok (cx_l X) N (1 : Int32) μ z2 h2) ok_X11_fails lm_X11_282 atM0.1 atM0.2 rfl rfl (fun _ _ => rfl) (Nat.le_of_ble_eq_true rfl) ⟨rfl, rfl, by decide, by decide⟩ (cs0 hcs) dX11_put_23 (fun r20 μ => ?_)
      exact G_iret hX hQ dX11_put_26
theorem cX11_put_ok (l : Launch) (N : Nat) (p0 : Int32) (p1 : Int32) (p2 : Int32) (p3 : Int32) (p4 : Int32) (p5 : Int32) (p6 : Int32) (μ : Mem) (z : Int32 × Mem) (h : fX11_put N p0 p1 p2 p3 p4 p5 p6 μ = some z) : Mi wM l yX11_put cX11_put 9 .int (rmo 2 46) (fun ad adK => [.ref (ad 0), .int p0, .int p1, .int p2, .int p3, .int p4, .int p5, .int p6]) μ z := Mi.of h (by decide +kernel) (fun _ _ => Nat.le_of_ble_eq_true rfl) (fun X hX hQ hl hcs => gX11_put_E hX hQ hcs N p0 p1 p2 p3 p4 p5 p6 μ)
/-! ===== DutyCaseModel.drop(I)V ===== -/
set_option maxHeartbeats 4000000 in
set_option maxRecDepth 100000 in
theorem gX11_drop_14 {X : Ctx} {z : Unit × Mem} (hX : Fx wM X cX11_drop 2 RX11 none (rmo 2 46)) (hQ : Qx_v wM X z) (hcs : cx_cells X = 0 ∧ cx_slots X = 0) (N : Nat) (v1 : Int32) (s0 : Int32) (μ : Mem) : G wM X z 14 [(0, .ref (cx_ad X 0)), (1, .int v1)] [.int s0, .ref (cx_ad X 0)] μ (fX11_drop_14 N v1 s0 μ) := by
  unfold fX11_drop_14
  refine pf_X11_104_M0 hX dX11_drop_14 (fun μ => ?_)
  refine G_aload_n hX 0 rfl rfl dX11_drop_17 ?_
  refine gf_X11_104_M0 hX dX11_drop_18 ?_
  refine G_nmi (fun x2 => ?_)
  refine G_if_le hX 25 (by decide) dX11_drop_21 ?_ ?_
  · refine G_aload_n hX 0 rfl rfl dX11_drop_25 ?_
    refine G_cVv hX 0 11 (fun ad adK => []) [] (fun z2 h2 => cX11_remembers_ok (cx_l X) N μ z2 h2) ok_X11_remembers lm_X11_378 atM0.1 atM0.2 rfl rfl (fun _ _ => rfl) (Nat.le_of_ble_eq_true rfl) ⟨rfl, rfl, by decide, by decide⟩ (cs0 hcs) dX11_drop_26 (fun μ => ?_)
    refine G_aload_n hX 0 rfl rfl dX11_drop_29 ?_
    refine gf_X11_7_M0 hX dX11_drop_30 ?_
    refine G_bipush hX (35 : Int32) rfl dX11_drop_33 ?_
    refine G_bipush hX (8 : Int32) rfl dX11_drop_35 ?_
    refine G_iload_n hX 1 rfl rfl dX11_drop_37 ?_
    refine G_imul hX dX11_drop_38 ?_
    refine G_iadd hX dX11_drop_39 ?_
    refine G_bipush hX (7 : Int32) rfl dX11_drop_40 ?_
    refine G_iadd hX dX11_drop_42 ?_
    refine G_iconst hX (0 : Int32) rfl dX11_drop_43 ?_
    refine G_sI hX atM1 dX11_drop_44 (fun μ => ?_)
    exact G_vret hX hQ dX11_drop_45
  · exact G_vret hX hQ dX11_drop_24
set_option maxHeartbeats 4000000 in
set_option maxRecDepth 100000 in
theorem gX11_drop_E {X : Ctx} {z : Unit × Mem} (hX : Fx wM X cX11_drop 2 RX11 none (rmo 2 46)) (hQ : Qx_v wM X z) (hcs : cx_cells X = 0 ∧ cx_slots X = 0) (N : Nat) (p0 : Int32) (μ : Mem) : G wM X z 0 [(0, .ref (cx_ad X 0)), (1, .int p0)] [] μ (fX11_drop N p0 μ) := by
  unfold fX11_drop
  refine G_aload_n hX 0 rfl rfl dX11_drop_0 ?_
  refine G_aload_n hX 0 rfl rfl dX11_drop_1 ?_
  refine G_iload_n hX 1 rfl rfl dX11_drop_2 ?_
  refine G_cVi hX 0 11 (fun ad adK => [.int p0]) [.ref (cx_ad X 0)] (fun z2 h2 => cX11_isSale_ok (cx_l X) N p0 μ z2 h2) ok_X11_isSale lm_X11_341 atM0.1 atM0.2 rfl rfl (fun _ _ => rfl) (Nat.le_of_ble_eq_true rfl) ⟨rfl, rfl, by decide, by decide⟩ (cs0 hcs) dX11_drop_3 (fun r1 μ => ?_)
  refine G_if_eq hX 13 (by decide) dX11_drop_6 ?_ ?_
  · refine G_iconst hX (1 : Int32) rfl dX11_drop_13 ?_
    exact G_sub [0, 1] rfl (gX11_drop_14 hX hQ hcs N p0 (1 : Int32) μ)
  · refine G_iconst hX (0 : Int32) rfl dX11_drop_9 ?_
    refine G_goto hX 14 (by decide) dX11_drop_10 ?_
    exact G_sub [0, 1] rfl (gX11_drop_14 hX hQ hcs N p0 (0 : Int32) μ)
theorem cX11_drop_ok (l : Launch) (N : Nat) (p0 : Int32) (μ : Mem) (z : Unit × Mem) (h : fX11_drop N p0 μ = some z) : Mv wM l yX11_drop cX11_drop 2 (rmo 2 46) (fun ad adK => [.ref (ad 0), .int p0]) μ z := Mv.of h (by decide +kernel) (fun _ _ => Nat.le_of_ble_eq_true rfl) (fun X hX hQ hl hcs => gX11_drop_E hX hQ hcs N p0 μ)
/-! ===== DutyCaseModel.price(II)I ===== -/
set_option maxHeartbeats 4000000 in
set_option maxRecDepth 100000 in
theorem gX11_price_30 {X : Ctx} {z : Int32 × Mem} (hX : Fx wM X cX11_price 4 RX11 (some .int) (rmo 2 46)) (hQ : Qx_i wM X z) (hcs : cx_cells X = 0 ∧ cx_slots X = 0) (N : Nat) (v1 : Int32) (v2 : Int32) (s0 : Int32) (μ : Mem) : G wM X z 30 [(0, .ref (cx_ad X 0)), (1, .int v1), (2, .int v2)] [.int s0, .ref (cx_ad X 0)] μ (fX11_price_30 N v1 v2 s0 μ) := by
  unfold fX11_price_30
  refine pf_X11_104_M0 hX dX11_price_30 (fun μ => ?_)
  refine G_aload_n hX 0 rfl rfl dX11_price_33 ?_
  refine gf_X11_104_M0 hX dX11_price_34 ?_
  refine G_nmi (fun x3 => ?_)
  refine G_if_le hX 42 (by decide) dX11_price_37 ?_ ?_
  · refine G_aload_n hX 0 rfl rfl dX11_price_42 ?_
    refine G_cVv hX 0 11 (fun ad adK => []) [] (fun z2 h2 => cX11_remembers_ok (cx_l X) N μ z2 h2) ok_X11_remembers lm_X11_378 atM0.1 atM0.2 rfl rfl (fun _ _ => rfl) (Nat.le_of_ble_eq_true rfl) ⟨rfl, rfl, by decide, by decide⟩ (cs0 hcs) dX11_price_43 (fun μ => ?_)
    refine G_aload_n hX 0 rfl rfl dX11_price_46 ?_
    refine G_iload_n hX 1 rfl rfl dX11_price_47 ?_
    refine G_bipush hX (6 : Int32) rfl dX11_price_48 ?_
    refine G_cVi hX 0 11 (fun ad adK => [.int v1, .int (6 : Int32)]) [] (fun z2 h2 => cX11_of_ok (cx_l X) N v1 (6 : Int32) μ z2 h2) ok_X11_of lm_X11_305 atM0.1 atM0.2 rfl rfl (fun _ _ => rfl) (Nat.le_of_ble_eq_true rfl) ⟨rfl, rfl, by decide, by decide⟩ (cs0 hcs) dX11_price_50 (fun r4 μ => ?_)
    refine G_istore_n hX [(3, .int r4), (0, .ref (cx_ad X 0)), (1, .int v1), (2, .int v2)] rfl (by decide) rfl dX11_price_53 ?_
    refine G_aload_n hX 1 rfl rfl dX11_price_54 ?_
    refine gf_X11_7_M0 hX dX11_price_55 ?_
    refine G_bipush hX (35 : Int32) rfl dX11_price_58 ?_
    refine G_bipush hX (8 : Int32) rfl dX11_price_60 ?_
    refine G_iload_n hX 2 rfl rfl dX11_price_62 ?_
    refine G_imul hX dX11_price_63 ?_
    refine G_iadd hX dX11_price_64 ?_
    refine G_bipush hX (6 : Int32) rfl dX11_price_65 ?_
    refine G_iadd hX dX11_price_67 ?_
    refine G_iload_n hX 3 rfl rfl dX11_price_68 ?_
    refine G_sI hX atM1 dX11_price_69 (fun μ => ?_)
    refine G_iload_n hX 0 rfl rfl dX11_price_70 ?_
    exact G_iret hX hQ dX11_price_71
  · refine G_iconst hX (0 : Int32) rfl dX11_price_40 ?_
    exact G_iret hX hQ dX11_price_41
set_option maxHeartbeats 4000000 in
set_option maxRecDepth 100000 in
theorem gX11_price_E {X : Ctx} {z : Int32 × Mem} (hX : Fx wM X cX11_price 4 RX11 (some .int) (rmo 2 46)) (hQ : Qx_i wM X z) (hcs : cx_cells X = 0 ∧ cx_slots X = 0) (N : Nat) (p0 : Int32) (p1 : Int32) (μ : Mem) : G wM X z 0 [(0, .ref (cx_ad X 0)), (1, .int p0), (2, .int p1)] [] μ (fX11_price N p0 p1 μ) := by
  unfold fX11_price
  refine G_aload_n hX 0 rfl rfl dX11_price_0 ?_
  refine G_aload_n hX 0 rfl rfl dX11_price_1 ?_
  refine G_iload_n hX 1 rfl rfl dX11_price_2 ?_
  refine G_cVi hX 0 11 (fun ad adK => [.int p0]) [.ref (cx_ad X 0)] (fun z2 h2 => cX11_isSale_ok (cx_l X) N p0 μ z2 h2) ok_X11_isSale lm_X11_341 atM0.1 atM0.2 rfl rfl (fun _ _ => rfl) (Nat.le_of_ble_eq_true rfl) ⟨rfl, rfl, by decide, by decide⟩ (cs0 hcs) dX11_price_3 (fun r1 μ => ?_)
  refine G_if_ne hX 13 (by decide) dX11_price_6 ?_ ?_
  · refine G_iload_n hX 2 rfl rfl dX11_price_13 ?_
    refine G_i2l hX dX11_price_14 ?_
    refine G_lconst hX (1 : Int64) rfl dX11_price_15 ?_
    refine G_ldc2 hX lc_X11_376 dX11_price_16 ?_
    refine G_cSi hX (fun ad adK => [.long p1.toInt64, .long (1 : Int64), .long (9999 : Int64)]) [.ref (cx_ad X 0)] (fun z2 h2 => cX11_isIn_ok (cx_l X) N p1.toInt64 (1 : Int64) (9999 : Int64) μ z2 h2) ok_X11_isIn lm_X11_301 rfl (fun _ _ => rfl) (Nat.le_of_ble_eq_true rfl) ⟨rfl, rfl, by decide, by decide⟩ (cs0 hcs) dX11_price_19 (fun r2 μ => ?_)
    refine G_if_eq hX 29 (by decide) dX11_price_22 ?_ ?_
    · refine G_iconst hX (2 : Int32) rfl dX11_price_29 ?_
      exact G_sub [0, 1, 2] rfl (gX11_price_30 hX hQ hcs N p0 p1 (2 : Int32) μ)
    · refine G_iconst hX (0 : Int32) rfl dX11_price_25 ?_
      refine G_goto hX 30 (by decide) dX11_price_26 ?_
      exact G_sub [0, 1, 2] rfl (gX11_price_30 hX hQ hcs N p0 p1 (0 : Int32) μ)
  · refine G_iconst hX (1 : Int32) rfl dX11_price_9 ?_
    refine G_goto hX 30 (by decide) dX11_price_10 ?_
    exact G_sub [0, 1, 2] rfl (gX11_price_30 hX hQ hcs N p0 p1 (1 : Int32) μ)
theorem cX11_price_ok (l : Launch) (N : Nat) (p0 : Int32) (p1 : Int32) (μ : Mem) (z : Int32 × Mem) (h : fX11_price N p0 p1 μ = some z) : Mi wM l yX11_price cX11_price 4 .int (rmo 2 46) (fun ad adK => [.ref (ad 0), .int p0, .int p1]) μ z := Mi.of h (by decide +kernel) (fun _ _ => Nat.le_of_ble_eq_true rfl) (fun X hX hQ hl hcs => gX11_price_E hX hQ hcs N p0 p1 μ)
/-! ===== DutyCaseModel.costs(III)I ===== -/
set_option maxHeartbeats 4000000 in
set_option maxRecDepth 100000 in
theorem gX11_costs_38 {X : Ctx} {z : Int32 × Mem} (hX : Fx wM X cX11_costs 5 RX11 (some .int) (rmo 2 46)) (hQ : Qx_i wM X z) (hcs : cx_cells X = 0 ∧ cx_slots X = 0) (N : Nat) (v1 : Int32) (v2 : Int32) (v3 : Int32) (s0 : Int32) (μ : Mem) : G wM X z 38 [(0, .ref (cx_ad X 0)), (1, .int v1), (2, .int v2), (3, .int v3)] [.int s0, .ref (cx_ad X 0)] μ (fX11_costs_38 N v1 v2 v3 s0 μ) := by
  unfold fX11_costs_38
  refine pf_X11_104_M0 hX dX11_costs_38 (fun μ => ?_)
  refine G_aload_n hX 0 rfl rfl dX11_costs_41 ?_
  refine gf_X11_104_M0 hX dX11_costs_42 ?_
  refine G_nmi (fun x4 => ?_)
  refine G_if_le hX 50 (by decide) dX11_costs_45 ?_ ?_
  · refine G_aload_n hX 0 rfl rfl dX11_costs_50 ?_
    refine G_cVv hX 0 11 (fun ad adK => []) [] (fun z2 h2 => cX11_remembers_ok (cx_l X) N μ z2 h2) ok_X11_remembers lm_X11_378 atM0.1 atM0.2 rfl rfl (fun _ _ => rfl) (Nat.le_of_ble_eq_true rfl) ⟨rfl, rfl, by decide, by decide⟩ (cs0 hcs) dX11_costs_51 (fun μ => ?_)
    refine G_aload_n hX 0 rfl rfl dX11_costs_54 ?_
    refine G_iload_n hX 1 rfl rfl dX11_costs_55 ?_
    refine G_iload_n hX 2 rfl rfl dX11_costs_56 ?_
    refine G_cVi hX 0 11 (fun ad adK => [.int v1, .int v2]) [] (fun z2 h2 => cX11_costOf_ok (cx_l X) N v1 v2 μ z2 h2) ok_X11_costOf lm_X11_322 atM0.1 atM0.2 rfl rfl (fun _ _ => rfl) (Nat.le_of_ble_eq_true rfl) ⟨rfl, rfl, by decide, by decide⟩ (cs0 hcs) dX11_costs_57 (fun r5 μ => ?_)
    refine G_istore hX [(4, .int r5), (0, .ref (cx_ad X 0)), (1, .int v1), (2, .int v2), (3, .int v3)] (by decide) rfl dX11_costs_60 ?_
    refine G_aload_n hX 1 rfl rfl dX11_costs_62 ?_
    refine gf_X11_7_M0 hX dX11_costs_63 ?_
    refine G_iconst hX (0 : Int32) rfl dX11_costs_66 ?_
    refine G_bipush hX (6 : Int32) rfl dX11_costs_67 ?_
    refine G_iload_n hX 2 rfl rfl dX11_costs_69 ?_
    refine G_imul hX dX11_costs_70 ?_
    refine G_iadd hX dX11_costs_71 ?_
    refine G_iload_n hX 3 rfl rfl dX11_costs_72 ?_
    refine G_iadd hX dX11_costs_73 ?_
    refine G_iload_n hX 4 rfl rfl dX11_costs_74 ?_
    refine G_sI hX atM1 dX11_costs_75 (fun μ => ?_)
    refine G_iload hX 0 rfl dX11_costs_76 ?_
    exact G_iret hX hQ dX11_costs_78
  · refine G_iconst hX (0 : Int32) rfl dX11_costs_48 ?_
    exact G_iret hX hQ dX11_costs_49
set_option maxHeartbeats 4000000 in
set_option maxRecDepth 100000 in
theorem gX11_costs_E {X : Ctx} {z : Int32 × Mem} (hX : Fx wM X cX11_costs 5 RX11 (some .int) (rmo 2 46)) (hQ : Qx_i wM X z) (hcs : cx_cells X = 0 ∧ cx_slots X = 0) (N : Nat) (p0 : Int32) (p1 : Int32) (p2 : Int32) (μ : Mem) : G wM X z 0 [(0, .ref (cx_ad X 0)), (1, .int p0), (2, .int p1), (3, .int p2)] [] μ (fX11_costs N p0 p1 p2 μ) := by
  unfold fX11_costs
  refine G_aload_n hX 0 rfl rfl dX11_costs_0 ?_
  refine G_aload_n hX 0 rfl rfl dX11_costs_1 ?_
  refine G_iload_n hX 1 rfl rfl dX11_costs_2 ?_
  refine G_cVi hX 0 11 (fun ad adK => [.int p0]) [.ref (cx_ad X 0)] (fun z2 h2 => cX11_isFirm_ok (cx_l X) N p0 μ z2 h2) ok_X11_isFirm lm_X11_311 atM0.1 atM0.2 rfl rfl (fun _ _ => rfl) (Nat.le_of_ble_eq_true rfl) ⟨rfl, rfl, by decide, by decide⟩ (cs0 hcs) dX11_costs_3 (fun r1 μ => ?_)
  refine G_if_eq hX 17 (by decide) dX11_costs_6 ?_ ?_
  · refine G_iconst hX (1 : Int32) rfl dX11_costs_17 ?_
    refine G_goto hX 38 (by decide) dX11_costs_18 ?_
    exact G_sub [0, 1, 2, 3] rfl (gX11_costs_38 hX hQ hcs N p0 p1 p2 (1 : Int32) μ)
  · refine G_aload_n hX 0 rfl rfl dX11_costs_9 ?_
    refine G_iload_n hX 2 rfl rfl dX11_costs_10 ?_
    refine G_cVi hX 0 11 (fun ad adK => [.int p1]) [.ref (cx_ad X 0)] (fun z2 h2 => cX11_isModel_ok (cx_l X) N p1 μ z2 h2) ok_X11_isModel lm_X11_314 atM0.1 atM0.2 rfl rfl (fun _ _ => rfl) (Nat.le_of_ble_eq_true rfl) ⟨rfl, rfl, by decide, by decide⟩ (cs0 hcs) dX11_costs_11 (fun r2 μ => ?_)
    refine G_if_ne hX 21 (by decide) dX11_costs_14 ?_ ?_
    · refine G_iload_n hX 3 rfl rfl dX11_costs_21 ?_
      refine G_i2l hX dX11_costs_22 ?_
      refine G_lconst hX (1 : Int64) rfl dX11_costs_23 ?_
      refine G_ldc2 hX lc_X11_376 dX11_costs_24 ?_
      refine G_cSi hX (fun ad adK => [.long p2.toInt64, .long (1 : Int64), .long (9999 : Int64)]) [.ref (cx_ad X 0)] (fun z2 h2 => cX11_isIn_ok (cx_l X) N p2.toInt64 (1 : Int64) (9999 : Int64) μ z2 h2) ok_X11_isIn lm_X11_301 rfl (fun _ _ => rfl) (Nat.le_of_ble_eq_true rfl) ⟨rfl, rfl, by decide, by decide⟩ (cs0 hcs) dX11_costs_27 (fun r3 μ => ?_)
      refine G_if_eq hX 37 (by decide) dX11_costs_30 ?_ ?_
      · refine G_iconst hX (2 : Int32) rfl dX11_costs_37 ?_
        exact G_sub [0, 1, 2, 3] rfl (gX11_costs_38 hX hQ hcs N p0 p1 p2 (2 : Int32) μ)
      · refine G_iconst hX (0 : Int32) rfl dX11_costs_33 ?_
        refine G_goto hX 38 (by decide) dX11_costs_34 ?_
        exact G_sub [0, 1, 2, 3] rfl (gX11_costs_38 hX hQ hcs N p0 p1 p2 (0 : Int32) μ)
    · refine G_iconst hX (1 : Int32) rfl dX11_costs_17 ?_
      refine G_goto hX 38 (by decide) dX11_costs_18 ?_
      exact G_sub [0, 1, 2, 3] rfl (gX11_costs_38 hX hQ hcs N p0 p1 p2 (1 : Int32) μ)
theorem cX11_costs_ok (l : Launch) (N : Nat) (p0 : Int32) (p1 : Int32) (p2 : Int32) (μ : Mem) (z : Int32 × Mem) (h : fX11_costs N p0 p1 p2 μ = some z) : Mi wM l yX11_costs cX11_costs 5 .int (rmo 2 46) (fun ad adK => [.ref (ad 0), .int p0, .int p1, .int p2]) μ z := Mi.of h (by decide +kernel) (fun _ _ => Nat.le_of_ble_eq_true rfl) (fun X hX hQ hl hcs => gX11_costs_E hX hQ hcs N p0 p1 p2 μ)
/-! ===== DutyCaseModel.set(II)I ===== -/
set_option maxHeartbeats 4000000 in
set_option maxRecDepth 100000 in
theorem gX11_set_53 {X : Ctx} {z : Int32 × Mem} (hX : Fx wM X cX11_set 4 RX11 (some .int) (rmo 1 25)) (hQ : Qx_i wM X z) (hcs : cx_cells X = 0 ∧ cx_slots X = 0) (N : Nat) (v1 : Int32) (v2 : Int32) (s0 : Int32) (μ : Mem) : G wM X z 53 [(0, .ref (cx_ad X 0)), (1, .int v1), (2, .int v2)] [.int s0, .ref (cx_ad X 0)] μ (fX11_set_53 N v1 v2 s0 μ) := by
  unfold fX11_set_53
  refine pf_X11_104_M0 hX dX11_set_53 (fun μ => ?_)
  refine G_aload_n hX 0 rfl rfl dX11_set_56 ?_
  refine gf_X11_104_M0 hX dX11_set_57 ?_
  refine G_nmi (fun x5 => ?_)
  refine G_if_le hX 65 (by decide) dX11_set_60 ?_ ?_
  · refine G_aload_n hX 0 rfl rfl dX11_set_65 ?_
    refine G_cVv hX 0 11 (fun ad adK => []) [] (fun z2 h2 => cX11_remembers_ok (cx_l X) N μ z2 h2) ok_X11_remembers lm_X11_378 atM0.1 atM0.2 rfl rfl (fun _ _ => rfl) (Nat.le_of_ble_eq_true rfl) ⟨rfl, rfl, by decide, by decide⟩ (cs0 hcs) dX11_set_66 (fun μ => ?_)
    refine G_aload_n hX 0 rfl rfl dX11_set_69 ?_
    refine gf_X11_7_M0 hX dX11_set_70 ?_
    refine G_bipush hX (28 : Int32) rfl dX11_set_73 ?_
    refine G_iload_n hX 1 rfl rfl dX11_set_75 ?_
    refine G_iadd hX dX11_set_76 ?_
    refine G_aI hX atM1 dX11_set_77 (fun x6 => ?_)
    refine G_istore_n hX [(3, .int x6), (0, .ref (cx_ad X 0)), (1, .int v1), (2, .int v2)] rfl (by decide) rfl dX11_set_78 ?_
    refine G_aload_n hX 1 rfl rfl dX11_set_79 ?_
    refine gf_X11_7_M0 hX dX11_set_80 ?_
    refine G_bipush hX (28 : Int32) rfl dX11_set_83 ?_
    refine G_iload_n hX 2 rfl rfl dX11_set_85 ?_
    refine G_iadd hX dX11_set_86 ?_
    refine G_iload_n hX 3 rfl rfl dX11_set_87 ?_
    refine G_sI hX atM1 dX11_set_88 (fun μ => ?_)
    refine G_iload_n hX 0 rfl rfl dX11_set_89 ?_
    exact G_iret hX hQ dX11_set_90
  · refine G_iconst hX (0 : Int32) rfl dX11_set_63 ?_
    exact G_iret hX hQ dX11_set_64
set_option maxHeartbeats 4000000 in
set_option maxRecDepth 100000 in
theorem gX11_set_E {X : Ctx} {z : Int32 × Mem} (hX : Fx wM X cX11_set 4 RX11 (some .int) (rmo 1 25)) (hQ : Qx_i wM X z) (hcs : cx_cells X = 0 ∧ cx_slots X = 0) (N : Nat) (p0 : Int32) (p1 : Int32) (μ : Mem) : G wM X z 0 [(0, .ref (cx_ad X 0)), (1, .int p0), (2, .int p1)] [] μ (fX11_set N p0 p1 μ) := by
  unfold fX11_set
  refine G_aload_n hX 0 rfl rfl dX11_set_0 ?_
  refine G_iload_n hX 1 rfl rfl dX11_set_1 ?_
  refine G_i2l hX dX11_set_2 ?_
  refine G_lconst hX (0 : Int64) rfl dX11_set_3 ?_
  refine G_ldc2 hX lc_X11_381 dX11_set_4 ?_
  refine G_cSi hX (fun ad adK => [.long p0.toInt64, .long (0 : Int64), .long (5 : Int64)]) [.ref (cx_ad X 0)] (fun z2 h2 => cX11_isIn_ok (cx_l X) N p0.toInt64 (0 : Int64) (5 : Int64) μ z2 h2) ok_X11_isIn lm_X11_301 rfl (fun _ _ => rfl) (Nat.le_of_ble_eq_true rfl) ⟨rfl, rfl, by decide, by decide⟩ (cs0 hcs) dX11_set_7 (fun r1 μ => ?_)
  refine G_if_ne hX 17 (by decide) dX11_set_10 ?_ ?_
  · refine G_iload_n hX 2 rfl rfl dX11_set_17 ?_
    refine G_i2l hX dX11_set_18 ?_
    refine G_lconst hX (0 : Int64) rfl dX11_set_19 ?_
    refine G_iload_n hX 1 rfl rfl dX11_set_20 ?_
    refine G_if_ne hX 30 (by decide) dX11_set_21 ?_ ?_
    · refine G_iload_n hX 1 rfl rfl dX11_set_30 ?_
      refine G_iconst hX (4 : Int32) rfl dX11_set_31 ?_
      refine G_icmp_ge hX 39 (by decide) dX11_set_32 ?_ ?_
      · refine G_ldc2 hX lc_X11_383 dX11_set_39 ?_
        refine G_cSi hX (fun ad adK => [.long p1.toInt64, .long (0 : Int64), .long (99 : Int64)]) [.ref (cx_ad X 0)] (fun z2 h2 => cX11_isIn_ok (cx_l X) N p1.toInt64 (0 : Int64) (99 : Int64) μ z2 h2) ok_X11_isIn lm_X11_301 rfl (fun _ _ => rfl) (Nat.le_of_ble_eq_true rfl) ⟨rfl, rfl, by decide, by decide⟩ (cs0 hcs) dX11_set_42 (fun r2 μ => ?_)
        refine G_if_eq hX 52 (by decide) dX11_set_45 ?_ ?_
        · refine G_iconst hX (2 : Int32) rfl dX11_set_52 ?_
          exact G_sub [0, 1, 2] rfl (gX11_set_53 hX hQ hcs N p0 p1 (2 : Int32) μ)
        · refine G_iconst hX (0 : Int32) rfl dX11_set_48 ?_
          refine G_goto hX 53 (by decide) dX11_set_49 ?_
          exact G_sub [0, 1, 2] rfl (gX11_set_53 hX hQ hcs N p0 p1 (0 : Int32) μ)
      · refine G_lconst hX (1 : Int64) rfl dX11_set_35 ?_
        refine G_goto hX 42 (by decide) dX11_set_36 ?_
        refine G_cSi hX (fun ad adK => [.long p1.toInt64, .long (0 : Int64), .long (1 : Int64)]) [.ref (cx_ad X 0)] (fun z2 h2 => cX11_isIn_ok (cx_l X) N p1.toInt64 (0 : Int64) (1 : Int64) μ z2 h2) ok_X11_isIn lm_X11_301 rfl (fun _ _ => rfl) (Nat.le_of_ble_eq_true rfl) ⟨rfl, rfl, by decide, by decide⟩ (cs0 hcs) dX11_set_42 (fun r3 μ => ?_)
        refine G_if_eq hX 52 (by decide) dX11_set_45 ?_ ?_
        · refine G_iconst hX (2 : Int32) rfl dX11_set_52 ?_
          exact G_sub [0, 1, 2] rfl (gX11_set_53 hX hQ hcs N p0 p1 (2 : Int32) μ)
        · refine G_iconst hX (0 : Int32) rfl dX11_set_48 ?_
          refine G_goto hX 53 (by decide) dX11_set_49 ?_
          exact G_sub [0, 1, 2] rfl (gX11_set_53 hX hQ hcs N p0 p1 (0 : Int32) μ)
    · refine G_ldc2 hX lc_X11_320 dX11_set_24 ?_
      refine G_goto hX 42 (by decide) dX11_set_27 ?_
      refine G_cSi hX (fun ad adK => [.long p1.toInt64, .long (0 : Int64), .long (2 : Int64)]) [.ref (cx_ad X 0)] (fun z2 h2 => cX11_isIn_ok (cx_l X) N p1.toInt64 (0 : Int64) (2 : Int64) μ z2 h2) ok_X11_isIn lm_X11_301 rfl (fun _ _ => rfl) (Nat.le_of_ble_eq_true rfl) ⟨rfl, rfl, by decide, by decide⟩ (cs0 hcs) dX11_set_42 (fun r4 μ => ?_)
      refine G_if_eq hX 52 (by decide) dX11_set_45 ?_ ?_
      · refine G_iconst hX (2 : Int32) rfl dX11_set_52 ?_
        exact G_sub [0, 1, 2] rfl (gX11_set_53 hX hQ hcs N p0 p1 (2 : Int32) μ)
      · refine G_iconst hX (0 : Int32) rfl dX11_set_48 ?_
        refine G_goto hX 53 (by decide) dX11_set_49 ?_
        exact G_sub [0, 1, 2] rfl (gX11_set_53 hX hQ hcs N p0 p1 (0 : Int32) μ)
  · refine G_iconst hX (1 : Int32) rfl dX11_set_13 ?_
    refine G_goto hX 53 (by decide) dX11_set_14 ?_
    exact G_sub [0, 1, 2] rfl (gX11_set_53 hX hQ hcs N p0 p1 (1 : Int32) μ)
theorem cX11_set_ok (l : Launch) (N : Nat) (p0 : Int32) (p1 : Int32) (μ : Mem) (z : Int32 × Mem) (h : fX11_set N p0 p1 μ = some z) : Mi wM l yX11_set cX11_set 4 .int (rmo 1 25) (fun ad adK => [.ref (ad 0), .int p0, .int p1]) μ z := Mi.of h (by decide +kernel) (fun _ _ => Nat.le_of_ble_eq_true rfl) (fun X hX hQ hl hcs => gX11_set_E hX hQ hcs N p0 p1 μ)
/-! ===== DutyCaseModel.silent(IZ)Z ===== -/
set_option maxHeartbeats 4000000 in
set_option maxRecDepth 100000 in
theorem gX11_silent_48 {X : Ctx} {z : Int32 × Mem} (hX : Fx wM X cX11_silent 4 RX11 (some .boolean) (rmo 2 46)) (hQ : Qx_i wM X z) (hcs : cx_cells X = 0 ∧ cx_slots X = 0) (N : Nat) (v1 : Int32) (v2 : Int32) (s0 : Int32) (μ : Mem) : G wM X z 48 [(0, .ref (cx_ad X 0)), (1, .int v1), (2, .int v2)] [.int s0] μ (fX11_silent_48 N v1 v2 s0 μ) := by
  unfold fX11_silent_48
  refine G_istore_n hX [(3, .int s0), (0, .ref (cx_ad X 0)), (1, .int v1), (2, .int v2)] rfl (by decide) rfl dX11_silent_48 ?_
  refine G_aload_n hX 1 rfl rfl dX11_silent_49 ?_
  refine gf_X11_7_M0 hX dX11_silent_50 ?_
  refine G_bipush hX (24 : Int32) rfl dX11_silent_53 ?_
  refine G_iload_n hX 2 rfl rfl dX11_silent_55 ?_
  refine G_iadd hX dX11_silent_56 ?_
  refine G_iload_n hX 3 rfl rfl dX11_silent_57 ?_
  refine G_if_eq hX 65 (by decide) dX11_silent_58 ?_ ?_
  · refine G_iconst hX (0 : Int32) rfl dX11_silent_65 ?_
    refine G_sI hX atM1 dX11_silent_66 (fun μ => ?_)
    refine G_iload_n hX 0 rfl rfl dX11_silent_67 ?_
    exact G_zretZ hX hQ dX11_silent_68
  · refine G_iconst hX (1 : Int32) rfl dX11_silent_61 ?_
    refine G_goto hX 66 (by decide) dX11_silent_62 ?_
    refine G_sI hX atM1 dX11_silent_66 (fun μ => ?_)
    refine G_iload_n hX 0 rfl rfl dX11_silent_67 ?_
    exact G_zretZ hX hQ dX11_silent_68
set_option maxHeartbeats 4000000 in
set_option maxRecDepth 100000 in
theorem gX11_silent_14 {X : Ctx} {z : Int32 × Mem} (hX : Fx wM X cX11_silent 4 RX11 (some .boolean) (rmo 2 46)) (hQ : Qx_i wM X z) (hcs : cx_cells X = 0 ∧ cx_slots X = 0) (N : Nat) (v1 : Int32) (v2 : Int32) (s0 : Int32) (μ : Mem) : G wM X z 14 [(0, .ref (cx_ad X 0)), (1, .int v1), (2, .int v2)] [.int s0, .ref (cx_ad X 0)] μ (fX11_silent_14 N v1 v2 s0 μ) := by
  unfold fX11_silent_14
  refine pf_X11_104_M0 hX dX11_silent_14 (fun μ => ?_)
  refine G_aload_n hX 0 rfl rfl dX11_silent_17 ?_
  refine gf_X11_104_M0 hX dX11_silent_18 ?_
  refine G_nmi (fun x2 => ?_)
  refine G_if_le hX 26 (by decide) dX11_silent_21 ?_ ?_
  · refine G_aload_n hX 0 rfl rfl dX11_silent_26 ?_
    refine G_cVv hX 0 11 (fun ad adK => []) [] (fun z2 h2 => cX11_remembers_ok (cx_l X) N μ z2 h2) ok_X11_remembers lm_X11_378 atM0.1 atM0.2 rfl rfl (fun _ _ => rfl) (Nat.le_of_ble_eq_true rfl) ⟨rfl, rfl, by decide, by decide⟩ (cs0 hcs) dX11_silent_27 (fun μ => ?_)
    refine G_aload_n hX 0 rfl rfl dX11_silent_30 ?_
    refine gf_X11_7_M0 hX dX11_silent_31 ?_
    refine G_bipush hX (24 : Int32) rfl dX11_silent_34 ?_
    refine G_iload_n hX 1 rfl rfl dX11_silent_36 ?_
    refine G_iadd hX dX11_silent_37 ?_
    refine G_aI hX atM1 dX11_silent_38 (fun x3 => ?_)
    refine G_iconst hX (1 : Int32) rfl dX11_silent_39 ?_
    refine G_icmp_ne hX 47 (by decide) dX11_silent_40 ?_ ?_
    · refine G_iconst hX (0 : Int32) rfl dX11_silent_47 ?_
      exact G_sub [0, 1, 2] rfl (gX11_silent_48 hX hQ hcs N v1 v2 (0 : Int32) μ)
    · refine G_iconst hX (1 : Int32) rfl dX11_silent_43 ?_
      refine G_goto hX 48 (by decide) dX11_silent_44 ?_
      exact G_sub [0, 1, 2] rfl (gX11_silent_48 hX hQ hcs N v1 v2 (1 : Int32) μ)
  · refine G_iconst hX (0 : Int32) rfl dX11_silent_24 ?_
    exact G_zret hX hQ rfl dX11_silent_25
set_option maxHeartbeats 4000000 in
set_option maxRecDepth 100000 in
theorem gX11_silent_E {X : Ctx} {z : Int32 × Mem} (hX : Fx wM X cX11_silent 4 RX11 (some .boolean) (rmo 2 46)) (hQ : Qx_i wM X z) (hcs : cx_cells X = 0 ∧ cx_slots X = 0) (N : Nat) (p0 : Int32) (p1 : Int32) (μ : Mem) : G wM X z 0 [(0, .ref (cx_ad X 0)), (1, .int p0), (2, .int p1)] [] μ (fX11_silent N p0 p1 μ) := by
  unfold fX11_silent
  refine G_aload_n hX 0 rfl rfl dX11_silent_0 ?_
  refine G_aload_n hX 0 rfl rfl dX11_silent_1 ?_
  refine G_iload_n hX 1 rfl rfl dX11_silent_2 ?_
  refine G_cVi hX 0 11 (fun ad adK => [.int p0]) [.ref (cx_ad X 0)] (fun z2 h2 => cX11_isFirm_ok (cx_l X) N p0 μ z2 h2) ok_X11_isFirm lm_X11_311 atM0.1 atM0.2 rfl rfl (fun _ _ => rfl) (Nat.le_of_ble_eq_true rfl) ⟨rfl, rfl, by decide, by decide⟩ (cs0 hcs) dX11_silent_3 (fun r1 μ => ?_)
  refine G_if_eq hX 13 (by decide) dX11_silent_6 ?_ ?_
  · refine G_iconst hX (1 : Int32) rfl dX11_silent_13 ?_
    exact G_sub [0, 1, 2] rfl (gX11_silent_14 hX hQ hcs N p0 p1 (1 : Int32) μ)
  · refine G_iconst hX (0 : Int32) rfl dX11_silent_9 ?_
    refine G_goto hX 14 (by decide) dX11_silent_10 ?_
    exact G_sub [0, 1, 2] rfl (gX11_silent_14 hX hQ hcs N p0 p1 (0 : Int32) μ)
theorem cX11_silent_ok (l : Launch) (N : Nat) (p0 : Int32) (p1 : Int32) (μ : Mem) (z : Int32 × Mem) (h : fX11_silent N p0 p1 μ = some z) : Mi wM l yX11_silent cX11_silent 4 .boolean (rmo 2 46) (fun ad adK => [.ref (ad 0), .int p0, .int p1]) μ z := Mi.of h (by decide +kernel) (fun _ _ => Nat.le_of_ble_eq_true rfl) (fun X hX hQ hl hcs => gX11_silent_E hX hQ hcs N p0 p1 μ)
/-! ===== DutyCaseModel.undo()I ===== -/
set_option maxHeartbeats 4000000 in
set_option maxRecDepth 100000 in
theorem gX11_undo_60 {X : Ctx} {z : Int32 × Mem} (hX : Fx wM X cX11_undo 2 RX11 (some .int) (rmo 0 0)) (hQ : Qx_i wM X z) (hcs : cx_cells X = 0 ∧ cx_slots X = 0) (N : Nat) (μ : Mem) : G wM X z 60 [(0, .ref (cx_ad X 0))] [] μ (fX11_undo_60 N μ) := by
  unfold fX11_undo_60
  refine G_aload_n hX 0 rfl rfl dX11_undo_60 ?_
  refine G_iconst hX (0 : Int32) rfl dX11_undo_61 ?_
  refine pf_X11_297_M0 hX ⟨rfl, rfl⟩ dX11_undo_62 (fun μ => ?_)
  refine G_aload_n hX 0 rfl rfl dX11_undo_65 ?_
  refine gf_X11_294_M0 hX dX11_undo_66 ?_
  refine G_nmi (fun x7 => ?_)
  exact G_iret hX hQ dX11_undo_69
set_option maxHeartbeats 4000000 in
set_option maxRecDepth 100000 in
theorem gX11_undo_26 {X : Ctx} {z : Int32 × Mem} (hX : Fx wM X cX11_undo 2 RX11 (some .int) (rmo 0 0)) (hQ : Qx_i wM X z) (hcs : cx_cells X = 0 ∧ cx_slots X = 0) (N : Nat) : ∀ (n : Nat) (v1 : Int32) (μ : Mem), G wM X z 26 [(0, .ref (cx_ad X 0)), (1, .int v1)] [] μ (fX11_undo_26 N n v1 μ) := by
  intro n
  induction n with
  | zero =>
    intro v1 μ
    exact G_none
  | succ n ih =>
    intro v1 μ
    unfold fX11_undo_26
    refine G_iload_n hX 1 rfl rfl dX11_undo_26 ?_
    refine G_sipush hX (355 : Int32) rfl dX11_undo_27 ?_
    refine G_icmp_ge hX 60 (by decide) dX11_undo_30 ?_ ?_
    · exact G_sub [0] rfl (gX11_undo_60 hX hQ hcs N μ)
    · refine G_aload_n hX 0 rfl rfl dX11_undo_33 ?_
      refine gf_X11_7_M0 hX dX11_undo_34 ?_
      refine G_iload_n hX 1 rfl rfl dX11_undo_37 ?_
      refine G_aload_n hX 0 rfl rfl dX11_undo_38 ?_
      refine gf_X11_16_M0 hX dX11_undo_39 ?_
      refine G_sipush hX (355 : Int32) rfl dX11_undo_42 ?_
      refine G_aload_n hX 0 rfl rfl dX11_undo_45 ?_
      refine gf_X11_294_M0 hX dX11_undo_46 ?_
      refine G_nmi (fun x4 => ?_)
      refine G_imul hX dX11_undo_49 ?_
      refine G_iload_n hX 1 rfl rfl dX11_undo_50 ?_
      refine G_iadd hX dX11_undo_51 ?_
      refine G_aI hX atM3 dX11_undo_52 (fun x5 => ?_)
      refine G_sI hX atM1 dX11_undo_53 (fun μ => ?_)
      refine G_iincN hX 1 (fun x6 => [(1, .int x6), (0, .ref (cx_ad X 0))]) rfl rfl (by decide) (fun _ => rfl) dX11_undo_54 (fun x6 => ?_)
      refine G_goto hX 26 (by decide) dX11_undo_57 ?_
      exact G_sub [1, 0] rfl (ih x6 μ)
set_option maxHeartbeats 4000000 in
set_option maxRecDepth 100000 in
theorem gX11_undo_E {X : Ctx} {z : Int32 × Mem} (hX : Fx wM X cX11_undo 2 RX11 (some .int) (rmo 0 0)) (hQ : Qx_i wM X z) (hcs : cx_cells X = 0 ∧ cx_slots X = 0) (N : Nat) (μ : Mem) : G wM X z 0 [(0, .ref (cx_ad X 0))] [] μ (fX11_undo N μ) := by
  unfold fX11_undo
  refine G_aload_n hX 0 rfl rfl dX11_undo_0 ?_
  refine G_iconst hX (0 : Int32) rfl dX11_undo_1 ?_
  refine pf_X11_104_M0 hX dX11_undo_2 (fun μ => ?_)
  refine G_aload_n hX 0 rfl rfl dX11_undo_5 ?_
  refine gf_X11_294_M0 hX dX11_undo_6 ?_
  refine G_nmi (fun x1 => ?_)
  refine G_if_ne hX 14 (by decide) dX11_undo_9 ?_ ?_
  · refine G_aload_n hX 0 rfl rfl dX11_undo_14 ?_
    refine G_dup hX rfl dX11_undo_15 ?_
    refine gf_X11_294_M0 hX dX11_undo_16 ?_
    refine G_nmi (fun x2 => ?_)
    refine G_iconst hX (1 : Int32) rfl dX11_undo_19 ?_
    refine G_isub hX dX11_undo_20 ?_
    refine G_nmi (fun x3 => ?_)
    refine pf_X11_294_M0 hX dX11_undo_21 (fun μ => ?_)
    refine G_iconst hX (0 : Int32) rfl dX11_undo_24 ?_
    refine G_istore_n hX [(1, .int (0 : Int32)), (0, .ref (cx_ad X 0))] rfl (by decide) rfl dX11_undo_25 ?_
    exact G_sub [1, 0] rfl (gX11_undo_26 hX hQ hcs N N (0 : Int32) μ)
  · refine G_iconst hX (-1 : Int32) rfl dX11_undo_12 ?_
    exact G_iret hX hQ dX11_undo_13
theorem cX11_undo_ok (l : Launch) (N : Nat) (μ : Mem) (z : Int32 × Mem) (h : fX11_undo N μ = some z) : Mi wM l yX11_undo cX11_undo 2 .int (rmo 0 0) (fun ad adK => [.ref (ad 0)]) μ z := Mi.of h (by decide +kernel) (fun _ _ => Nat.le_of_ble_eq_true rfl) (fun X hX hQ hl hcs => gX11_undo_E hX hQ hcs N μ)
/-! ===== DutyCaseModel.base(I)I ===== -/
set_option maxHeartbeats 4000000 in
set_option maxRecDepth 100000 in
theorem gX11_base_14 {X : Ctx} {z : Int32 × Mem} (hX : Fx wM X cX11_base 2 RX11 (some .int) (rmo 6 138)) (hQ : Qx_i wM X z) (hcs : cx_cells X = 0 ∧ cx_slots X = 0) (N : Nat) (v1 : Int32) (s0 : Int32) (μ : Mem) : G wM X z 14 [(0, .ref (cx_ad X 0)), (1, .int v1)] [.int s0, .ref (cx_ad X 0)] μ (fX11_base_14 N v1 s0 μ) := by
  unfold fX11_base_14
  refine pf_X11_104_M0 hX dX11_base_14 (fun μ => ?_)
  refine G_aload_n hX 0 rfl rfl dX11_base_17 ?_
  refine gf_X11_104_M0 hX dX11_base_18 ?_
  refine G_nmi (fun x2 => ?_)
  refine G_if_le hX 26 (by decide) dX11_base_21 ?_ ?_
  · refine G_aload_n hX 0 rfl rfl dX11_base_26 ?_
    refine G_cVv hX 0 11 (fun ad adK => []) [] (fun z2 h2 => cX11_lays_ok (cx_l X) N μ z2 h2) ok_X11_lays lm_X11_367 atM0.1 atM0.2 rfl rfl (fun _ _ => rfl) (Nat.le_of_ble_eq_true rfl) ⟨rfl, rfl, by decide, by decide⟩ (cs0 hcs) dX11_base_27 (fun μ => ?_)
    refine G_aload_n hX 0 rfl rfl dX11_base_30 ?_
    refine gf_X11_79_M0 hX dX11_base_31 ?_
    refine G_iload_n hX 1 rfl rfl dX11_base_34 ?_
    refine G_aI hX atM22 dX11_base_35 (fun x3 => ?_)
    exact G_iret hX hQ dX11_base_36
  · refine G_iconst hX (0 : Int32) rfl dX11_base_24 ?_
    exact G_iret hX hQ dX11_base_25
set_option maxHeartbeats 4000000 in
set_option maxRecDepth 100000 in
theorem gX11_base_E {X : Ctx} {z : Int32 × Mem} (hX : Fx wM X cX11_base 2 RX11 (some .int) (rmo 6 138)) (hQ : Qx_i wM X z) (hcs : cx_cells X = 0 ∧ cx_slots X = 0) (N : Nat) (p0 : Int32) (μ : Mem) : G wM X z 0 [(0, .ref (cx_ad X 0)), (1, .int p0)] [] μ (fX11_base N p0 μ) := by
  unfold fX11_base
  refine G_aload_n hX 0 rfl rfl dX11_base_0 ?_
  refine G_aload_n hX 0 rfl rfl dX11_base_1 ?_
  refine G_iload_n hX 1 rfl rfl dX11_base_2 ?_
  refine G_cVi hX 0 11 (fun ad adK => [.int p0]) [.ref (cx_ad X 0)] (fun z2 h2 => cX11_isFirm_ok (cx_l X) N p0 μ z2 h2) ok_X11_isFirm lm_X11_311 atM0.1 atM0.2 rfl rfl (fun _ _ => rfl) (Nat.le_of_ble_eq_true rfl) ⟨rfl, rfl, by decide, by decide⟩ (cs0 hcs) dX11_base_3 (fun r1 μ => ?_)
  refine G_if_eq hX 13 (by decide) dX11_base_6 ?_ ?_
  · refine G_iconst hX (1 : Int32) rfl dX11_base_13 ?_
    exact G_sub [0, 1] rfl (gX11_base_14 hX hQ hcs N p0 (1 : Int32) μ)
  · refine G_iconst hX (0 : Int32) rfl dX11_base_9 ?_
    refine G_goto hX 14 (by decide) dX11_base_10 ?_
    exact G_sub [0, 1] rfl (gX11_base_14 hX hQ hcs N p0 (0 : Int32) μ)
theorem cX11_base_ok (l : Launch) (N : Nat) (p0 : Int32) (μ : Mem) (z : Int32 × Mem) (h : fX11_base N p0 μ = some z) : Mi wM l yX11_base cX11_base 2 .int (rmo 6 138) (fun ad adK => [.ref (ad 0), .int p0]) μ z := Mi.of h (by decide +kernel) (fun _ _ => Nat.le_of_ble_eq_true rfl) (fun X hX hQ hl hcs => gX11_base_E hX hQ hcs N p0 μ)
/-! ===== DutyCaseModel.below(III)I ===== -/
set_option maxHeartbeats 4000000 in
set_option maxRecDepth 100000 in
theorem gX11_below_38 {X : Ctx} {z : Int32 × Mem} (hX : Fx wM X cX11_below 4 RX11 (some .int) (rmo 6 138)) (hQ : Qx_i wM X z) (hcs : cx_cells X = 0 ∧ cx_slots X = 0) (N : Nat) (v1 : Int32) (v2 : Int32) (v3 : Int32) (s0 : Int32) (μ : Mem) : G wM X z 38 [(0, .ref (cx_ad X 0)), (1, .int v1), (2, .int v2), (3, .int v3)] [.int s0, .ref (cx_ad X 0)] μ (fX11_below_38 N v1 v2 v3 s0 μ) := by
  unfold fX11_below_38
  refine pf_X11_104_M0 hX dX11_below_38 (fun μ => ?_)
  refine G_aload_n hX 0 rfl rfl dX11_below_41 ?_
  refine gf_X11_104_M0 hX dX11_below_42 ?_
  refine G_nmi (fun x4 => ?_)
  refine G_if_le hX 50 (by decide) dX11_below_45 ?_ ?_
  · refine G_aload_n hX 0 rfl rfl dX11_below_50 ?_
    refine G_cVv hX 0 11 (fun ad adK => []) [] (fun z2 h2 => cX11_lays_ok (cx_l X) N μ z2 h2) ok_X11_lays lm_X11_367 atM0.1 atM0.2 rfl rfl (fun _ _ => rfl) (Nat.le_of_ble_eq_true rfl) ⟨rfl, rfl, by decide, by decide⟩ (cs0 hcs) dX11_below_51 (fun μ => ?_)
    refine G_iload_n hX 3 rfl rfl dX11_below_54 ?_
    refine G_iconst hX (2 : Int32) rfl dX11_below_55 ?_
    refine G_icmp_ge hX 78 (by decide) dX11_below_56 ?_ ?_
    · refine G_aload_n hX 0 rfl rfl dX11_below_78 ?_
      refine G_iload_n hX 1 rfl rfl dX11_below_79 ?_
      refine G_iload_n hX 2 rfl rfl dX11_below_80 ?_
      refine G_cVi hX 0 11 (fun ad adK => [.int v1, .int v2]) [] (fun z2 h2 => cX11_areOut_ok (cx_l X) N v1 v2 μ z2 h2) ok_X11_areOut lm_X11_361 atM0.1 atM0.2 rfl rfl (fun _ _ => rfl) (Nat.le_of_ble_eq_true rfl) ⟨rfl, rfl, by decide, by decide⟩ (cs0 hcs) dX11_below_81 (fun r5 μ => ?_)
      refine G_if_eq hX 91 (by decide) dX11_below_84 ?_ ?_
      · refine G_iconst hX (0 : Int32) rfl dX11_below_91 ?_
        exact G_iret hX hQ dX11_below_92
      · refine G_iconst hX (1 : Int32) rfl dX11_below_87 ?_
        refine G_goto hX 92 (by decide) dX11_below_88 ?_
        exact G_iret hX hQ dX11_below_92
    · refine G_aload_n hX 0 rfl rfl dX11_below_59 ?_
      refine G_iload_n hX 1 rfl rfl dX11_below_60 ?_
      refine G_iload_n hX 2 rfl rfl dX11_below_61 ?_
      refine G_iload_n hX 3 rfl rfl dX11_below_62 ?_
      refine G_iconst hX (1 : Int32) rfl dX11_below_63 ?_
      refine G_icmp_ne hX 71 (by decide) dX11_below_64 ?_ ?_
      · refine G_iconst hX (0 : Int32) rfl dX11_below_71 ?_
        refine G_cVi hX 0 11 (fun ad adK => [.int v1, .int v2, .int (0 : Int32)]) [] (fun z2 h2 => cX11_manyBase_ok (cx_l X) N v1 v2 (0 : Int32) μ z2 h2) ok_X11_manyBase lm_X11_350 atM0.1 atM0.2 rfl rfl (fun _ _ => rfl) (Nat.le_of_ble_eq_true rfl) ⟨rfl, rfl, by decide, by decide⟩ (cs0 hcs) dX11_below_72 (fun r6 μ => ?_)
        refine G_goto hX 92 (by decide) dX11_below_75 ?_
        exact G_iret hX hQ dX11_below_92
      · refine G_iconst hX (1 : Int32) rfl dX11_below_67 ?_
        refine G_goto hX 72 (by decide) dX11_below_68 ?_
        refine G_cVi hX 0 11 (fun ad adK => [.int v1, .int v2, .int (1 : Int32)]) [] (fun z2 h2 => cX11_manyBase_ok (cx_l X) N v1 v2 (1 : Int32) μ z2 h2) ok_X11_manyBase lm_X11_350 atM0.1 atM0.2 rfl rfl (fun _ _ => rfl) (Nat.le_of_ble_eq_true rfl) ⟨rfl, rfl, by decide, by decide⟩ (cs0 hcs) dX11_below_72 (fun r7 μ => ?_)
        refine G_goto hX 92 (by decide) dX11_below_75 ?_
        exact G_iret hX hQ dX11_below_92
  · refine G_iconst hX (0 : Int32) rfl dX11_below_48 ?_
    exact G_iret hX hQ dX11_below_49
set_option maxHeartbeats 4000000 in
set_option maxRecDepth 100000 in
theorem gX11_below_E {X : Ctx} {z : Int32 × Mem} (hX : Fx wM X cX11_below 4 RX11 (some .int) (rmo 6 138)) (hQ : Qx_i wM X z) (hcs : cx_cells X = 0 ∧ cx_slots X = 0) (N : Nat) (p0 : Int32) (p1 : Int32) (p2 : Int32) (μ : Mem) : G wM X z 0 [(0, .ref (cx_ad X 0)), (1, .int p0), (2, .int p1), (3, .int p2)] [] μ (fX11_below N p0 p1 p2 μ) := by
  unfold fX11_below
  refine G_aload_n hX 0 rfl rfl dX11_below_0 ?_
  refine G_aload_n hX 0 rfl rfl dX11_below_1 ?_
  refine G_iload_n hX 1 rfl rfl dX11_below_2 ?_
  refine G_cVi hX 0 11 (fun ad adK => [.int p0]) [.ref (cx_ad X 0)] (fun z2 h2 => cX11_isFirm_ok (cx_l X) N p0 μ z2 h2) ok_X11_isFirm lm_X11_311 atM0.1 atM0.2 rfl rfl (fun _ _ => rfl) (Nat.le_of_ble_eq_true rfl) ⟨rfl, rfl, by decide, by decide⟩ (cs0 hcs) dX11_below_3 (fun r1 μ => ?_)
  refine G_if_eq hX 17 (by decide) dX11_below_6 ?_ ?_
  · refine G_iconst hX (1 : Int32) rfl dX11_below_17 ?_
    refine G_goto hX 38 (by decide) dX11_below_18 ?_
    exact G_sub [0, 1, 2, 3] rfl (gX11_below_38 hX hQ hcs N p0 p1 p2 (1 : Int32) μ)
  · refine G_aload_n hX 0 rfl rfl dX11_below_9 ?_
    refine G_iload_n hX 2 rfl rfl dX11_below_10 ?_
    refine G_cVi hX 0 11 (fun ad adK => [.int p1]) [.ref (cx_ad X 0)] (fun z2 h2 => cX11_isModel_ok (cx_l X) N p1 μ z2 h2) ok_X11_isModel lm_X11_314 atM0.1 atM0.2 rfl rfl (fun _ _ => rfl) (Nat.le_of_ble_eq_true rfl) ⟨rfl, rfl, by decide, by decide⟩ (cs0 hcs) dX11_below_11 (fun r2 μ => ?_)
    refine G_if_ne hX 21 (by decide) dX11_below_14 ?_ ?_
    · refine G_iload_n hX 3 rfl rfl dX11_below_21 ?_
      refine G_i2l hX dX11_below_22 ?_
      refine G_lconst hX (0 : Int64) rfl dX11_below_23 ?_
      refine G_ldc2 hX lc_X11_320 dX11_below_24 ?_
      refine G_cSi hX (fun ad adK => [.long p2.toInt64, .long (0 : Int64), .long (2 : Int64)]) [.ref (cx_ad X 0)] (fun z2 h2 => cX11_isIn_ok (cx_l X) N p2.toInt64 (0 : Int64) (2 : Int64) μ z2 h2) ok_X11_isIn lm_X11_301 rfl (fun _ _ => rfl) (Nat.le_of_ble_eq_true rfl) ⟨rfl, rfl, by decide, by decide⟩ (cs0 hcs) dX11_below_27 (fun r3 μ => ?_)
      refine G_if_eq hX 37 (by decide) dX11_below_30 ?_ ?_
      · refine G_iconst hX (2 : Int32) rfl dX11_below_37 ?_
        exact G_sub [0, 1, 2, 3] rfl (gX11_below_38 hX hQ hcs N p0 p1 p2 (2 : Int32) μ)
      · refine G_iconst hX (0 : Int32) rfl dX11_below_33 ?_
        refine G_goto hX 38 (by decide) dX11_below_34 ?_
        exact G_sub [0, 1, 2, 3] rfl (gX11_below_38 hX hQ hcs N p0 p1 p2 (0 : Int32) μ)
    · refine G_iconst hX (1 : Int32) rfl dX11_below_17 ?_
      refine G_goto hX 38 (by decide) dX11_below_18 ?_
      exact G_sub [0, 1, 2, 3] rfl (gX11_below_38 hX hQ hcs N p0 p1 p2 (1 : Int32) μ)
theorem cX11_below_ok (l : Launch) (N : Nat) (p0 : Int32) (p1 : Int32) (p2 : Int32) (μ : Mem) (z : Int32 × Mem) (h : fX11_below N p0 p1 p2 μ = some z) : Mi wM l yX11_below cX11_below 4 .int (rmo 6 138) (fun ad adK => [.ref (ad 0), .int p0, .int p1, .int p2]) μ z := Mi.of h (by decide +kernel) (fun _ _ => Nat.le_of_ble_eq_true rfl) (fun X hX hQ hl hcs => gX11_below_E hX hQ hcs N p0 p1 p2 μ)
/-! ===== DutyCaseModel.isOf(III)Z ===== -/
set_option maxHeartbeats 4000000 in
set_option maxRecDepth 100000 in
theorem gX11_isOf_E {X : Ctx} {z : Int32 × Mem} (hX : Fx wM X cX11_isOf 4 RX11 (some .boolean) (rmo 1 22)) (hQ : Qx_i wM X z) (hcs : cx_cells X = 0 ∧ cx_slots X = 0) (N : Nat) (p0 : Int32) (p1 : Int32) (p2 : Int32) (μ : Mem) : G wM X z 0 [(0, .ref (cx_ad X 0)), (1, .int p0), (2, .int p1), (3, .int p2)] [] μ (fX11_isOf N p0 p1 p2 μ) := by
  unfold fX11_isOf
  refine G_aload_n hX 0 rfl rfl dX11_isOf_0 ?_
  refine gf_X11_76_M0 hX dX11_isOf_1 ?_
  refine G_iload_n hX 1 rfl rfl dX11_isOf_4 ?_
  refine G_aZ hX atM21 dX11_isOf_5 (fun x1 => ?_)
  refine G_if_eq hX 33 (by decide) dX11_isOf_6 ?_ ?_
  · refine G_iconst hX (0 : Int32) rfl dX11_isOf_33 ?_
    exact G_zret hX hQ rfl dX11_isOf_34
  · refine G_aload_n hX 0 rfl rfl dX11_isOf_9 ?_
    refine G_iload_n hX 1 rfl rfl dX11_isOf_10 ?_
    refine G_iconst hX (1 : Int32) rfl dX11_isOf_11 ?_
    refine G_cVi hX 0 11 (fun ad adK => [.int p0, .int (1 : Int32)]) [] (fun z2 h2 => cX11_of_ok (cx_l X) N p0 (1 : Int32) μ z2 h2) ok_X11_of lm_X11_305 atM0.1 atM0.2 rfl rfl (fun _ _ => rfl) (Nat.le_of_ble_eq_true rfl) ⟨rfl, rfl, by decide, by decide⟩ (cs0 hcs) dX11_isOf_12 (fun r2 μ => ?_)
    refine G_iload_n hX 2 rfl rfl dX11_isOf_15 ?_
    refine G_icmp_ne hX 33 (by decide) dX11_isOf_16 ?_ ?_
    · refine G_iconst hX (0 : Int32) rfl dX11_isOf_33 ?_
      exact G_zret hX hQ rfl dX11_isOf_34
    · refine G_aload_n hX 0 rfl rfl dX11_isOf_19 ?_
      refine G_iload_n hX 1 rfl rfl dX11_isOf_20 ?_
      refine G_iconst hX (2 : Int32) rfl dX11_isOf_21 ?_
      refine G_cVi hX 0 11 (fun ad adK => [.int p0, .int (2 : Int32)]) [] (fun z2 h2 => cX11_of_ok (cx_l X) N p0 (2 : Int32) μ z2 h2) ok_X11_of lm_X11_305 atM0.1 atM0.2 rfl rfl (fun _ _ => rfl) (Nat.le_of_ble_eq_true rfl) ⟨rfl, rfl, by decide, by decide⟩ (cs0 hcs) dX11_isOf_22 (fun r3 μ => ?_)
      refine G_iload_n hX 3 rfl rfl dX11_isOf_25 ?_
      refine G_icmp_ne hX 33 (by decide) dX11_isOf_26 ?_ ?_
      · refine G_iconst hX (0 : Int32) rfl dX11_isOf_33 ?_
        exact G_zret hX hQ rfl dX11_isOf_34
      · refine G_iconst hX (1 : Int32) rfl dX11_isOf_29 ?_
        refine G_goto hX 34 (by decide) dX11_isOf_30 ?_
        exact G_zret hX hQ rfl dX11_isOf_34
theorem cX11_isOf_ok (l : Launch) (N : Nat) (p0 : Int32) (p1 : Int32) (p2 : Int32) (μ : Mem) (z : Int32 × Mem) (h : fX11_isOf N p0 p1 p2 μ = some z) : Mi wM l yX11_isOf cX11_isOf 4 .boolean (rmo 1 22) (fun ad adK => [.ref (ad 0), .int p0, .int p1, .int p2]) μ z := Mi.of h (by decide +kernel) (fun _ _ => Nat.le_of_ble_eq_true rfl) (fun X hX hQ hl hcs => gX11_isOf_E hX hQ hcs N p0 p1 p2 μ)
/-! ===== DutyCaseModel.apart(II)I ===== -/
set_option maxHeartbeats 4000000 in
set_option maxRecDepth 100000 in
theorem gX11_apart_E {X : Ctx} {z : Int32 × Mem} (hX : Fx wM X cX11_apart 2 RX11 (some .int) (rmo 0 0)) (hQ : Qx_i wM X z) (hcs : cx_cells X = 0 ∧ cx_slots X = 0) (N : Nat) (p0 : Int32) (p1 : Int32) (μ : Mem) : G wM X z 0 [(0, .int p0), (1, .int p1)] [] μ (fX11_apart N p0 p1 μ) := by
  unfold fX11_apart
  refine G_iload_n hX 0 rfl rfl dX11_apart_0 ?_
  refine G_iload_n hX 1 rfl rfl dX11_apart_1 ?_
  refine G_icmp_ge hX 11 (by decide) dX11_apart_2 ?_ ?_
  · refine G_iload_n hX 0 rfl rfl dX11_apart_11 ?_
    refine G_iload_n hX 1 rfl rfl dX11_apart_12 ?_
    refine G_isub hX dX11_apart_13 ?_
    exact G_iret hX hQ dX11_apart_14
  · refine G_iload_n hX 1 rfl rfl dX11_apart_5 ?_
    refine G_iload_n hX 0 rfl rfl dX11_apart_6 ?_
    refine G_isub hX dX11_apart_7 ?_
    refine G_goto hX 14 (by decide) dX11_apart_8 ?_
    exact G_iret hX hQ dX11_apart_14
theorem cX11_apart_ok (l : Launch) (N : Nat) (p0 : Int32) (p1 : Int32) (μ : Mem) (z : Int32 × Mem) (h : fX11_apart N p0 p1 μ = some z) : Mi wM l yX11_apart cX11_apart 2 .int (rmo 0 0) (fun ad adK => [.int p0, .int p1]) μ z := Mi.of h (by decide +kernel) (fun _ _ => Nat.le_of_ble_eq_true rfl) (fun X hX hQ hl hcs => gX11_apart_E hX hQ hcs N p0 p1 μ)
/-! ===== DutyCaseModel.nearestLevel(III)I ===== -/
set_option maxHeartbeats 4000000 in
set_option maxRecDepth 100000 in
theorem gX11_nearestLevel_71 {X : Ctx} {z : Int32 × Mem} (hX : Fx wM X cX11_nearestLevel 8 RX11 (some .int) (rmo 2 45)) (hQ : Qx_i wM X z) (hcs : cx_cells X = 0 ∧ cx_slots X = 0) (N : Nat) (k6 : Int32 → Int32 → Int32 → Int32 → Int32 → Mem → Option (Int32 × Mem)) (hk6 : ∀ (v1 : Int32) (v2 : Int32) (v3 : Int32) (v4 : Int32) (v5 : Int32) (μ : Mem), G wM X z 6 [(0, .ref (cx_ad X 0)), (1, .int v1), (2, .int v2), (3, .int v3), (4, .int v4), (5, .int v5)] [] μ (k6 v1 v2 v3 v4 v5 μ)) (v1 : Int32) (v2 : Int32) (v3 : Int32) (v4 : Int32) (v5 : Int32) (v6 : Int32) (μ : Mem) : G wM X z 71 [(0, .ref (cx_ad X 0)), (1, .int v1), (2, .int v2), (3, .int v3), (4, .int v4), (5, .int v5), (6, .int v6)] [] μ (fX11_nearestLevel_71 N k6 v1 v2 v3 v4 v5 v6 μ) := by
  unfold fX11_nearestLevel_71
  refine G_iload hX 6 rfl dX11_nearestLevel_71 ?_
  refine G_if_eq hX 101 (by decide) dX11_nearestLevel_73 ?_ ?_
  · refine G_iincN hX 5 (fun x8 => [(5, .int x8), (0, .ref (cx_ad X 0)), (1, .int v1), (2, .int v2), (3, .int v3), (4, .int v4), (6, .int v6)]) rfl rfl (by decide) (fun _ => rfl) dX11_nearestLevel_101 (fun x8 => ?_)
    refine G_goto hX 6 (by decide) dX11_nearestLevel_104 ?_
    exact G_sub [1, 2, 3, 4, 5, 0] rfl (hk6 v1 v2 v3 v4 x8 μ)
  · refine G_iload hX 4 rfl dX11_nearestLevel_76 ?_
    refine G_iconst hX (-1 : Int32) rfl dX11_nearestLevel_78 ?_
    refine G_icmp_eq hX 97 (by decide) dX11_nearestLevel_79 ?_ ?_
    · refine G_iload hX 5 rfl dX11_nearestLevel_97 ?_
      refine G_istore hX [(4, .int v5), (0, .ref (cx_ad X 0)), (1, .int v1), (2, .int v2), (3, .int v3), (5, .int v5), (6, .int v6)] (by decide) rfl dX11_nearestLevel_99 ?_
      refine G_iincN hX 5 (fun x9 => [(5, .int x9), (4, .int v5), (0, .ref (cx_ad X 0)), (1, .int v1), (2, .int v2), (3, .int v3), (6, .int v6)]) rfl rfl (by decide) (fun _ => rfl) dX11_nearestLevel_101 (fun x9 => ?_)
      refine G_goto hX 6 (by decide) dX11_nearestLevel_104 ?_
      exact G_sub [2, 3, 4, 5, 1, 0] rfl (hk6 v1 v2 v3 v5 x9 μ)
    · refine G_iload hX 5 rfl dX11_nearestLevel_82 ?_
      refine G_iload_n hX 3 rfl rfl dX11_nearestLevel_84 ?_
      refine G_cSi hX (fun ad adK => [.int v5, .int v3]) [] (fun z2 h2 => cX11_apart_ok (cx_l X) N v5 v3 μ z2 h2) ok_X11_apart lm_X11_389 rfl (fun _ _ => rfl) (Nat.le_of_ble_eq_true rfl) ⟨rfl, rfl, by decide, by decide⟩ (cs0 hcs) dX11_nearestLevel_85 (fun r10 μ => ?_)
      refine G_iload hX 4 rfl dX11_nearestLevel_88 ?_
      refine G_iload_n hX 3 rfl rfl dX11_nearestLevel_90 ?_
      refine G_cSi hX (fun ad adK => [.int v4, .int v3]) [.int r10] (fun z2 h2 => cX11_apart_ok (cx_l X) N v4 v3 μ z2 h2) ok_X11_apart lm_X11_389 rfl (fun _ _ => rfl) (Nat.le_of_ble_eq_true rfl) ⟨rfl, rfl, by decide, by decide⟩ (cs0 hcs) dX11_nearestLevel_91 (fun r11 μ => ?_)
      refine G_icmp_ge hX 101 (by decide) dX11_nearestLevel_94 ?_ ?_
      · refine G_iincN hX 5 (fun x12 => [(5, .int x12), (0, .ref (cx_ad X 0)), (1, .int v1), (2, .int v2), (3, .int v3), (4, .int v4), (6, .int v6)]) rfl rfl (by decide) (fun _ => rfl) dX11_nearestLevel_101 (fun x12 => ?_)
        refine G_goto hX 6 (by decide) dX11_nearestLevel_104 ?_
        exact G_sub [1, 2, 3, 4, 5, 0] rfl (hk6 v1 v2 v3 v4 x12 μ)
      · refine G_iload hX 5 rfl dX11_nearestLevel_97 ?_
        refine G_istore hX [(4, .int v5), (0, .ref (cx_ad X 0)), (1, .int v1), (2, .int v2), (3, .int v3), (5, .int v5), (6, .int v6)] (by decide) rfl dX11_nearestLevel_99 ?_
        refine G_iincN hX 5 (fun x13 => [(5, .int x13), (4, .int v5), (0, .ref (cx_ad X 0)), (1, .int v1), (2, .int v2), (3, .int v3), (6, .int v6)]) rfl rfl (by decide) (fun _ => rfl) dX11_nearestLevel_101 (fun x13 => ?_)
        refine G_goto hX 6 (by decide) dX11_nearestLevel_104 ?_
        exact G_sub [2, 3, 4, 5, 1, 0] rfl (hk6 v1 v2 v3 v5 x13 μ)
set_option maxHeartbeats 4000000 in
set_option maxRecDepth 100000 in
theorem gX11_nearestLevel_18 {X : Ctx} {z : Int32 × Mem} (hX : Fx wM X cX11_nearestLevel 8 RX11 (some .int) (rmo 2 45)) (hQ : Qx_i wM X z) (hcs : cx_cells X = 0 ∧ cx_slots X = 0) (N : Nat) (k6 : Int32 → Int32 → Int32 → Int32 → Int32 → Mem → Option (Int32 × Mem)) (hk6 : ∀ (v1 : Int32) (v2 : Int32) (v3 : Int32) (v4 : Int32) (v5 : Int32) (μ : Mem), G wM X z 6 [(0, .ref (cx_ad X 0)), (1, .int v1), (2, .int v2), (3, .int v3), (4, .int v4), (5, .int v5)] [] μ (k6 v1 v2 v3 v4 v5 μ)) : ∀ (n : Nat) (v1 : Int32) (v2 : Int32) (v3 : Int32) (v4 : Int32) (v5 : Int32) (v6 : Int32) (v7 : Int32) (μ : Mem), G wM X z 18 [(0, .ref (cx_ad X 0)), (1, .int v1), (2, .int v2), (3, .int v3), (4, .int v4), (5, .int v5), (6, .int v6), (7, .int v7)] [] μ (fX11_nearestLevel_18 N k6 n v1 v2 v3 v4 v5 v6 v7 μ) := by
  intro n
  induction n with
  | zero =>
    intro v1 v2 v3 v4 v5 v6 v7 μ
    exact G_none
  | succ n ih =>
    intro v1 v2 v3 v4 v5 v6 v7 μ
    unfold fX11_nearestLevel_18
    refine G_iload hX 7 rfl dX11_nearestLevel_18 ?_
    refine G_aload_n hX 0 rfl rfl dX11_nearestLevel_20 ?_
    refine gf_X11_7_M0 hX dX11_nearestLevel_21 ?_
    refine G_bipush hX (34 : Int32) rfl dX11_nearestLevel_24 ?_
    refine G_aI hX atM1 dX11_nearestLevel_26 (fun x1 => ?_)
    refine G_icmp_ge hX 71 (by decide) dX11_nearestLevel_27 ?_ ?_
    · exact G_sub [0, 1, 2, 3, 4, 5, 6] rfl (gX11_nearestLevel_71 hX hQ hcs N k6 hk6 v1 v2 v3 v4 v5 v6 μ)
    · refine G_iload hX 6 rfl dX11_nearestLevel_30 ?_
      refine G_if_ne hX 58 (by decide) dX11_nearestLevel_32 ?_ ?_
      · refine G_iconst hX (1 : Int32) rfl dX11_nearestLevel_58 ?_
        refine G_goto hX 63 (by decide) dX11_nearestLevel_59 ?_
        refine G_istore hX [(6, .int (1 : Int32)), (0, .ref (cx_ad X 0)), (1, .int v1), (2, .int v2), (3, .int v3), (4, .int v4), (5, .int v5), (7, .int v7)] (by decide) rfl dX11_nearestLevel_63 ?_
        refine G_iincN hX 7 (fun x2 => [(7, .int x2), (6, .int (1 : Int32)), (0, .ref (cx_ad X 0)), (1, .int v1), (2, .int v2), (3, .int v3), (4, .int v4), (5, .int v5)]) rfl rfl (by decide) (fun _ => rfl) dX11_nearestLevel_65 (fun x2 => ?_)
        refine G_goto hX 18 (by decide) dX11_nearestLevel_68 ?_
        exact G_sub [2, 3, 4, 5, 6, 7, 1, 0] rfl (ih v1 v2 v3 v4 v5 (1 : Int32) x2 μ)
      · refine G_aload_n hX 0 rfl rfl dX11_nearestLevel_35 ?_
        refine G_iload hX 7 rfl dX11_nearestLevel_36 ?_
        refine G_iload_n hX 1 rfl rfl dX11_nearestLevel_38 ?_
        refine G_iload_n hX 2 rfl rfl dX11_nearestLevel_39 ?_
        refine G_cVi hX 0 11 (fun ad adK => [.int v7, .int v1, .int v2]) [] (fun z2 h2 => cX11_isOf_ok (cx_l X) N v7 v1 v2 μ z2 h2) ok_X11_isOf lm_X11_385 atM0.1 atM0.2 rfl rfl (fun _ _ => rfl) (Nat.le_of_ble_eq_true rfl) ⟨rfl, rfl, by decide, by decide⟩ (cs0 hcs) dX11_nearestLevel_40 (fun r3 μ => ?_)
        refine G_if_eq hX 62 (by decide) dX11_nearestLevel_43 ?_ ?_
        · refine G_iconst hX (0 : Int32) rfl dX11_nearestLevel_62 ?_
          refine G_istore hX [(6, .int (0 : Int32)), (0, .ref (cx_ad X 0)), (1, .int v1), (2, .int v2), (3, .int v3), (4, .int v4), (5, .int v5), (7, .int v7)] (by decide) rfl dX11_nearestLevel_63 ?_
          refine G_iincN hX 7 (fun x4 => [(7, .int x4), (6, .int (0 : Int32)), (0, .ref (cx_ad X 0)), (1, .int v1), (2, .int v2), (3, .int v3), (4, .int v4), (5, .int v5)]) rfl rfl (by decide) (fun _ => rfl) dX11_nearestLevel_65 (fun x4 => ?_)
          refine G_goto hX 18 (by decide) dX11_nearestLevel_68 ?_
          exact G_sub [2, 3, 4, 5, 6, 7, 1, 0] rfl (ih v1 v2 v3 v4 v5 (0 : Int32) x4 μ)
        · refine G_aload_n hX 0 rfl rfl dX11_nearestLevel_46 ?_
          refine G_iload hX 7 rfl dX11_nearestLevel_47 ?_
          refine G_iconst hX (3 : Int32) rfl dX11_nearestLevel_49 ?_
          refine G_cVi hX 0 11 (fun ad adK => [.int v7, .int (3 : Int32)]) [] (fun z2 h2 => cX11_of_ok (cx_l X) N v7 (3 : Int32) μ z2 h2) ok_X11_of lm_X11_305 atM0.1 atM0.2 rfl rfl (fun _ _ => rfl) (Nat.le_of_ble_eq_true rfl) ⟨rfl, rfl, by decide, by decide⟩ (cs0 hcs) dX11_nearestLevel_50 (fun r5 μ => ?_)
          refine G_iload hX 5 rfl dX11_nearestLevel_53 ?_
          refine G_icmp_ne hX 62 (by decide) dX11_nearestLevel_55 ?_ ?_
          · refine G_iconst hX (0 : Int32) rfl dX11_nearestLevel_62 ?_
            refine G_istore hX [(6, .int (0 : Int32)), (0, .ref (cx_ad X 0)), (1, .int v1), (2, .int v2), (3, .int v3), (4, .int v4), (5, .int v5), (7, .int v7)] (by decide) rfl dX11_nearestLevel_63 ?_
            refine G_iincN hX 7 (fun x6 => [(7, .int x6), (6, .int (0 : Int32)), (0, .ref (cx_ad X 0)), (1, .int v1), (2, .int v2), (3, .int v3), (4, .int v4), (5, .int v5)]) rfl rfl (by decide) (fun _ => rfl) dX11_nearestLevel_65 (fun x6 => ?_)
            refine G_goto hX 18 (by decide) dX11_nearestLevel_68 ?_
            exact G_sub [2, 3, 4, 5, 6, 7, 1, 0] rfl (ih v1 v2 v3 v4 v5 (0 : Int32) x6 μ)
          · refine G_iconst hX (1 : Int32) rfl dX11_nearestLevel_58 ?_
            refine G_goto hX 63 (by decide) dX11_nearestLevel_59 ?_
            refine G_istore hX [(6, .int (1 : Int32)), (0, .ref (cx_ad X 0)), (1, .int v1), (2, .int v2), (3, .int v3), (4, .int v4), (5, .int v5), (7, .int v7)] (by decide) rfl dX11_nearestLevel_63 ?_
            refine G_iincN hX 7 (fun x7 => [(7, .int x7), (6, .int (1 : Int32)), (0, .ref (cx_ad X 0)), (1, .int v1), (2, .int v2), (3, .int v3), (4, .int v4), (5, .int v5)]) rfl rfl (by decide) (fun _ => rfl) dX11_nearestLevel_65 (fun x7 => ?_)
            refine G_goto hX 18 (by decide) dX11_nearestLevel_68 ?_
            exact G_sub [2, 3, 4, 5, 6, 7, 1, 0] rfl (ih v1 v2 v3 v4 v5 (1 : Int32) x7 μ)
set_option maxHeartbeats 4000000 in
set_option maxRecDepth 100000 in
theorem gX11_nearestLevel_6 {X : Ctx} {z : Int32 × Mem} (hX : Fx wM X cX11_nearestLevel 8 RX11 (some .int) (rmo 2 45)) (hQ : Qx_i wM X z) (hcs : cx_cells X = 0 ∧ cx_slots X = 0) (N : Nat) : ∀ (n : Nat) (v1 : Int32) (v2 : Int32) (v3 : Int32) (v4 : Int32) (v5 : Int32) (μ : Mem), G wM X z 6 [(0, .ref (cx_ad X 0)), (1, .int v1), (2, .int v2), (3, .int v3), (4, .int v4), (5, .int v5)] [] μ (fX11_nearestLevel_6 N n v1 v2 v3 v4 v5 μ) := by
  intro n
  induction n with
  | zero =>
    intro v1 v2 v3 v4 v5 μ
    exact G_none
  | succ n ih =>
    intro v1 v2 v3 v4 v5 μ
    unfold fX11_nearestLevel_6
    refine G_iload hX 5 rfl dX11_nearestLevel_6 ?_
    refine G_iconst hX (4 : Int32) rfl dX11_nearestLevel_8 ?_
    refine G_icmp_ge hX 107 (by decide) dX11_nearestLevel_9 ?_ ?_
    · refine G_iload hX 4 rfl dX11_nearestLevel_107 ?_
      exact G_iret hX hQ dX11_nearestLevel_109
    · refine G_iconst hX (0 : Int32) rfl dX11_nearestLevel_12 ?_
      refine G_istore hX [(6, .int (0 : Int32)), (0, .ref (cx_ad X 0)), (1, .int v1), (2, .int v2), (3, .int v3), (4, .int v4), (5, .int v5)] (by decide) rfl dX11_nearestLevel_13 ?_
      refine G_iconst hX (0 : Int32) rfl dX11_nearestLevel_15 ?_
      refine G_istore hX [(7, .int (0 : Int32)), (6, .int (0 : Int32)), (0, .ref (cx_ad X 0)), (1, .int v1), (2, .int v2), (3, .int v3), (4, .int v4), (5, .int v5)] (by decide) rfl dX11_nearestLevel_16 ?_
      exact G_sub [2, 3, 4, 5, 6, 7, 1, 0] rfl (gX11_nearestLevel_18 hX hQ hcs N (fun v1 v2 v3 v4 v5 μ => fX11_nearestLevel_6 N n v1 v2 v3 v4 v5 μ) (fun v1 v2 v3 v4 v5  μ => ih v1 v2 v3 v4 v5  μ) N v1 v2 v3 v4 v5 (0 : Int32) (0 : Int32) μ)
set_option maxHeartbeats 4000000 in
set_option maxRecDepth 100000 in
theorem gX11_nearestLevel_E {X : Ctx} {z : Int32 × Mem} (hX : Fx wM X cX11_nearestLevel 8 RX11 (some .int) (rmo 2 45)) (hQ : Qx_i wM X z) (hcs : cx_cells X = 0 ∧ cx_slots X = 0) (N : Nat) (p0 : Int32) (p1 : Int32) (p2 : Int32) (μ : Mem) : G wM X z 0 [(0, .ref (cx_ad X 0)), (1, .int p0), (2, .int p1), (3, .int p2)] [] μ (fX11_nearestLevel N p0 p1 p2 μ) := by
  unfold fX11_nearestLevel
  refine G_iconst hX (-1 : Int32) rfl dX11_nearestLevel_0 ?_
  refine G_istore hX [(4, .int (-1 : Int32)), (0, .ref (cx_ad X 0)), (1, .int p0), (2, .int p1), (3, .int p2)] (by decide) rfl dX11_nearestLevel_1 ?_
  refine G_iconst hX (0 : Int32) rfl dX11_nearestLevel_3 ?_
  refine G_istore hX [(5, .int (0 : Int32)), (4, .int (-1 : Int32)), (0, .ref (cx_ad X 0)), (1, .int p0), (2, .int p1), (3, .int p2)] (by decide) rfl dX11_nearestLevel_4 ?_
  exact G_sub [2, 3, 4, 5, 1, 0] rfl (gX11_nearestLevel_6 hX hQ hcs N N p0 p1 p2 (-1 : Int32) (0 : Int32) μ)
theorem cX11_nearestLevel_ok (l : Launch) (N : Nat) (p0 : Int32) (p1 : Int32) (p2 : Int32) (μ : Mem) (z : Int32 × Mem) (h : fX11_nearestLevel N p0 p1 p2 μ = some z) : Mi wM l yX11_nearestLevel cX11_nearestLevel 8 .int (rmo 2 45) (fun ad adK => [.ref (ad 0), .int p0, .int p1, .int p2]) μ z := Mi.of h (by decide +kernel) (fun _ _ => Nat.le_of_ble_eq_true rfl) (fun X hX hQ hl hcs => gX11_nearestLevel_E hX hQ hcs N p0 p1 p2 μ)
/-! ===== DutyCaseModel.likeModel(III)I ===== -/
set_option maxHeartbeats 4000000 in
set_option maxRecDepth 100000 in
theorem gX11_likeModel_14 {X : Ctx} {z : Int32 × Mem} (hX : Fx wM X cX11_likeModel 8 RX11 (some .int) (rmo 3 72)) (hQ : Qx_i wM X z) (hcs : cx_cells X = 0 ∧ cx_slots X = 0) (N : Nat) : ∀ (n : Nat) (v1 : Int32) (v2 : Int32) (v3 : Int32) (v4 : Int32) (v5 : Int32) (v6 : Int32) (μ : Mem), G wM X z 14 [(0, .ref (cx_ad X 0)), (1, .int v1), (2, .int v2), (3, .int v3), (4, .int v4), (5, .int v5), (6, .int v6)] [] μ (fX11_likeModel_14 N n v1 v2 v3 v4 v5 v6 μ) := by
  intro n
  induction n with
  | zero =>
    intro v1 v2 v3 v4 v5 v6 μ
    exact G_none
  | succ n ih =>
    intro v1 v2 v3 v4 v5 v6 μ
    unfold fX11_likeModel_14
    refine G_iload hX 6 rfl dX11_likeModel_14 ?_
    refine G_aload_n hX 0 rfl rfl dX11_likeModel_16 ?_
    refine gf_X11_288_M0 hX dX11_likeModel_17 ?_
    refine G_nmi (fun x2 => ?_)
    refine G_icmp_ge hX 134 (by decide) dX11_likeModel_20 ?_ ?_
    · refine G_iload hX 4 rfl dX11_likeModel_134 ?_
      exact G_iret hX hQ dX11_likeModel_136
    · refine G_iload hX 6 rfl dX11_likeModel_23 ?_
      refine G_iload_n hX 2 rfl rfl dX11_likeModel_25 ?_
      refine G_icmp_eq hX 128 (by decide) dX11_likeModel_26 ?_ ?_
      · refine G_iincN hX 6 (fun x3 => [(6, .int x3), (0, .ref (cx_ad X 0)), (1, .int v1), (2, .int v2), (3, .int v3), (4, .int v4), (5, .int v5)]) rfl rfl (by decide) (fun _ => rfl) dX11_likeModel_128 (fun x3 => ?_)
        refine G_goto hX 14 (by decide) dX11_likeModel_131 ?_
        exact G_sub [1, 2, 3, 4, 5, 6, 0] rfl (ih v1 v2 v3 v4 v5 x3 μ)
      · refine G_iconst hX (5 : Int32) rfl dX11_likeModel_29 ?_
        refine G_iload hX 5 rfl dX11_likeModel_30 ?_
        refine G_aload_n hX 0 rfl rfl dX11_likeModel_32 ?_
        refine G_iload_n hX 1 rfl rfl dX11_likeModel_33 ?_
        refine G_iload hX 6 rfl dX11_likeModel_34 ?_
        refine G_cVi hX 0 11 (fun ad adK => [.int v1, .int v6]) [.int v5, .int (5 : Int32)] (fun z2 h2 => cX11_costOf_ok (cx_l X) N v1 v6 μ z2 h2) ok_X11_costOf lm_X11_322 atM0.1 atM0.2 rfl rfl (fun _ _ => rfl) (Nat.le_of_ble_eq_true rfl) ⟨rfl, rfl, by decide, by decide⟩ (cs0 hcs) dX11_likeModel_36 (fun r4 μ => ?_)
        refine G_cSi hX (fun ad adK => [.int v5, .int r4]) [.int (5 : Int32)] (fun z2 h2 => cX11_apart_ok (cx_l X) N v5 r4 μ z2 h2) ok_X11_apart lm_X11_389 rfl (fun _ _ => rfl) (Nat.le_of_ble_eq_true rfl) ⟨rfl, rfl, by decide, by decide⟩ (cs0 hcs) dX11_likeModel_39 (fun r5 μ => ?_)
        refine G_imul hX dX11_likeModel_42 ?_
        refine G_iload hX 5 rfl dX11_likeModel_43 ?_
        refine G_icmp_gt hX 128 (by decide) dX11_likeModel_45 ?_ ?_
        · refine G_iincN hX 6 (fun x6 => [(6, .int x6), (0, .ref (cx_ad X 0)), (1, .int v1), (2, .int v2), (3, .int v3), (4, .int v4), (5, .int v5)]) rfl rfl (by decide) (fun _ => rfl) dX11_likeModel_128 (fun x6 => ?_)
          refine G_goto hX 14 (by decide) dX11_likeModel_131 ?_
          exact G_sub [1, 2, 3, 4, 5, 6, 0] rfl (ih v1 v2 v3 v4 v5 x6 μ)
        · refine G_aload_n hX 0 rfl rfl dX11_likeModel_48 ?_
          refine G_iload_n hX 1 rfl rfl dX11_likeModel_49 ?_
          refine G_iload hX 6 rfl dX11_likeModel_50 ?_
          refine G_iload_n hX 3 rfl rfl dX11_likeModel_52 ?_
          refine G_cVi hX 0 11 (fun ad adK => [.int v1, .int v6, .int v3]) [] (fun z2 h2 => cX11_nearestLevel_ok (cx_l X) N v1 v6 v3 μ z2 h2) ok_X11_nearestLevel lm_X11_392 atM0.1 atM0.2 rfl rfl (fun _ _ => rfl) (Nat.le_of_ble_eq_true rfl) ⟨rfl, rfl, by decide, by decide⟩ (cs0 hcs) dX11_likeModel_53 (fun r7 μ => ?_)
          refine G_iconst hX (-1 : Int32) rfl dX11_likeModel_56 ?_
          refine G_icmp_ne hX 63 (by decide) dX11_likeModel_57 ?_ ?_
          · refine G_aload_n hX 0 rfl rfl dX11_likeModel_63 ?_
            refine gf_X11_25_M0 hX dX11_likeModel_64 ?_
            refine G_iconst hX (3 : Int32) rfl dX11_likeModel_67 ?_
            refine G_iload hX 6 rfl dX11_likeModel_68 ?_
            refine G_imul hX dX11_likeModel_70 ?_
            refine G_iconst hX (1 : Int32) rfl dX11_likeModel_71 ?_
            refine G_iadd hX dX11_likeModel_72 ?_
            refine G_aI hX atM6 dX11_likeModel_73 (fun x8 => ?_)
            refine G_aload_n hX 0 rfl rfl dX11_likeModel_74 ?_
            refine gf_X11_25_M0 hX dX11_likeModel_75 ?_
            refine G_iconst hX (3 : Int32) rfl dX11_likeModel_78 ?_
            refine G_iload_n hX 2 rfl rfl dX11_likeModel_79 ?_
            refine G_imul hX dX11_likeModel_80 ?_
            refine G_iconst hX (1 : Int32) rfl dX11_likeModel_81 ?_
            refine G_iadd hX dX11_likeModel_82 ?_
            refine G_aI hX atM6 dX11_likeModel_83 (fun x9 => ?_)
            refine G_cSi hX (fun ad adK => [.int x8, .int x9]) [] (fun z2 h2 => cX11_apart_ok (cx_l X) N x8 x9 μ z2 h2) ok_X11_apart lm_X11_389 rfl (fun _ _ => rfl) (Nat.le_of_ble_eq_true rfl) ⟨rfl, rfl, by decide, by decide⟩ (cs0 hcs) dX11_likeModel_84 (fun r10 μ => ?_)
            refine G_istore hX [(7, .int r10), (0, .ref (cx_ad X 0)), (1, .int v1), (2, .int v2), (3, .int v3), (4, .int v4), (5, .int v5), (6, .int v6)] (by decide) rfl dX11_likeModel_87 ?_
            refine G_iload hX 5 rfl dX11_likeModel_89 ?_
            refine G_iconst hX (-1 : Int32) rfl dX11_likeModel_91 ?_
            refine G_icmp_eq hX 124 (by decide) dX11_likeModel_92 ?_ ?_
            · refine G_iload hX 7 rfl dX11_likeModel_124 ?_
              refine G_istore hX [(4, .int v6), (7, .int r10), (0, .ref (cx_ad X 0)), (1, .int v1), (2, .int v2), (3, .int v3), (5, .int v5), (6, .int v6)] (by decide) rfl dX11_likeModel_126 ?_
              refine G_iincN hX 7 (fun x11 => [(6, .int x11), (4, .int v6), (7, .int r10), (0, .ref (cx_ad X 0)), (1, .int v1), (2, .int v2), (3, .int v3), (5, .int v5)]) rfl rfl (by decide) (fun _ => rfl) dX11_likeModel_128 (fun x11 => ?_)
              refine G_goto hX 14 (by decide) dX11_likeModel_131 ?_
              exact G_sub [3, 4, 5, 6, 1, 7, 0] rfl (ih v1 v2 v3 v6 v5 x11 μ)
            · refine G_iload hX 0 rfl dX11_likeModel_95 ?_
              refine G_aload_n hX 1 rfl rfl dX11_likeModel_97 ?_
              refine gf_X11_25_M0 hX dX11_likeModel_98 ?_
              refine G_iconst hX (3 : Int32) rfl dX11_likeModel_101 ?_
              refine G_iload hX 5 rfl dX11_likeModel_102 ?_
              refine G_imul hX dX11_likeModel_104 ?_
              refine G_iconst hX (1 : Int32) rfl dX11_likeModel_105 ?_
              refine G_iadd hX dX11_likeModel_106 ?_
              refine G_aI hX atM6 dX11_likeModel_107 (fun x12 => ?_)
              refine G_aload_n hX 1 rfl rfl dX11_likeModel_108 ?_
              refine gf_X11_25_M0 hX dX11_likeModel_109 ?_
              refine G_iconst hX (3 : Int32) rfl dX11_likeModel_112 ?_
              refine G_iload_n hX 3 rfl rfl dX11_likeModel_113 ?_
              refine G_imul hX dX11_likeModel_114 ?_
              refine G_iconst hX (1 : Int32) rfl dX11_likeModel_115 ?_
              refine G_iadd hX dX11_likeModel_116 ?_
              refine G_aI hX atM6 dX11_likeModel_117 (fun x13 => ?_)
              refine G_cSi hX (fun ad adK => [.int x12, .int x13]) [.int r10] (fun z2 h2 => cX11_apart_ok (cx_l X) N x12 x13 μ z2 h2) ok_X11_apart lm_X11_389 rfl (fun _ _ => rfl) (Nat.le_of_ble_eq_true rfl) ⟨rfl, rfl, by decide, by decide⟩ (cs0 hcs) dX11_likeModel_118 (fun r14 μ => ?_)
              refine G_icmp_ge hX 128 (by decide) dX11_likeModel_121 ?_ ?_
              · refine G_iincN hX 7 (fun x15 => [(6, .int x15), (7, .int r10), (0, .ref (cx_ad X 0)), (1, .int v1), (2, .int v2), (3, .int v3), (4, .int v4), (5, .int v5)]) rfl rfl (by decide) (fun _ => rfl) dX11_likeModel_128 (fun x15 => ?_)
                refine G_goto hX 14 (by decide) dX11_likeModel_131 ?_
                exact G_sub [2, 3, 4, 5, 6, 7, 0] rfl (ih v1 v2 v3 v4 v5 x15 μ)
              · refine G_iload hX 7 rfl dX11_likeModel_124 ?_
                refine G_istore hX [(4, .int v6), (7, .int r10), (0, .ref (cx_ad X 0)), (1, .int v1), (2, .int v2), (3, .int v3), (5, .int v5), (6, .int v6)] (by decide) rfl dX11_likeModel_126 ?_
                refine G_iincN hX 7 (fun x16 => [(6, .int x16), (4, .int v6), (7, .int r10), (0, .ref (cx_ad X 0)), (1, .int v1), (2, .int v2), (3, .int v3), (5, .int v5)]) rfl rfl (by decide) (fun _ => rfl) dX11_likeModel_128 (fun x16 => ?_)
                refine G_goto hX 14 (by decide) dX11_likeModel_131 ?_
                exact G_sub [3, 4, 5, 6, 1, 7, 0] rfl (ih v1 v2 v3 v6 v5 x16 μ)
          · refine G_goto hX 128 (by decide) dX11_likeModel_60 ?_
            refine G_iincN hX 6 (fun x17 => [(6, .int x17), (0, .ref (cx_ad X 0)), (1, .int v1), (2, .int v2), (3, .int v3), (4, .int v4), (5, .int v5)]) rfl rfl (by decide) (fun _ => rfl) dX11_likeModel_128 (fun x17 => ?_)
            refine G_goto hX 14 (by decide) dX11_likeModel_131 ?_
            exact G_sub [1, 2, 3, 4, 5, 6, 0] rfl (ih v1 v2 v3 v4 v5 x17 μ)
set_option maxHeartbeats 4000000 in
set_option maxRecDepth 100000 in
theorem gX11_likeModel_E {X : Ctx} {z : Int32 × Mem} (hX : Fx wM X cX11_likeModel 8 RX11 (some .int) (rmo 3 72)) (hQ : Qx_i wM X z) (hcs : cx_cells X = 0 ∧ cx_slots X = 0) (N : Nat) (p0 : Int32) (p1 : Int32) (p2 : Int32) (μ : Mem) : G wM X z 0 [(0, .ref (cx_ad X 0)), (1, .int p0), (2, .int p1), (3, .int p2)] [] μ (fX11_likeModel N p0 p1 p2 μ) := by
  unfold fX11_likeModel
  refine G_iconst hX (-1 : Int32) rfl dX11_likeModel_0 ?_
  refine G_istore hX [(4, .int (-1 : Int32)), (0, .ref (cx_ad X 0)), (1, .int p0), (2, .int p1), (3, .int p2)] (by decide) rfl dX11_likeModel_1 ?_
  refine G_aload_n hX 1 rfl rfl dX11_likeModel_3 ?_
  refine G_iload_n hX 2 rfl rfl dX11_likeModel_4 ?_
  refine G_iload_n hX 3 rfl rfl dX11_likeModel_5 ?_
  refine G_cVi hX 0 11 (fun ad adK => [.int p0, .int p1]) [] (fun z2 h2 => cX11_costOf_ok (cx_l X) N p0 p1 μ z2 h2) ok_X11_costOf lm_X11_322 atM0.1 atM0.2 rfl rfl (fun _ _ => rfl) (Nat.le_of_ble_eq_true rfl) ⟨rfl, rfl, by decide, by decide⟩ (cs0 hcs) dX11_likeModel_6 (fun r1 μ => ?_)
  refine G_istore hX [(5, .int r1), (4, .int (-1 : Int32)), (0, .ref (cx_ad X 0)), (1, .int p0), (2, .int p1), (3, .int p2)] (by decide) rfl dX11_likeModel_9 ?_
  refine G_iconst hX (0 : Int32) rfl dX11_likeModel_11 ?_
  refine G_istore hX [(6, .int (0 : Int32)), (5, .int r1), (4, .int (-1 : Int32)), (0, .ref (cx_ad X 0)), (1, .int p0), (2, .int p1), (3, .int p2)] (by decide) rfl dX11_likeModel_12 ?_
  exact G_sub [3, 4, 5, 6, 2, 1, 0] rfl (gX11_likeModel_14 hX hQ hcs N N p0 p1 p2 (-1 : Int32) r1 (0 : Int32) μ)
theorem cX11_likeModel_ok (l : Launch) (N : Nat) (p0 : Int32) (p1 : Int32) (p2 : Int32) (μ : Mem) (z : Int32 × Mem) (h : fX11_likeModel N p0 p1 p2 μ = some z) : Mi wM l yX11_likeModel cX11_likeModel 8 .int (rmo 3 72) (fun ad adK => [.ref (ad 0), .int p0, .int p1, .int p2]) μ z := Mi.of h (by decide +kernel) (fun _ _ => Nat.le_of_ble_eq_true rfl) (fun X hX hQ hl hcs => gX11_likeModel_E hX hQ hcs N p0 p1 p2 μ)
/-! ===== DutyCaseModel.finds(III)V ===== -/
set_option maxHeartbeats 4000000 in
set_option maxRecDepth 100000 in
theorem gX11_finds_E {X : Ctx} {z : Unit × Mem} (hX : Fx wM X cX11_finds 4 RX11 none (rmo 6 138)) (hQ : Qx_v wM X z) (hcs : cx_cells X = 0 ∧ cx_slots X = 0) (N : Nat) (p0 : Int32) (p1 : Int32) (p2 : Int32) (μ : Mem) : G wM X z 0 [(0, .ref (cx_ad X 0)), (1, .int p0), (2, .int p1), (3, .int p2)] [] μ (fX11_finds N p0 p1 p2 μ) := by
  unfold fX11_finds
  refine G_aload_n hX 0 rfl rfl dX11_finds_0 ?_
  refine G_cVv hX 0 11 (fun ad adK => []) [] (fun z2 h2 => cX11_lays_ok (cx_l X) N μ z2 h2) ok_X11_lays lm_X11_367 atM0.1 atM0.2 rfl rfl (fun _ _ => rfl) (Nat.le_of_ble_eq_true rfl) ⟨rfl, rfl, by decide, by decide⟩ (cs0 hcs) dX11_finds_1 (fun μ => ?_)
  refine G_aload_n hX 0 rfl rfl dX11_finds_4 ?_
  refine G_iconst hX (1 : Int32) rfl dX11_finds_5 ?_
  refine pf_X11_395_M0 hX dX11_finds_6 (fun μ => ?_)
  refine G_aload_n hX 0 rfl rfl dX11_finds_9 ?_
  refine G_iload_n hX 2 rfl rfl dX11_finds_10 ?_
  refine pf_X11_398_M0 hX dX11_finds_11 (fun μ => ?_)
  refine G_aload_n hX 0 rfl rfl dX11_finds_14 ?_
  refine G_aload_n hX 0 rfl rfl dX11_finds_15 ?_
  refine G_iload_n hX 1 rfl rfl dX11_finds_16 ?_
  refine G_iload_n hX 2 rfl rfl dX11_finds_17 ?_
  refine G_iload_n hX 3 rfl rfl dX11_finds_18 ?_
  refine G_cVi hX 0 11 (fun ad adK => [.int p0, .int p1, .int p2]) [.ref (cx_ad X 0)] (fun z2 h2 => cX11_nearestLevel_ok (cx_l X) N p0 p1 p2 μ z2 h2) ok_X11_nearestLevel lm_X11_392 atM0.1 atM0.2 rfl rfl (fun _ _ => rfl) (Nat.le_of_ble_eq_true rfl) ⟨rfl, rfl, by decide, by decide⟩ (cs0 hcs) dX11_finds_19 (fun r1 μ => ?_)
  refine pf_X11_401_M0 hX dX11_finds_22 (fun μ => ?_)
  refine G_aload_n hX 0 rfl rfl dX11_finds_25 ?_
  refine gf_X11_401_M0 hX dX11_finds_26 ?_
  refine G_nmi (fun x2 => ?_)
  refine G_iconst hX (-1 : Int32) rfl dX11_finds_29 ?_
  refine G_icmp_eq hX 34 (by decide) dX11_finds_30 ?_ ?_
  · refine G_aload_n hX 0 rfl rfl dX11_finds_34 ?_
    refine G_iconst hX (2 : Int32) rfl dX11_finds_35 ?_
    refine pf_X11_395_M0 hX dX11_finds_36 (fun μ => ?_)
    refine G_aload_n hX 0 rfl rfl dX11_finds_39 ?_
    refine G_aload_n hX 0 rfl rfl dX11_finds_40 ?_
    refine G_iload_n hX 1 rfl rfl dX11_finds_41 ?_
    refine G_iload_n hX 2 rfl rfl dX11_finds_42 ?_
    refine G_iload_n hX 3 rfl rfl dX11_finds_43 ?_
    refine G_cVi hX 0 11 (fun ad adK => [.int p0, .int p1, .int p2]) [.ref (cx_ad X 0)] (fun z2 h2 => cX11_likeModel_ok (cx_l X) N p0 p1 p2 μ z2 h2) ok_X11_likeModel lm_X11_404 atM0.1 atM0.2 rfl rfl (fun _ _ => rfl) (Nat.le_of_ble_eq_true rfl) ⟨rfl, rfl, by decide, by decide⟩ (cs0 hcs) dX11_finds_44 (fun r3 μ => ?_)
    refine pf_X11_398_M0 hX dX11_finds_47 (fun μ => ?_)
    refine G_aload_n hX 0 rfl rfl dX11_finds_50 ?_
    refine gf_X11_398_M0 hX dX11_finds_51 ?_
    refine G_nmi (fun x4 => ?_)
    refine G_iconst hX (-1 : Int32) rfl dX11_finds_54 ?_
    refine G_icmp_eq hX 73 (by decide) dX11_finds_55 ?_ ?_
    · refine G_aload_n hX 0 rfl rfl dX11_finds_73 ?_
      refine G_iconst hX (3 : Int32) rfl dX11_finds_74 ?_
      refine pf_X11_395_M0 hX dX11_finds_75 (fun μ => ?_)
      exact G_vret hX hQ dX11_finds_78
    · refine G_aload_n hX 0 rfl rfl dX11_finds_58 ?_
      refine G_aload_n hX 0 rfl rfl dX11_finds_59 ?_
      refine G_iload_n hX 1 rfl rfl dX11_finds_60 ?_
      refine G_aload_n hX 0 rfl rfl dX11_finds_61 ?_
      refine gf_X11_398_M0 hX dX11_finds_62 ?_
      refine G_nmi (fun x5 => ?_)
      refine G_iload_n hX 3 rfl rfl dX11_finds_65 ?_
      refine G_cVi hX 0 11 (fun ad adK => [.int p0, .int x5, .int p2]) [.ref (cx_ad X 0)] (fun z2 h2 => cX11_nearestLevel_ok (cx_l X) N p0 x5 p2 μ z2 h2) ok_X11_nearestLevel lm_X11_392 atM0.1 atM0.2 rfl rfl (fun _ _ => rfl) (Nat.le_of_ble_eq_true rfl) ⟨rfl, rfl, by decide, by decide⟩ (cs0 hcs) dX11_finds_66 (fun r6 μ => ?_)
      refine pf_X11_401_M0 hX dX11_finds_69 (fun μ => ?_)
      exact G_vret hX hQ dX11_finds_72
  · exact G_vret hX hQ dX11_finds_33
theorem cX11_finds_ok (l : Launch) (N : Nat) (p0 : Int32) (p1 : Int32) (p2 : Int32) (μ : Mem) (z : Unit × Mem) (h : fX11_finds N p0 p1 p2 μ = some z) : Mv wM l yX11_finds cX11_finds 4 (rmo 6 138) (fun ad adK => [.ref (ad 0), .int p0, .int p1, .int p2]) μ z := Mv.of h (by decide +kernel) (fun _ _ => Nat.le_of_ble_eq_true rfl) (fun X hX hQ hl hcs => gX11_finds_E hX hQ hcs N p0 p1 p2 μ)
/-! ===== DutyCaseModel.averageIn(IIII)J ===== -/
set_option maxHeartbeats 4000000 in
set_option maxRecDepth 100000 in
theorem gX11_averageIn_106 {X : Ctx} {z : Int64 × Mem} (hX : Fx wM X cX11_averageIn 10 RX11 (some .long) (rmo 2 45)) (hQ : Qx_l wM X z) (hcs : cx_cells X = 0 ∧ cx_slots X = 0) (N : Nat) (v5 : Int64) (v7 : Int64) (μ : Mem) : G wM X z 106 [(5, .long v5), (7, .long v7)] [] μ (fX11_averageIn_106 N v5 v7 μ) := by
  unfold fX11_averageIn_106
  refine G_lload hX 1 rfl dX11_averageIn_106 ?_
  refine G_lconst hX (0 : Int64) rfl dX11_averageIn_108 ?_
  refine G_lcmp hX dX11_averageIn_109 ?_
  refine G_if_ne hX 119 (by decide) dX11_averageIn_110 ?_ ?_
  · refine G_ldc2 hX lc_X11_409 dX11_averageIn_119 ?_
    refine G_lload hX 0 rfl dX11_averageIn_122 ?_
    refine G_lmul hX dX11_averageIn_124 ?_
    refine G_lload hX 1 rfl dX11_averageIn_125 ?_
    refine G_ldv hX dX11_averageIn_127 ?_
    exact G_lret hX hQ dX11_averageIn_128
  · refine G_ldc2 hX lc_X11_407 dX11_averageIn_113 ?_
    refine G_goto hX 128 (by decide) dX11_averageIn_116 ?_
    exact G_lret hX hQ dX11_averageIn_128
set_option maxHeartbeats 4000000 in
set_option maxRecDepth 100000 in
theorem gX11_averageIn_65 {X : Ctx} {z : Int64 × Mem} (hX : Fx wM X cX11_averageIn 10 RX11 (some .long) (rmo 2 45)) (hQ : Qx_l wM X z) (hcs : cx_cells X = 0 ∧ cx_slots X = 0) (N : Nat) (k9 : Int32 → Int32 → Int32 → Int32 → Int64 → Int64 → Int32 → Mem → Option (Int64 × Mem)) (hk9 : ∀ (v1 : Int32) (v2 : Int32) (v3 : Int32) (v4 : Int32) (v5 : Int64) (v7 : Int64) (v9 : Int32) (μ : Mem), G wM X z 9 [(0, .ref (cx_ad X 0)), (1, .int v1), (2, .int v2), (3, .int v3), (4, .int v4), (5, .long v5), (7, .long v7), (9, .int v9)] [] μ (k9 v1 v2 v3 v4 v5 v7 v9 μ)) (v1 : Int32) (v2 : Int32) (v3 : Int32) (v4 : Int32) (v5 : Int64) (v7 : Int64) (v9 : Int32) (μ : Mem) : G wM X z 65 [(0, .ref (cx_ad X 0)), (1, .int v1), (2, .int v2), (3, .int v3), (4, .int v4), (5, .long v5), (7, .long v7), (9, .int v9)] [] μ (fX11_averageIn_65 N k9 v1 v2 v3 v4 v5 v7 v9 μ) := by
  unfold fX11_averageIn_65
  refine G_lload hX 5 rfl dX11_averageIn_65 ?_
  refine G_aload_n hX 0 rfl rfl dX11_averageIn_67 ?_
  refine gf_X11_69_M0 hX dX11_averageIn_68 ?_
  refine G_iload hX 7 rfl dX11_averageIn_71 ?_
  refine G_aI hX atM19 dX11_averageIn_73 (fun x8 => ?_)
  refine G_i2l hX dX11_averageIn_74 ?_
  refine G_aload_n hX 0 rfl rfl dX11_averageIn_75 ?_
  refine G_iload hX 7 rfl dX11_averageIn_76 ?_
  refine G_iconst hX (5 : Int32) rfl dX11_averageIn_78 ?_
  refine G_cVi hX 0 11 (fun ad adK => [.int v9, .int (5 : Int32)]) [.long x8.toInt64, .long v5] (fun z2 h2 => cX11_of_ok (cx_l X) N v9 (5 : Int32) μ z2 h2) ok_X11_of lm_X11_305 atM0.1 atM0.2 rfl rfl (fun _ _ => rfl) (Nat.le_of_ble_eq_true rfl) ⟨rfl, rfl, by decide, by decide⟩ (cs0 hcs) dX11_averageIn_79 (fun r9 μ => ?_)
  refine G_i2l hX dX11_averageIn_82 ?_
  refine G_lmul hX dX11_averageIn_83 ?_
  refine G_ladd hX dX11_averageIn_84 ?_
  refine G_nml (fun x10 => ?_)
  refine G_lstore hX [(5, .long x10), (0, .ref (cx_ad X 0)), (1, .int v1), (2, .int v2), (3, .int v3), (4, .int v4), (7, .long v7), (9, .int v9)] (by decide) rfl dX11_averageIn_85 ?_
  refine G_lload hX 6 rfl dX11_averageIn_87 ?_
  refine G_aload_n hX 1 rfl rfl dX11_averageIn_89 ?_
  refine G_iload hX 7 rfl dX11_averageIn_90 ?_
  refine G_iconst hX (5 : Int32) rfl dX11_averageIn_92 ?_
  refine G_cVi hX 0 11 (fun ad adK => [.int v9, .int (5 : Int32)]) [.long v7] (fun z2 h2 => cX11_of_ok (cx_l X) N v9 (5 : Int32) μ z2 h2) ok_X11_of lm_X11_305 atM0.1 atM0.2 rfl rfl (fun _ _ => rfl) (Nat.le_of_ble_eq_true rfl) ⟨rfl, rfl, by decide, by decide⟩ (cs0 hcs) dX11_averageIn_93 (fun r11 μ => ?_)
  refine G_i2l hX dX11_averageIn_96 ?_
  refine G_ladd hX dX11_averageIn_97 ?_
  refine G_nml (fun x12 => ?_)
  refine G_lstore hX [(7, .long x12), (5, .long x10), (0, .ref (cx_ad X 0)), (1, .int v1), (2, .int v2), (3, .int v3), (4, .int v4), (9, .int v9)] (by decide) rfl dX11_averageIn_98 ?_
  refine G_iincN hX 7 (fun x13 => [(9, .int x13), (7, .long x12), (5, .long x10), (0, .ref (cx_ad X 0)), (1, .int v1), (2, .int v2), (3, .int v3), (4, .int v4)]) rfl rfl (by decide) (fun _ => rfl) dX11_averageIn_100 (fun x13 => ?_)
  refine G_goto hX 9 (by decide) dX11_averageIn_103 ?_
  exact G_sub [3, 4, 5, 6, 7, 2, 1, 0] rfl (hk9 v1 v2 v3 v4 x10 x12 x13 μ)
set_option maxHeartbeats 4000000 in
set_option maxRecDepth 100000 in
theorem gX11_averageIn_9 {X : Ctx} {z : Int64 × Mem} (hX : Fx wM X cX11_averageIn 10 RX11 (some .long) (rmo 2 45)) (hQ : Qx_l wM X z) (hcs : cx_cells X = 0 ∧ cx_slots X = 0) (N : Nat) : ∀ (n : Nat) (v1 : Int32) (v2 : Int32) (v3 : Int32) (v4 : Int32) (v5 : Int64) (v7 : Int64) (v9 : Int32) (μ : Mem), G wM X z 9 [(0, .ref (cx_ad X 0)), (1, .int v1), (2, .int v2), (3, .int v3), (4, .int v4), (5, .long v5), (7, .long v7), (9, .int v9)] [] μ (fX11_averageIn_9 N n v1 v2 v3 v4 v5 v7 v9 μ) := by
  intro n
  induction n with
  | zero =>
    intro v1 v2 v3 v4 v5 v7 v9 μ
    exact G_none
  | succ n ih =>
    intro v1 v2 v3 v4 v5 v7 v9 μ
    unfold fX11_averageIn_9
    refine G_iload hX 7 rfl dX11_averageIn_9 ?_
    refine G_aload_n hX 0 rfl rfl dX11_averageIn_11 ?_
    refine gf_X11_7_M0 hX dX11_averageIn_12 ?_
    refine G_bipush hX (34 : Int32) rfl dX11_averageIn_15 ?_
    refine G_aI hX atM1 dX11_averageIn_17 (fun x1 => ?_)
    refine G_icmp_ge hX 106 (by decide) dX11_averageIn_18 ?_ ?_
    · exact G_sub [5, 6] rfl (gX11_averageIn_106 hX hQ hcs N v5 v7 μ)
    · refine G_aload_n hX 0 rfl rfl dX11_averageIn_21 ?_
      refine G_iload hX 7 rfl dX11_averageIn_22 ?_
      refine G_iload_n hX 1 rfl rfl dX11_averageIn_24 ?_
      refine G_iload_n hX 2 rfl rfl dX11_averageIn_25 ?_
      refine G_cVi hX 0 11 (fun ad adK => [.int v9, .int v1, .int v2]) [] (fun z2 h2 => cX11_isOf_ok (cx_l X) N v9 v1 v2 μ z2 h2) ok_X11_isOf lm_X11_385 atM0.1 atM0.2 rfl rfl (fun _ _ => rfl) (Nat.le_of_ble_eq_true rfl) ⟨rfl, rfl, by decide, by decide⟩ (cs0 hcs) dX11_averageIn_26 (fun r2 μ => ?_)
      refine G_if_eq hX 100 (by decide) dX11_averageIn_29 ?_ ?_
      · refine G_iincN hX 7 (fun x3 => [(9, .int x3), (0, .ref (cx_ad X 0)), (1, .int v1), (2, .int v2), (3, .int v3), (4, .int v4), (5, .long v5), (7, .long v7)]) rfl rfl (by decide) (fun _ => rfl) dX11_averageIn_100 (fun x3 => ?_)
        refine G_goto hX 9 (by decide) dX11_averageIn_103 ?_
        exact G_sub [1, 2, 3, 4, 5, 6, 7, 0] rfl (ih v1 v2 v3 v4 v5 v7 x3 μ)
      · refine G_aload_n hX 0 rfl rfl dX11_averageIn_32 ?_
        refine G_iload hX 7 rfl dX11_averageIn_33 ?_
        refine G_iconst hX (3 : Int32) rfl dX11_averageIn_35 ?_
        refine G_cVi hX 0 11 (fun ad adK => [.int v9, .int (3 : Int32)]) [] (fun z2 h2 => cX11_of_ok (cx_l X) N v9 (3 : Int32) μ z2 h2) ok_X11_of lm_X11_305 atM0.1 atM0.2 rfl rfl (fun _ _ => rfl) (Nat.le_of_ble_eq_true rfl) ⟨rfl, rfl, by decide, by decide⟩ (cs0 hcs) dX11_averageIn_36 (fun r4 μ => ?_)
        refine G_iload_n hX 3 rfl rfl dX11_averageIn_39 ?_
        refine G_icmp_ne hX 100 (by decide) dX11_averageIn_40 ?_ ?_
        · refine G_iincN hX 7 (fun x5 => [(9, .int x5), (0, .ref (cx_ad X 0)), (1, .int v1), (2, .int v2), (3, .int v3), (4, .int v4), (5, .long v5), (7, .long v7)]) rfl rfl (by decide) (fun _ => rfl) dX11_averageIn_100 (fun x5 => ?_)
          refine G_goto hX 9 (by decide) dX11_averageIn_103 ?_
          exact G_sub [1, 2, 3, 4, 5, 6, 7, 0] rfl (ih v1 v2 v3 v4 v5 v7 x5 μ)
        · refine G_iload hX 4 rfl dX11_averageIn_43 ?_
          refine G_bipush hX (-2 : Int32) rfl dX11_averageIn_45 ?_
          refine G_icmp_eq hX 65 (by decide) dX11_averageIn_47 ?_ ?_
          · exact G_sub [0, 1, 2, 3, 4, 5, 6, 7] rfl (gX11_averageIn_65 hX hQ hcs N (fun v1 v2 v3 v4 v5 v7 v9 μ => fX11_averageIn_9 N n v1 v2 v3 v4 v5 v7 v9 μ) (fun v1 v2 v3 v4 v5 v7 v9  μ => ih v1 v2 v3 v4 v5 v7 v9  μ) v1 v2 v3 v4 v5 v7 v9 μ)
          · refine G_aload_n hX 0 rfl rfl dX11_averageIn_50 ?_
            refine G_iload hX 7 rfl dX11_averageIn_51 ?_
            refine G_iconst hX (4 : Int32) rfl dX11_averageIn_53 ?_
            refine G_cVi hX 0 11 (fun ad adK => [.int v9, .int (4 : Int32)]) [] (fun z2 h2 => cX11_of_ok (cx_l X) N v9 (4 : Int32) μ z2 h2) ok_X11_of lm_X11_305 atM0.1 atM0.2 rfl rfl (fun _ _ => rfl) (Nat.le_of_ble_eq_true rfl) ⟨rfl, rfl, by decide, by decide⟩ (cs0 hcs) dX11_averageIn_54 (fun r6 μ => ?_)
            refine G_iload hX 4 rfl dX11_averageIn_57 ?_
            refine G_icmp_eq hX 65 (by decide) dX11_averageIn_59 ?_ ?_
            · exact G_sub [0, 1, 2, 3, 4, 5, 6, 7] rfl (gX11_averageIn_65 hX hQ hcs N (fun v1 v2 v3 v4 v5 v7 v9 μ => fX11_averageIn_9 N n v1 v2 v3 v4 v5 v7 v9 μ) (fun v1 v2 v3 v4 v5 v7 v9  μ => ih v1 v2 v3 v4 v5 v7 v9  μ) v1 v2 v3 v4 v5 v7 v9 μ)
            · refine G_goto hX 100 (by decide) dX11_averageIn_62 ?_
              refine G_iincN hX 7 (fun x7 => [(9, .int x7), (0, .ref (cx_ad X 0)), (1, .int v1), (2, .int v2), (3, .int v3), (4, .int v4), (5, .long v5), (7, .long v7)]) rfl rfl (by decide) (fun _ => rfl) dX11_averageIn_100 (fun x7 => ?_)
              refine G_goto hX 9 (by decide) dX11_averageIn_103 ?_
              exact G_sub [1, 2, 3, 4, 5, 6, 7, 0] rfl (ih v1 v2 v3 v4 v5 v7 x7 μ)
set_option maxHeartbeats 4000000 in
set_option maxRecDepth 100000 in
theorem gX11_averageIn_E {X : Ctx} {z : Int64 × Mem} (hX : Fx wM X cX11_averageIn 10 RX11 (some .long) (rmo 2 45)) (hQ : Qx_l wM X z) (hcs : cx_cells X = 0 ∧ cx_slots X = 0) (N : Nat) (p0 : Int32) (p1 : Int32) (p2 : Int32) (p3 : Int32) (μ : Mem) : G wM X z 0 [(0, .ref (cx_ad X 0)), (1, .int p0), (2, .int p1), (3, .int p2), (4, .int p3)] [] μ (fX11_averageIn N p0 p1 p2 p3 μ) := by
  unfold fX11_averageIn
  refine G_lconst hX (0 : Int64) rfl dX11_averageIn_0 ?_
  refine G_lstore hX [(5, .long (0 : Int64)), (0, .ref (cx_ad X 0)), (1, .int p0), (2, .int p1), (3, .int p2), (4, .int p3)] (by decide) rfl dX11_averageIn_1 ?_
  refine G_lconst hX (0 : Int64) rfl dX11_averageIn_3 ?_
  refine G_lstore hX [(7, .long (0 : Int64)), (5, .long (0 : Int64)), (0, .ref (cx_ad X 0)), (1, .int p0), (2, .int p1), (3, .int p2), (4, .int p3)] (by decide) rfl dX11_averageIn_4 ?_
  refine G_iconst hX (0 : Int32) rfl dX11_averageIn_6 ?_
  refine G_istore hX [(9, .int (0 : Int32)), (7, .long (0 : Int64)), (5, .long (0 : Int64)), (0, .ref (cx_ad X 0)), (1, .int p0), (2, .int p1), (3, .int p2), (4, .int p3)] (by decide) rfl dX11_averageIn_7 ?_
  exact G_sub [3, 4, 5, 6, 7, 2, 1, 0] rfl (gX11_averageIn_9 hX hQ hcs N N p0 p1 p2 p3 (0 : Int64) (0 : Int64) (0 : Int32) μ)
theorem cX11_averageIn_ok (l : Launch) (N : Nat) (p0 : Int32) (p1 : Int32) (p2 : Int32) (p3 : Int32) (μ : Mem) (z : Int64 × Mem) (h : fX11_averageIn N p0 p1 p2 p3 μ = some z) : Ml wM l yX11_averageIn cX11_averageIn 10 .long (rmo 2 45) (fun ad adK => [.ref (ad 0), .int p0, .int p1, .int p2, .int p3]) μ z := Ml.of h (by decide +kernel) (fun _ _ => Nat.le_of_ble_eq_true rfl) (fun X hX hQ hl hcs => gX11_averageIn_E hX hQ hcs N p0 p1 p2 p3 μ)
/-! ===== DutyCaseModel.worthOf(IIII)J ===== -/
set_option maxHeartbeats 4000000 in
set_option maxRecDepth 100000 in
theorem gX11_worthOf_156 {X : Ctx} {z : Int64 × Mem} (hX : Fx wM X cX11_worthOf 8 RX11 (some .long) (rmo 7 161)) (hQ : Qx_l wM X z) (hcs : cx_cells X = 0 ∧ cx_slots X = 0) (N : Nat) (s0 : Int64) (s1 : Int64) (μ : Mem) : G wM X z 156 [] [.long s0, .long s1] μ (fX11_worthOf_156 N s0 s1 μ) := by
  unfold fX11_worthOf_156
  refine G_ladd hX dX11_worthOf_156 ?_
  refine G_nml (fun x16 => ?_)
  refine G_lstore hX [(6, .long x16)] (by decide) rfl dX11_worthOf_157 ?_
  refine G_lload hX 0 rfl dX11_worthOf_159 ?_
  refine G_lconst hX (0 : Int64) rfl dX11_worthOf_161 ?_
  refine G_lcmp hX dX11_worthOf_162 ?_
  refine G_if_ge hX 170 (by decide) dX11_worthOf_163 ?_ ?_
  · refine G_lload hX 0 rfl dX11_worthOf_170 ?_
    exact G_lret hX hQ dX11_worthOf_172
  · refine G_lconst hX (0 : Int64) rfl dX11_worthOf_166 ?_
    refine G_goto hX 172 (by decide) dX11_worthOf_167 ?_
    exact G_lret hX hQ dX11_worthOf_172
set_option maxHeartbeats 4000000 in
set_option maxRecDepth 100000 in
theorem gX11_worthOf_100 {X : Ctx} {z : Int64 × Mem} (hX : Fx wM X cX11_worthOf 8 RX11 (some .long) (rmo 7 161)) (hQ : Qx_l wM X z) (hcs : cx_cells X = 0 ∧ cx_slots X = 0) (N : Nat) (v1 : Int32) (v3 : Int32) (v5 : Int32) (v6 : Int64) (μ : Mem) : G wM X z 100 [(0, .ref (cx_ad X 0)), (1, .int v1), (3, .int v3), (5, .int v5), (6, .long v6)] [] μ (fX11_worthOf_100 N v1 v3 v5 v6 μ) := by
  unfold fX11_worthOf_100
  refine G_lload hX 4 rfl dX11_worthOf_100 ?_
  refine G_ldc2 hX lc_X11_409 dX11_worthOf_102 ?_
  refine G_aload_n hX 0 rfl rfl dX11_worthOf_105 ?_
  refine gf_X11_7_M0 hX dX11_worthOf_106 ?_
  refine G_bipush hX (33 : Int32) rfl dX11_worthOf_109 ?_
  refine G_aI hX atM1 dX11_worthOf_111 (fun x10 => ?_)
  refine G_i2l hX dX11_worthOf_112 ?_
  refine G_lmul hX dX11_worthOf_113 ?_
  refine G_iload_n hX 2 rfl rfl dX11_worthOf_114 ?_
  refine G_aload_n hX 0 rfl rfl dX11_worthOf_115 ?_
  refine gf_X11_401_M0 hX dX11_worthOf_116 ?_
  refine G_nmi (fun x11 => ?_)
  refine G_isub hX dX11_worthOf_119 ?_
  refine G_i2l hX dX11_worthOf_120 ?_
  refine G_lmul hX dX11_worthOf_121 ?_
  refine G_ladd hX dX11_worthOf_122 ?_
  refine G_nml (fun x12 => ?_)
  refine G_lstore hX [(6, .long x12), (0, .ref (cx_ad X 0)), (1, .int v1), (3, .int v3), (5, .int v5)] (by decide) rfl dX11_worthOf_123 ?_
  refine G_lload hX 0 rfl dX11_worthOf_125 ?_
  refine G_aload_n hX 1 rfl rfl dX11_worthOf_127 ?_
  refine gf_X11_395_M0 hX dX11_worthOf_128 ?_
  refine G_nmi (fun x13 => ?_)
  refine G_iconst hX (2 : Int32) rfl dX11_worthOf_131 ?_
  refine G_icmp_ne hX 155 (by decide) dX11_worthOf_132 ?_ ?_
  · refine G_lconst hX (0 : Int64) rfl dX11_worthOf_155 ?_
    exact G_sub [] rfl (gX11_worthOf_156 hX hQ hcs N (0 : Int64) x12 μ)
  · refine G_ldc2 hX lc_X11_409 dX11_worthOf_135 ?_
    refine G_iload hX 4 rfl dX11_worthOf_138 ?_
    refine G_aload_n hX 1 rfl rfl dX11_worthOf_140 ?_
    refine G_iload_n hX 2 rfl rfl dX11_worthOf_141 ?_
    refine G_aload_n hX 1 rfl rfl dX11_worthOf_142 ?_
    refine gf_X11_398_M0 hX dX11_worthOf_143 ?_
    refine G_nmi (fun x14 => ?_)
    refine G_cVi hX 0 11 (fun ad adK => [.int v1, .int x14]) [.int v5, .long (1000 : Int64), .long x12] (fun z2 h2 => cX11_costOf_ok (cx_l X) N v1 x14 μ z2 h2) ok_X11_costOf lm_X11_322 atM0.1 atM0.2 rfl rfl (fun _ _ => rfl) (Nat.le_of_ble_eq_true rfl) ⟨rfl, rfl, by decide, by decide⟩ (cs0 hcs) dX11_worthOf_146 (fun r15 μ => ?_)
    refine G_isub hX dX11_worthOf_149 ?_
    refine G_i2l hX dX11_worthOf_150 ?_
    refine G_lmul hX dX11_worthOf_151 ?_
    refine G_goto hX 156 (by decide) dX11_worthOf_152 ?_
    exact G_sub [] rfl (gX11_worthOf_156 hX hQ hcs N ((1000 : Int64) * ((v5 - r15).toInt64)) x12 μ)
set_option maxHeartbeats 4000000 in
set_option maxRecDepth 100000 in
theorem gX11_worthOf_72 {X : Ctx} {z : Int64 × Mem} (hX : Fx wM X cX11_worthOf 8 RX11 (some .long) (rmo 7 161)) (hQ : Qx_l wM X z) (hcs : cx_cells X = 0 ∧ cx_slots X = 0) (N : Nat) (v1 : Int32) (v3 : Int32) (v5 : Int32) (s0 : Int64) (μ : Mem) : G wM X z 72 [(0, .ref (cx_ad X 0)), (1, .int v1), (3, .int v3), (5, .int v5)] [.long s0] μ (fX11_worthOf_72 N v1 v3 v5 s0 μ) := by
  unfold fX11_worthOf_72
  refine G_lstore hX [(6, .long s0), (0, .ref (cx_ad X 0)), (1, .int v1), (3, .int v3), (5, .int v5)] (by decide) rfl dX11_worthOf_72 ?_
  refine G_lload hX 0 rfl dX11_worthOf_74 ?_
  refine G_ldc2 hX lc_X11_407 dX11_worthOf_76 ?_
  refine G_lcmp hX dX11_worthOf_79 ?_
  refine G_if_ne hX 100 (by decide) dX11_worthOf_80 ?_ ?_
  · exact G_sub [1, 2, 3, 4, 0] rfl (gX11_worthOf_100 hX hQ hcs N v1 v3 v5 s0 μ)
  · refine G_aload_n hX 1 rfl rfl dX11_worthOf_83 ?_
    refine G_iload_n hX 2 rfl rfl dX11_worthOf_84 ?_
    refine G_aload_n hX 1 rfl rfl dX11_worthOf_85 ?_
    refine gf_X11_398_M0 hX dX11_worthOf_86 ?_
    refine G_nmi (fun x7 => ?_)
    refine G_aload_n hX 1 rfl rfl dX11_worthOf_89 ?_
    refine gf_X11_401_M0 hX dX11_worthOf_90 ?_
    refine G_nmi (fun x8 => ?_)
    refine G_bipush hX (-2 : Int32) rfl dX11_worthOf_93 ?_
    refine G_cVl hX 0 11 (fun ad adK => [.int v1, .int x7, .int x8, .int (-2 : Int32)]) [] (fun z2 h2 => cX11_averageIn_ok (cx_l X) N v1 x7 x8 (-2 : Int32) μ z2 h2) ok_X11_averageIn lm_X11_415 atM0.1 atM0.2 rfl rfl (fun _ _ => rfl) (Nat.le_of_ble_eq_true rfl) ⟨rfl, rfl, by decide, by decide⟩ (cs0 hcs) dX11_worthOf_95 (fun r9 μ => ?_)
    refine G_lstore hX [(6, .long r9), (0, .ref (cx_ad X 0)), (1, .int v1), (3, .int v3), (5, .int v5)] (by decide) rfl dX11_worthOf_98 ?_
    exact G_sub [1, 2, 3, 4, 0] rfl (gX11_worthOf_100 hX hQ hcs N v1 v3 v5 r9 μ)
set_option maxHeartbeats 4000000 in
set_option maxRecDepth 100000 in
theorem gX11_worthOf_E {X : Ctx} {z : Int64 × Mem} (hX : Fx wM X cX11_worthOf 8 RX11 (some .long) (rmo 7 161)) (hQ : Qx_l wM X z) (hcs : cx_cells X = 0 ∧ cx_slots X = 0) (N : Nat) (p0 : Int32) (p1 : Int32) (p2 : Int32) (p3 : Int32) (μ : Mem) : G wM X z 0 [(0, .ref (cx_ad X 0)), (1, .int p0), (2, .int p1), (3, .int p2), (4, .int p3)] [] μ (fX11_worthOf N p0 p1 p2 p3 μ) := by
  unfold fX11_worthOf
  refine G_aload_n hX 0 rfl rfl dX11_worthOf_0 ?_
  refine G_iload_n hX 1 rfl rfl dX11_worthOf_1 ?_
  refine G_iload_n hX 2 rfl rfl dX11_worthOf_2 ?_
  refine G_iload_n hX 3 rfl rfl dX11_worthOf_3 ?_
  refine G_cVv hX 0 11 (fun ad adK => [.int p0, .int p1, .int p2]) [] (fun z2 h2 => cX11_finds_ok (cx_l X) N p0 p1 p2 μ z2 h2) ok_X11_finds lm_X11_411 atM0.1 atM0.2 rfl rfl (fun _ _ => rfl) (Nat.le_of_ble_eq_true rfl) ⟨rfl, rfl, by decide, by decide⟩ (cs0 hcs) dX11_worthOf_4 (fun μ => ?_)
  refine G_aload_n hX 0 rfl rfl dX11_worthOf_7 ?_
  refine G_iload_n hX 1 rfl rfl dX11_worthOf_8 ?_
  refine G_iload_n hX 2 rfl rfl dX11_worthOf_9 ?_
  refine G_cVi hX 0 11 (fun ad adK => [.int p0, .int p1]) [] (fun z2 h2 => cX11_costOf_ok (cx_l X) N p0 p1 μ z2 h2) ok_X11_costOf lm_X11_322 atM0.1 atM0.2 rfl rfl (fun _ _ => rfl) (Nat.le_of_ble_eq_true rfl) ⟨rfl, rfl, by decide, by decide⟩ (cs0 hcs) dX11_worthOf_10 (fun r1 μ => ?_)
  refine G_istore hX [(5, .int r1), (0, .ref (cx_ad X 0)), (1, .int p0), (2, .int p1), (3, .int p2), (4, .int p3)] (by decide) rfl dX11_worthOf_13 ?_
  refine G_aload_n hX 1 rfl rfl dX11_worthOf_15 ?_
  refine gf_X11_395_M0 hX dX11_worthOf_16 ?_
  refine G_nmi (fun x2 => ?_)
  refine G_iconst hX (3 : Int32) rfl dX11_worthOf_19 ?_
  refine G_icmp_ne hX 45 (by decide) dX11_worthOf_20 ?_ ?_
  · refine G_iload hX 5 rfl dX11_worthOf_45 ?_
    refine G_iconst hX (-1 : Int32) rfl dX11_worthOf_47 ?_
    refine G_icmp_ne hX 57 (by decide) dX11_worthOf_48 ?_ ?_
    · refine G_aload_n hX 1 rfl rfl dX11_worthOf_57 ?_
      refine G_iload_n hX 2 rfl rfl dX11_worthOf_58 ?_
      refine G_aload_n hX 1 rfl rfl dX11_worthOf_59 ?_
      refine gf_X11_398_M0 hX dX11_worthOf_60 ?_
      refine G_nmi (fun x3 => ?_)
      refine G_aload_n hX 1 rfl rfl dX11_worthOf_63 ?_
      refine gf_X11_401_M0 hX dX11_worthOf_64 ?_
      refine G_nmi (fun x4 => ?_)
      refine G_iload hX 5 rfl dX11_worthOf_67 ?_
      refine G_cVl hX 0 11 (fun ad adK => [.int p0, .int x3, .int x4, .int p3]) [] (fun z2 h2 => cX11_averageIn_ok (cx_l X) N p0 x3 x4 p3 μ z2 h2) ok_X11_averageIn lm_X11_415 atM0.1 atM0.2 rfl rfl (fun _ _ => rfl) (Nat.le_of_ble_eq_true rfl) ⟨rfl, rfl, by decide, by decide⟩ (cs0 hcs) dX11_worthOf_69 (fun r5 μ => ?_)
      exact G_sub [1, 2, 4, 0] rfl (gX11_worthOf_72 hX hQ hcs N p0 p2 r1 r5 μ)
    · refine G_ldc2 hX lc_X11_407 dX11_worthOf_51 ?_
      refine G_goto hX 72 (by decide) dX11_worthOf_54 ?_
      exact G_sub [1, 2, 4, 0] rfl (gX11_worthOf_72 hX hQ hcs N p0 p2 r1 (-1 : Int64) μ)
  · refine G_ldc2 hX lc_X11_409 dX11_worthOf_23 ?_
    refine G_iload hX 0 rfl dX11_worthOf_26 ?_
    refine G_iload hX 0 rfl dX11_worthOf_28 ?_
    refine G_aload_n hX 1 rfl rfl dX11_worthOf_30 ?_
    refine gf_X11_7_M0 hX dX11_worthOf_31 ?_
    refine G_bipush hX (32 : Int32) rfl dX11_worthOf_34 ?_
    refine G_aI hX atM1 dX11_worthOf_36 (fun x6 => ?_)
    refine G_imul hX dX11_worthOf_37 ?_
    refine G_bipush hX (100 : Int32) rfl dX11_worthOf_38 ?_
    refine G_idiv0 hX (by decide) dX11_worthOf_40 ?_
    refine G_iadd hX dX11_worthOf_41 ?_
    refine G_i2l hX dX11_worthOf_42 ?_
    refine G_lmul hX dX11_worthOf_43 ?_
    exact G_lret hX hQ dX11_worthOf_44
theorem cX11_worthOf_ok (l : Launch) (N : Nat) (p0 : Int32) (p1 : Int32) (p2 : Int32) (p3 : Int32) (μ : Mem) (z : Int64 × Mem) (h : fX11_worthOf N p0 p1 p2 p3 μ = some z) : Ml wM l yX11_worthOf cX11_worthOf 8 .long (rmo 7 161) (fun ad adK => [.ref (ad 0), .int p0, .int p1, .int p2, .int p3]) μ z := Ml.of h (by decide +kernel) (fun _ _ => Nat.le_of_ble_eq_true rfl) (fun X hX hQ hl hcs => gX11_worthOf_E hX hQ hcs N p0 p1 p2 p3 μ)
/-! ===== DutyCaseModel.worth(IIII)J ===== -/
set_option maxHeartbeats 4000000 in
set_option maxRecDepth 100000 in
theorem gX11_worth_53 {X : Ctx} {z : Int64 × Mem} (hX : Fx wM X cX11_worth 5 RX11 (some .long) (rmo 8 188)) (hQ : Qx_l wM X z) (hcs : cx_cells X = 0 ∧ cx_slots X = 0) (N : Nat) (v1 : Int32) (v2 : Int32) (v3 : Int32) (v4 : Int32) (s0 : Int32) (μ : Mem) : G wM X z 53 [(0, .ref (cx_ad X 0)), (1, .int v1), (2, .int v2), (3, .int v3), (4, .int v4)] [.int s0, .ref (cx_ad X 0)] μ (fX11_worth_53 N v1 v2 v3 v4 s0 μ) := by
  unfold fX11_worth_53
  refine pf_X11_104_M0 hX dX11_worth_53 (fun μ => ?_)
  refine G_aload_n hX 0 rfl rfl dX11_worth_56 ?_
  refine gf_X11_104_M0 hX dX11_worth_57 ?_
  refine G_nmi (fun x5 => ?_)
  refine G_if_le hX 67 (by decide) dX11_worth_60 ?_ ?_
  · refine G_aload_n hX 0 rfl rfl dX11_worth_67 ?_
    refine G_iload_n hX 1 rfl rfl dX11_worth_68 ?_
    refine G_iload_n hX 2 rfl rfl dX11_worth_69 ?_
    refine G_iload_n hX 3 rfl rfl dX11_worth_70 ?_
    refine G_iload hX 4 rfl dX11_worth_71 ?_
    refine G_cVl hX 0 11 (fun ad adK => [.int v1, .int v2, .int v3, .int v4]) [] (fun z2 h2 => cX11_worthOf_ok (cx_l X) N v1 v2 v3 v4 μ z2 h2) ok_X11_worthOf lm_X11_419 atM0.1 atM0.2 rfl rfl (fun _ _ => rfl) (Nat.le_of_ble_eq_true rfl) ⟨rfl, rfl, by decide, by decide⟩ (cs0 hcs) dX11_worth_73 (fun r6 μ => ?_)
    exact G_lret hX hQ dX11_worth_76
  · refine G_lconst hX (0 : Int64) rfl dX11_worth_63 ?_
    refine G_goto hX 76 (by decide) dX11_worth_64 ?_
    exact G_lret hX hQ dX11_worth_76
set_option maxHeartbeats 4000000 in
set_option maxRecDepth 100000 in
theorem gX11_worth_E {X : Ctx} {z : Int64 × Mem} (hX : Fx wM X cX11_worth 5 RX11 (some .long) (rmo 8 188)) (hQ : Qx_l wM X z) (hcs : cx_cells X = 0 ∧ cx_slots X = 0) (N : Nat) (p0 : Int32) (p1 : Int32) (p2 : Int32) (p3 : Int32) (μ : Mem) : G wM X z 0 [(0, .ref (cx_ad X 0)), (1, .int p0), (2, .int p1), (3, .int p2), (4, .int p3)] [] μ (fX11_worth N p0 p1 p2 p3 μ) := by
  unfold fX11_worth
  refine G_aload_n hX 0 rfl rfl dX11_worth_0 ?_
  refine G_aload_n hX 0 rfl rfl dX11_worth_1 ?_
  refine G_iload_n hX 1 rfl rfl dX11_worth_2 ?_
  refine G_cVi hX 0 11 (fun ad adK => [.int p0]) [.ref (cx_ad X 0)] (fun z2 h2 => cX11_isFirm_ok (cx_l X) N p0 μ z2 h2) ok_X11_isFirm lm_X11_311 atM0.1 atM0.2 rfl rfl (fun _ _ => rfl) (Nat.le_of_ble_eq_true rfl) ⟨rfl, rfl, by decide, by decide⟩ (cs0 hcs) dX11_worth_3 (fun r1 μ => ?_)
  refine G_if_eq hX 17 (by decide) dX11_worth_6 ?_ ?_
  · refine G_iconst hX (1 : Int32) rfl dX11_worth_17 ?_
    refine G_goto hX 53 (by decide) dX11_worth_18 ?_
    exact G_sub [0, 1, 2, 3, 4] rfl (gX11_worth_53 hX hQ hcs N p0 p1 p2 p3 (1 : Int32) μ)
  · refine G_aload_n hX 0 rfl rfl dX11_worth_9 ?_
    refine G_iload_n hX 2 rfl rfl dX11_worth_10 ?_
    refine G_cVi hX 0 11 (fun ad adK => [.int p1]) [.ref (cx_ad X 0)] (fun z2 h2 => cX11_isModel_ok (cx_l X) N p1 μ z2 h2) ok_X11_isModel lm_X11_314 atM0.1 atM0.2 rfl rfl (fun _ _ => rfl) (Nat.le_of_ble_eq_true rfl) ⟨rfl, rfl, by decide, by decide⟩ (cs0 hcs) dX11_worth_11 (fun r2 μ => ?_)
    refine G_if_ne hX 21 (by decide) dX11_worth_14 ?_ ?_
    · refine G_iload_n hX 3 rfl rfl dX11_worth_21 ?_
      refine G_i2l hX dX11_worth_22 ?_
      refine G_lconst hX (0 : Int64) rfl dX11_worth_23 ?_
      refine G_ldc2 hX lc_X11_370 dX11_worth_24 ?_
      refine G_cSi hX (fun ad adK => [.long p2.toInt64, .long (0 : Int64), .long (3 : Int64)]) [.ref (cx_ad X 0)] (fun z2 h2 => cX11_isIn_ok (cx_l X) N p2.toInt64 (0 : Int64) (3 : Int64) μ z2 h2) ok_X11_isIn lm_X11_301 rfl (fun _ _ => rfl) (Nat.le_of_ble_eq_true rfl) ⟨rfl, rfl, by decide, by decide⟩ (cs0 hcs) dX11_worth_27 (fun r3 μ => ?_)
      refine G_if_eq hX 52 (by decide) dX11_worth_30 ?_ ?_
      · refine G_iconst hX (2 : Int32) rfl dX11_worth_52 ?_
        exact G_sub [0, 1, 2, 3, 4] rfl (gX11_worth_53 hX hQ hcs N p0 p1 p2 p3 (2 : Int32) μ)
      · refine G_iload hX 4 rfl dX11_worth_33 ?_
        refine G_i2l hX dX11_worth_35 ?_
        refine G_ldc2 hX lc_X11_407 dX11_worth_36 ?_
        refine G_ldc2 hX lc_X11_372 dX11_worth_39 ?_
        refine G_cSi hX (fun ad adK => [.long p3.toInt64, .long (-1 : Int64), .long (11 : Int64)]) [.ref (cx_ad X 0)] (fun z2 h2 => cX11_isIn_ok (cx_l X) N p3.toInt64 (-1 : Int64) (11 : Int64) μ z2 h2) ok_X11_isIn lm_X11_301 rfl (fun _ _ => rfl) (Nat.le_of_ble_eq_true rfl) ⟨rfl, rfl, by decide, by decide⟩ (cs0 hcs) dX11_worth_42 (fun r4 μ => ?_)
        refine G_if_eq hX 52 (by decide) dX11_worth_45 ?_ ?_
        · refine G_iconst hX (2 : Int32) rfl dX11_worth_52 ?_
          exact G_sub [0, 1, 2, 3, 4] rfl (gX11_worth_53 hX hQ hcs N p0 p1 p2 p3 (2 : Int32) μ)
        · refine G_iconst hX (0 : Int32) rfl dX11_worth_48 ?_
          refine G_goto hX 53 (by decide) dX11_worth_49 ?_
          exact G_sub [0, 1, 2, 3, 4] rfl (gX11_worth_53 hX hQ hcs N p0 p1 p2 p3 (0 : Int32) μ)
    · refine G_iconst hX (1 : Int32) rfl dX11_worth_17 ?_
      refine G_goto hX 53 (by decide) dX11_worth_18 ?_
      exact G_sub [0, 1, 2, 3, 4] rfl (gX11_worth_53 hX hQ hcs N p0 p1 p2 p3 (1 : Int32) μ)
theorem cX11_worth_ok (l : Launch) (N : Nat) (p0 : Int32) (p1 : Int32) (p2 : Int32) (p3 : Int32) (μ : Mem) (z : Int64 × Mem) (h : fX11_worth N p0 p1 p2 p3 μ = some z) : Ml wM l yX11_worth cX11_worth 5 .long (rmo 8 188) (fun ad adK => [.ref (ad 0), .int p0, .int p1, .int p2, .int p3]) μ z := Ml.of h (by decide +kernel) (fun _ _ => Nat.le_of_ble_eq_true rfl) (fun X hX hQ hl hcs => gX11_worth_E hX hQ hcs N p0 p1 p2 p3 μ)
/-! ===== DutyCaseModel.found(IIII)I ===== -/
set_option maxHeartbeats 4000000 in
set_option maxRecDepth 100000 in
theorem gX11_found_55 {X : Ctx} {z : Int32 × Mem} (hX : Fx wM X cX11_found 5 RX11 (some .int) (rmo 7 161)) (hQ : Qx_i wM X z) (hcs : cx_cells X = 0 ∧ cx_slots X = 0) (N : Nat) (v1 : Int32) (v2 : Int32) (v3 : Int32) (v4 : Int32) (s0 : Int32) (μ : Mem) : G wM X z 55 [(0, .ref (cx_ad X 0)), (1, .int v1), (2, .int v2), (3, .int v3), (4, .int v4)] [.int s0, .ref (cx_ad X 0)] μ (fX11_found_55 N v1 v2 v3 v4 s0 μ) := by
  unfold fX11_found_55
  refine pf_X11_104_M0 hX dX11_found_55 (fun μ => ?_)
  refine G_aload_n hX 0 rfl rfl dX11_found_58 ?_
  refine gf_X11_104_M0 hX dX11_found_59 ?_
  refine G_nmi (fun x5 => ?_)
  refine G_if_le hX 67 (by decide) dX11_found_62 ?_ ?_
  · refine G_aload_n hX 0 rfl rfl dX11_found_67 ?_
    refine G_iload_n hX 1 rfl rfl dX11_found_68 ?_
    refine G_iload_n hX 2 rfl rfl dX11_found_69 ?_
    refine G_iload_n hX 3 rfl rfl dX11_found_70 ?_
    refine G_cVv hX 0 11 (fun ad adK => [.int v1, .int v2, .int v3]) [] (fun z2 h2 => cX11_finds_ok (cx_l X) N v1 v2 v3 μ z2 h2) ok_X11_finds lm_X11_411 atM0.1 atM0.2 rfl rfl (fun _ _ => rfl) (Nat.le_of_ble_eq_true rfl) ⟨rfl, rfl, by decide, by decide⟩ (cs0 hcs) dX11_found_71 (fun μ => ?_)
    refine G_iload hX 4 rfl dX11_found_74 ?_
    refine G_if_ne hX 86 (by decide) dX11_found_76 ?_ ?_
    · refine G_aload_n hX 0 rfl rfl dX11_found_86 ?_
      refine gf_X11_395_M0 hX dX11_found_87 ?_
      refine G_nmi (fun x6 => ?_)
      refine G_iconst hX (3 : Int32) rfl dX11_found_90 ?_
      refine G_icmp_ne hX 98 (by decide) dX11_found_91 ?_ ?_
      · refine G_iload hX 4 rfl dX11_found_98 ?_
        refine G_iconst hX (1 : Int32) rfl dX11_found_100 ?_
        refine G_icmp_ne hX 111 (by decide) dX11_found_101 ?_ ?_
        · refine G_aload_n hX 0 rfl rfl dX11_found_111 ?_
          refine gf_X11_401_M0 hX dX11_found_112 ?_
          refine G_nmi (fun x7 => ?_)
          exact G_iret hX hQ dX11_found_115
        · refine G_aload_n hX 0 rfl rfl dX11_found_104 ?_
          refine gf_X11_398_M0 hX dX11_found_105 ?_
          refine G_nmi (fun x8 => ?_)
          refine G_goto hX 115 (by decide) dX11_found_108 ?_
          exact G_iret hX hQ dX11_found_115
      · refine G_iconst hX (-1 : Int32) rfl dX11_found_94 ?_
        refine G_goto hX 115 (by decide) dX11_found_95 ?_
        exact G_iret hX hQ dX11_found_115
    · refine G_aload_n hX 0 rfl rfl dX11_found_79 ?_
      refine gf_X11_395_M0 hX dX11_found_80 ?_
      refine G_nmi (fun x9 => ?_)
      refine G_goto hX 115 (by decide) dX11_found_83 ?_
      exact G_iret hX hQ dX11_found_115
  · refine G_iconst hX (0 : Int32) rfl dX11_found_65 ?_
    exact G_iret hX hQ dX11_found_66
set_option maxHeartbeats 4000000 in
set_option maxRecDepth 100000 in
theorem gX11_found_E {X : Ctx} {z : Int32 × Mem} (hX : Fx wM X cX11_found 5 RX11 (some .int) (rmo 7 161)) (hQ : Qx_i wM X z) (hcs : cx_cells X = 0 ∧ cx_slots X = 0) (N : Nat) (p0 : Int32) (p1 : Int32) (p2 : Int32) (p3 : Int32) (μ : Mem) : G wM X z 0 [(0, .ref (cx_ad X 0)), (1, .int p0), (2, .int p1), (3, .int p2), (4, .int p3)] [] μ (fX11_found N p0 p1 p2 p3 μ) := by
  unfold fX11_found
  refine G_aload_n hX 0 rfl rfl dX11_found_0 ?_
  refine G_aload_n hX 0 rfl rfl dX11_found_1 ?_
  refine G_iload_n hX 1 rfl rfl dX11_found_2 ?_
  refine G_cVi hX 0 11 (fun ad adK => [.int p0]) [.ref (cx_ad X 0)] (fun z2 h2 => cX11_isFirm_ok (cx_l X) N p0 μ z2 h2) ok_X11_isFirm lm_X11_311 atM0.1 atM0.2 rfl rfl (fun _ _ => rfl) (Nat.le_of_ble_eq_true rfl) ⟨rfl, rfl, by decide, by decide⟩ (cs0 hcs) dX11_found_3 (fun r1 μ => ?_)
  refine G_if_eq hX 17 (by decide) dX11_found_6 ?_ ?_
  · refine G_iconst hX (1 : Int32) rfl dX11_found_17 ?_
    refine G_goto hX 55 (by decide) dX11_found_18 ?_
    exact G_sub [0, 1, 2, 3, 4] rfl (gX11_found_55 hX hQ hcs N p0 p1 p2 p3 (1 : Int32) μ)
  · refine G_aload_n hX 0 rfl rfl dX11_found_9 ?_
    refine G_iload_n hX 2 rfl rfl dX11_found_10 ?_
    refine G_cVi hX 0 11 (fun ad adK => [.int p1]) [.ref (cx_ad X 0)] (fun z2 h2 => cX11_isModel_ok (cx_l X) N p1 μ z2 h2) ok_X11_isModel lm_X11_314 atM0.1 atM0.2 rfl rfl (fun _ _ => rfl) (Nat.le_of_ble_eq_true rfl) ⟨rfl, rfl, by decide, by decide⟩ (cs0 hcs) dX11_found_11 (fun r2 μ => ?_)
    refine G_if_ne hX 21 (by decide) dX11_found_14 ?_ ?_
    · refine G_iload_n hX 3 rfl rfl dX11_found_21 ?_
      refine G_i2l hX dX11_found_22 ?_
      refine G_lconst hX (0 : Int64) rfl dX11_found_23 ?_
      refine G_ldc2 hX lc_X11_370 dX11_found_24 ?_
      refine G_cSi hX (fun ad adK => [.long p2.toInt64, .long (0 : Int64), .long (3 : Int64)]) [.ref (cx_ad X 0)] (fun z2 h2 => cX11_isIn_ok (cx_l X) N p2.toInt64 (0 : Int64) (3 : Int64) μ z2 h2) ok_X11_isIn lm_X11_301 rfl (fun _ _ => rfl) (Nat.le_of_ble_eq_true rfl) ⟨rfl, rfl, by decide, by decide⟩ (cs0 hcs) dX11_found_27 (fun r3 μ => ?_)
      refine G_if_ne hX 37 (by decide) dX11_found_30 ?_ ?_
      · refine G_iload hX 4 rfl dX11_found_37 ?_
        refine G_i2l hX dX11_found_39 ?_
        refine G_lconst hX (0 : Int64) rfl dX11_found_40 ?_
        refine G_ldc2 hX lc_X11_320 dX11_found_41 ?_
        refine G_cSi hX (fun ad adK => [.long p3.toInt64, .long (0 : Int64), .long (2 : Int64)]) [.ref (cx_ad X 0)] (fun z2 h2 => cX11_isIn_ok (cx_l X) N p3.toInt64 (0 : Int64) (2 : Int64) μ z2 h2) ok_X11_isIn lm_X11_301 rfl (fun _ _ => rfl) (Nat.le_of_ble_eq_true rfl) ⟨rfl, rfl, by decide, by decide⟩ (cs0 hcs) dX11_found_44 (fun r4 μ => ?_)
        refine G_if_eq hX 54 (by decide) dX11_found_47 ?_ ?_
        · refine G_iconst hX (3 : Int32) rfl dX11_found_54 ?_
          exact G_sub [0, 1, 2, 3, 4] rfl (gX11_found_55 hX hQ hcs N p0 p1 p2 p3 (3 : Int32) μ)
        · refine G_iconst hX (0 : Int32) rfl dX11_found_50 ?_
          refine G_goto hX 55 (by decide) dX11_found_51 ?_
          exact G_sub [0, 1, 2, 3, 4] rfl (gX11_found_55 hX hQ hcs N p0 p1 p2 p3 (0 : Int32) μ)
      · refine G_iconst hX (2 : Int32) rfl dX11_found_33 ?_
        refine G_goto hX 55 (by decide) dX11_found_34 ?_
        exact G_sub [0, 1, 2, 3, 4] rfl (gX11_found_55 hX hQ hcs N p0 p1 p2 p3 (2 : Int32) μ)
    · refine G_iconst hX (1 : Int32) rfl dX11_found_17 ?_
      refine G_goto hX 55 (by decide) dX11_found_18 ?_
      exact G_sub [0, 1, 2, 3, 4] rfl (gX11_found_55 hX hQ hcs N p0 p1 p2 p3 (1 : Int32) μ)
theorem cX11_found_ok (l : Launch) (N : Nat) (p0 : Int32) (p1 : Int32) (p2 : Int32) (p3 : Int32) (μ : Mem) (z : Int32 × Mem) (h : fX11_found N p0 p1 p2 p3 μ = some z) : Mi wM l yX11_found cX11_found 5 .int (rmo 7 161) (fun ad adK => [.ref (ad 0), .int p0, .int p1, .int p2, .int p3]) μ z := Mi.of h (by decide +kernel) (fun _ _ => Nat.le_of_ble_eq_true rfl) (fun X hX hQ hl hcs => gX11_found_E hX hQ hcs N p0 p1 p2 p3 μ)
/-! ===== DutyCaseModel.isExport(I)Z ===== -/
set_option maxHeartbeats 4000000 in
set_option maxRecDepth 100000 in
theorem gX11_isExport_E {X : Ctx} {z : Int32 × Mem} (hX : Fx wM X cX11_isExport 2 RX11 (some .boolean) (rmo 2 46)) (hQ : Qx_i wM X z) (hcs : cx_cells X = 0 ∧ cx_slots X = 0) (N : Nat) (p0 : Int32) (μ : Mem) : G wM X z 0 [(0, .ref (cx_ad X 0)), (1, .int p0)] [] μ (fX11_isExport N p0 μ) := by
  unfold fX11_isExport
  refine G_aload_n hX 0 rfl rfl dX11_isExport_0 ?_
  refine G_iload_n hX 1 rfl rfl dX11_isExport_1 ?_
  refine G_cVi hX 0 11 (fun ad adK => [.int p0]) [] (fun z2 h2 => cX11_isSale_ok (cx_l X) N p0 μ z2 h2) ok_X11_isSale lm_X11_341 atM0.1 atM0.2 rfl rfl (fun _ _ => rfl) (Nat.le_of_ble_eq_true rfl) ⟨rfl, rfl, by decide, by decide⟩ (cs0 hcs) dX11_isExport_2 (fun r1 μ => ?_)
  refine G_if_eq hX 22 (by decide) dX11_isExport_5 ?_ ?_
  · refine G_iconst hX (0 : Int32) rfl dX11_isExport_22 ?_
    exact G_zret hX hQ rfl dX11_isExport_23
  · refine G_aload_n hX 0 rfl rfl dX11_isExport_8 ?_
    refine G_iload_n hX 1 rfl rfl dX11_isExport_9 ?_
    refine G_iconst hX (0 : Int32) rfl dX11_isExport_10 ?_
    refine G_cVi hX 0 11 (fun ad adK => [.int p0, .int (0 : Int32)]) [] (fun z2 h2 => cX11_of_ok (cx_l X) N p0 (0 : Int32) μ z2 h2) ok_X11_of lm_X11_305 atM0.1 atM0.2 rfl rfl (fun _ _ => rfl) (Nat.le_of_ble_eq_true rfl) ⟨rfl, rfl, by decide, by decide⟩ (cs0 hcs) dX11_isExport_11 (fun r2 μ => ?_)
    refine G_iconst hX (1 : Int32) rfl dX11_isExport_14 ?_
    refine G_icmp_ne hX 22 (by decide) dX11_isExport_15 ?_ ?_
    · refine G_iconst hX (0 : Int32) rfl dX11_isExport_22 ?_
      exact G_zret hX hQ rfl dX11_isExport_23
    · refine G_iconst hX (1 : Int32) rfl dX11_isExport_18 ?_
      refine G_goto hX 23 (by decide) dX11_isExport_19 ?_
      exact G_zret hX hQ rfl dX11_isExport_23
theorem cX11_isExport_ok (l : Launch) (N : Nat) (p0 : Int32) (μ : Mem) (z : Int32 × Mem) (h : fX11_isExport N p0 μ = some z) : Mi wM l yX11_isExport cX11_isExport 2 .boolean (rmo 2 46) (fun ad adK => [.ref (ad 0), .int p0]) μ z := Mi.of h (by decide +kernel) (fun _ _ => Nat.le_of_ble_eq_true rfl) (fun X hX hQ hl hcs => gX11_isExport_E hX hQ hcs N p0 μ)
/-! ===== DutyCaseModel.isNearer(III)Z ===== -/
set_option maxHeartbeats 4000000 in
set_option maxRecDepth 100000 in
theorem gX11_isNearer_54 {X : Ctx} {z : Int32 × Mem} (hX : Fx wM X cX11_isNearer 7 RX11 (some .boolean) (rmo 1 22)) (hQ : Qx_i wM X z) (hcs : cx_cells X = 0 ∧ cx_slots X = 0) (N : Nat) (v5 : Int32) (v6 : Int32) (μ : Mem) : G wM X z 54 [(5, .int v5), (6, .int v6)] [] μ (fX11_isNearer_54 N v5 v6 μ) := by
  unfold fX11_isNearer_54
  refine G_iload hX 0 rfl dX11_isNearer_54 ?_
  refine G_iload hX 1 rfl dX11_isNearer_56 ?_
  refine G_icmp_ge hX 65 (by decide) dX11_isNearer_58 ?_ ?_
  · refine G_iconst hX (0 : Int32) rfl dX11_isNearer_65 ?_
    exact G_zret hX hQ rfl dX11_isNearer_66
  · refine G_iconst hX (1 : Int32) rfl dX11_isNearer_61 ?_
    refine G_goto hX 66 (by decide) dX11_isNearer_62 ?_
    exact G_zret hX hQ rfl dX11_isNearer_66
set_option maxHeartbeats 4000000 in
set_option maxRecDepth 100000 in
theorem gX11_isNearer_3 {X : Ctx} {z : Int32 × Mem} (hX : Fx wM X cX11_isNearer 7 RX11 (some .boolean) (rmo 1 22)) (hQ : Qx_i wM X z) (hcs : cx_cells X = 0 ∧ cx_slots X = 0) (N : Nat) : ∀ (n : Nat) (v1 : Int32) (v2 : Int32) (v3 : Int32) (v4 : Int32) (μ : Mem), G wM X z 3 [(0, .ref (cx_ad X 0)), (1, .int v1), (2, .int v2), (3, .int v3), (4, .int v4)] [] μ (fX11_isNearer_3 N n v1 v2 v3 v4 μ) := by
  intro n
  induction n with
  | zero =>
    intro v1 v2 v3 v4 μ
    exact G_none
  | succ n ih =>
    intro v1 v2 v3 v4 μ
    unfold fX11_isNearer_3
    refine G_iload hX 4 rfl dX11_isNearer_3 ?_
    refine G_iconst hX (5 : Int32) rfl dX11_isNearer_5 ?_
    refine G_icmp_gt hX 73 (by decide) dX11_isNearer_6 ?_ ?_
    · refine G_iconst hX (0 : Int32) rfl dX11_isNearer_73 ?_
      exact G_zret hX hQ rfl dX11_isNearer_74
    · refine G_aload_n hX 0 rfl rfl dX11_isNearer_9 ?_
      refine G_iload_n hX 1 rfl rfl dX11_isNearer_10 ?_
      refine G_iload hX 4 rfl dX11_isNearer_11 ?_
      refine G_cVi hX 0 11 (fun ad adK => [.int v1, .int v4]) [] (fun z2 h2 => cX11_of_ok (cx_l X) N v1 v4 μ z2 h2) ok_X11_of lm_X11_305 atM0.1 atM0.2 rfl rfl (fun _ _ => rfl) (Nat.le_of_ble_eq_true rfl) ⟨rfl, rfl, by decide, by decide⟩ (cs0 hcs) dX11_isNearer_13 (fun r1 μ => ?_)
      refine G_aload_n hX 0 rfl rfl dX11_isNearer_16 ?_
      refine G_iload_n hX 2 rfl rfl dX11_isNearer_17 ?_
      refine G_iload hX 4 rfl dX11_isNearer_18 ?_
      refine G_cVi hX 0 11 (fun ad adK => [.int v2, .int v4]) [.int r1] (fun z2 h2 => cX11_of_ok (cx_l X) N v2 v4 μ z2 h2) ok_X11_of lm_X11_305 atM0.1 atM0.2 rfl rfl (fun _ _ => rfl) (Nat.le_of_ble_eq_true rfl) ⟨rfl, rfl, by decide, by decide⟩ (cs0 hcs) dX11_isNearer_20 (fun r2 μ => ?_)
      refine G_cSi hX (fun ad adK => [.int r1, .int r2]) [] (fun z2 h2 => cX11_apart_ok (cx_l X) N r1 r2 μ z2 h2) ok_X11_apart lm_X11_389 rfl (fun _ _ => rfl) (Nat.le_of_ble_eq_true rfl) ⟨rfl, rfl, by decide, by decide⟩ (cs0 hcs) dX11_isNearer_23 (fun r3 μ => ?_)
      refine G_istore hX [(5, .int r3), (0, .ref (cx_ad X 0)), (1, .int v1), (2, .int v2), (3, .int v3), (4, .int v4)] (by decide) rfl dX11_isNearer_26 ?_
      refine G_aload_n hX 1 rfl rfl dX11_isNearer_28 ?_
      refine G_iload_n hX 2 rfl rfl dX11_isNearer_29 ?_
      refine G_iload hX 5 rfl dX11_isNearer_30 ?_
      refine G_cVi hX 0 11 (fun ad adK => [.int v1, .int v4]) [] (fun z2 h2 => cX11_of_ok (cx_l X) N v1 v4 μ z2 h2) ok_X11_of lm_X11_305 atM0.1 atM0.2 rfl rfl (fun _ _ => rfl) (Nat.le_of_ble_eq_true rfl) ⟨rfl, rfl, by decide, by decide⟩ (cs0 hcs) dX11_isNearer_32 (fun r4 μ => ?_)
      refine G_aload_n hX 1 rfl rfl dX11_isNearer_35 ?_
      refine G_iload_n hX 4 rfl rfl dX11_isNearer_36 ?_
      refine G_iload hX 5 rfl dX11_isNearer_37 ?_
      refine G_cVi hX 0 11 (fun ad adK => [.int v3, .int v4]) [.int r4] (fun z2 h2 => cX11_of_ok (cx_l X) N v3 v4 μ z2 h2) ok_X11_of lm_X11_305 atM0.1 atM0.2 rfl rfl (fun _ _ => rfl) (Nat.le_of_ble_eq_true rfl) ⟨rfl, rfl, by decide, by decide⟩ (cs0 hcs) dX11_isNearer_39 (fun r5 μ => ?_)
      refine G_cSi hX (fun ad adK => [.int r4, .int r5]) [] (fun z2 h2 => cX11_apart_ok (cx_l X) N r4 r5 μ z2 h2) ok_X11_apart lm_X11_389 rfl (fun _ _ => rfl) (Nat.le_of_ble_eq_true rfl) ⟨rfl, rfl, by decide, by decide⟩ (cs0 hcs) dX11_isNearer_42 (fun r6 μ => ?_)
      refine G_istore hX [(6, .int r6), (5, .int r3), (0, .ref (cx_ad X 0)), (1, .int v1), (2, .int v2), (3, .int v3), (4, .int v4)] (by decide) rfl dX11_isNearer_45 ?_
      refine G_iload hX 1 rfl dX11_isNearer_47 ?_
      refine G_iload hX 0 rfl dX11_isNearer_49 ?_
      refine G_icmp_eq hX 67 (by decide) dX11_isNearer_51 ?_ ?_
      · refine G_iincN hX 6 (fun x7 => [(4, .int x7), (6, .int r6), (5, .int r3), (0, .ref (cx_ad X 0)), (1, .int v1), (2, .int v2), (3, .int v3)]) rfl rfl (by decide) (fun _ => rfl) dX11_isNearer_67 (fun x7 => ?_)
        refine G_goto hX 3 (by decide) dX11_isNearer_70 ?_
        exact G_sub [3, 4, 5, 6, 0] rfl (ih v1 v2 v3 x7 μ)
      · exact G_sub [1, 0] rfl (gX11_isNearer_54 hX hQ hcs N r3 r6 μ)
set_option maxHeartbeats 4000000 in
set_option maxRecDepth 100000 in
theorem gX11_isNearer_E {X : Ctx} {z : Int32 × Mem} (hX : Fx wM X cX11_isNearer 7 RX11 (some .boolean) (rmo 1 22)) (hQ : Qx_i wM X z) (hcs : cx_cells X = 0 ∧ cx_slots X = 0) (N : Nat) (p0 : Int32) (p1 : Int32) (p2 : Int32) (μ : Mem) : G wM X z 0 [(0, .ref (cx_ad X 0)), (1, .int p0), (2, .int p1), (3, .int p2)] [] μ (fX11_isNearer N p0 p1 p2 μ) := by
  unfold fX11_isNearer
  refine G_iconst hX (3 : Int32) rfl dX11_isNearer_0 ?_
  refine G_istore hX [(4, .int (3 : Int32)), (0, .ref (cx_ad X 0)), (1, .int p0), (2, .int p1), (3, .int p2)] (by decide) rfl dX11_isNearer_1 ?_
  exact G_sub [1, 2, 3, 4, 0] rfl (gX11_isNearer_3 hX hQ hcs N N p0 p1 p2 (3 : Int32) μ)
theorem cX11_isNearer_ok (l : Launch) (N : Nat) (p0 : Int32) (p1 : Int32) (p2 : Int32) (μ : Mem) (z : Int32 × Mem) (h : fX11_isNearer N p0 p1 p2 μ = some z) : Mi wM l yX11_isNearer cX11_isNearer 7 .boolean (rmo 1 22) (fun ad adK => [.ref (ad 0), .int p0, .int p1, .int p2]) μ z := Mi.of h (by decide +kernel) (fun _ _ => Nat.le_of_ble_eq_true rfl) (fun X hX hQ hl hcs => gX11_isNearer_E hX hQ hcs N p0 p1 p2 μ)
/-! ===== DutyCaseModel.matchOf(I)I ===== -/
set_option maxHeartbeats 4000000 in
set_option maxRecDepth 100000 in
theorem gX11_matchOf_8 {X : Ctx} {z : Int32 × Mem} (hX : Fx wM X cX11_matchOf 4 RX11 (some .int) (rmo 6 138)) (hQ : Qx_i wM X z) (hcs : cx_cells X = 0 ∧ cx_slots X = 0) (N : Nat) : ∀ (n : Nat) (v1 : Int32) (v2 : Int32) (v3 : Int32) (μ : Mem), G wM X z 8 [(0, .ref (cx_ad X 0)), (1, .int v1), (2, .int v2), (3, .int v3)] [] μ (fX11_matchOf_8 N n v1 v2 v3 μ) := by
  intro n
  induction n with
  | zero =>
    intro v1 v2 v3 μ
    exact G_none
  | succ n ih =>
    intro v1 v2 v3 μ
    unfold fX11_matchOf_8
    refine G_iload_n hX 3 rfl rfl dX11_matchOf_8 ?_
    refine G_aload_n hX 0 rfl rfl dX11_matchOf_9 ?_
    refine gf_X11_7_M0 hX dX11_matchOf_10 ?_
    refine G_bipush hX (34 : Int32) rfl dX11_matchOf_13 ?_
    refine G_aI hX atM1 dX11_matchOf_15 (fun x1 => ?_)
    refine G_icmp_ge hX 65 (by decide) dX11_matchOf_16 ?_ ?_
    · refine G_iload_n hX 2 rfl rfl dX11_matchOf_65 ?_
      exact G_iret hX hQ dX11_matchOf_66
    · refine G_aload_n hX 0 rfl rfl dX11_matchOf_19 ?_
      refine G_iload_n hX 3 rfl rfl dX11_matchOf_20 ?_
      refine G_aload_n hX 0 rfl rfl dX11_matchOf_21 ?_
      refine G_iload_n hX 1 rfl rfl dX11_matchOf_22 ?_
      refine G_iconst hX (1 : Int32) rfl dX11_matchOf_23 ?_
      refine G_cVi hX 0 11 (fun ad adK => [.int v1, .int (1 : Int32)]) [.int v3, .ref (cx_ad X 0)] (fun z2 h2 => cX11_of_ok (cx_l X) N v1 (1 : Int32) μ z2 h2) ok_X11_of lm_X11_305 atM0.1 atM0.2 rfl rfl (fun _ _ => rfl) (Nat.le_of_ble_eq_true rfl) ⟨rfl, rfl, by decide, by decide⟩ (cs0 hcs) dX11_matchOf_24 (fun r2 μ => ?_)
      refine G_aload_n hX 0 rfl rfl dX11_matchOf_27 ?_
      refine G_iload_n hX 1 rfl rfl dX11_matchOf_28 ?_
      refine G_iconst hX (2 : Int32) rfl dX11_matchOf_29 ?_
      refine G_cVi hX 0 11 (fun ad adK => [.int v1, .int (2 : Int32)]) [.int r2, .int v3, .ref (cx_ad X 0)] (fun z2 h2 => cX11_of_ok (cx_l X) N v1 (2 : Int32) μ z2 h2) ok_X11_of lm_X11_305 atM0.1 atM0.2 rfl rfl (fun _ _ => rfl) (Nat.le_of_ble_eq_true rfl) ⟨rfl, rfl, by decide, by decide⟩ (cs0 hcs) dX11_matchOf_30 (fun r3 μ => ?_)
      refine G_cVi hX 0 11 (fun ad adK => [.int v3, .int r2, .int r3]) [] (fun z2 h2 => cX11_isOf_ok (cx_l X) N v3 r2 r3 μ z2 h2) ok_X11_isOf lm_X11_385 atM0.1 atM0.2 rfl rfl (fun _ _ => rfl) (Nat.le_of_ble_eq_true rfl) ⟨rfl, rfl, by decide, by decide⟩ (cs0 hcs) dX11_matchOf_33 (fun r4 μ => ?_)
      refine G_if_ne hX 42 (by decide) dX11_matchOf_36 ?_ ?_
      · refine G_iload_n hX 2 rfl rfl dX11_matchOf_42 ?_
        refine G_iconst hX (-1 : Int32) rfl dX11_matchOf_43 ?_
        refine G_icmp_eq hX 57 (by decide) dX11_matchOf_44 ?_ ?_
        · refine G_iload_n hX 3 rfl rfl dX11_matchOf_57 ?_
          refine G_istore_n hX [(2, .int v3), (0, .ref (cx_ad X 0)), (1, .int v1), (3, .int v3)] rfl (by decide) rfl dX11_matchOf_58 ?_
          refine G_iincN hX 3 (fun x5 => [(3, .int x5), (2, .int v3), (0, .ref (cx_ad X 0)), (1, .int v1)]) rfl rfl (by decide) (fun _ => rfl) dX11_matchOf_59 (fun x5 => ?_)
          refine G_goto hX 8 (by decide) dX11_matchOf_62 ?_
          exact G_sub [2, 3, 1, 0] rfl (ih v1 v3 x5 μ)
        · refine G_aload_n hX 0 rfl rfl dX11_matchOf_47 ?_
          refine G_iload_n hX 1 rfl rfl dX11_matchOf_48 ?_
          refine G_iload_n hX 3 rfl rfl dX11_matchOf_49 ?_
          refine G_iload_n hX 2 rfl rfl dX11_matchOf_50 ?_
          refine G_cVi hX 0 11 (fun ad adK => [.int v1, .int v3, .int v2]) [] (fun z2 h2 => cX11_isNearer_ok (cx_l X) N v1 v3 v2 μ z2 h2) ok_X11_isNearer lm_X11_422 atM0.1 atM0.2 rfl rfl (fun _ _ => rfl) (Nat.le_of_ble_eq_true rfl) ⟨rfl, rfl, by decide, by decide⟩ (cs0 hcs) dX11_matchOf_51 (fun r6 μ => ?_)
          refine G_if_eq hX 59 (by decide) dX11_matchOf_54 ?_ ?_
          · refine G_iincN hX 3 (fun x7 => [(3, .int x7), (0, .ref (cx_ad X 0)), (1, .int v1), (2, .int v2)]) rfl rfl (by decide) (fun _ => rfl) dX11_matchOf_59 (fun x7 => ?_)
            refine G_goto hX 8 (by decide) dX11_matchOf_62 ?_
            exact G_sub [1, 2, 3, 0] rfl (ih v1 v2 x7 μ)
          · refine G_iload_n hX 3 rfl rfl dX11_matchOf_57 ?_
            refine G_istore_n hX [(2, .int v3), (0, .ref (cx_ad X 0)), (1, .int v1), (3, .int v3)] rfl (by decide) rfl dX11_matchOf_58 ?_
            refine G_iincN hX 3 (fun x8 => [(3, .int x8), (2, .int v3), (0, .ref (cx_ad X 0)), (1, .int v1)]) rfl rfl (by decide) (fun _ => rfl) dX11_matchOf_59 (fun x8 => ?_)
            refine G_goto hX 8 (by decide) dX11_matchOf_62 ?_
            exact G_sub [2, 3, 1, 0] rfl (ih v1 v3 x8 μ)
      · refine G_goto hX 59 (by decide) dX11_matchOf_39 ?_
        refine G_iincN hX 3 (fun x9 => [(3, .int x9), (0, .ref (cx_ad X 0)), (1, .int v1), (2, .int v2)]) rfl rfl (by decide) (fun _ => rfl) dX11_matchOf_59 (fun x9 => ?_)
        refine G_goto hX 8 (by decide) dX11_matchOf_62 ?_
        exact G_sub [1, 2, 3, 0] rfl (ih v1 v2 x9 μ)
set_option maxHeartbeats 4000000 in
set_option maxRecDepth 100000 in
theorem gX11_matchOf_E {X : Ctx} {z : Int32 × Mem} (hX : Fx wM X cX11_matchOf 4 RX11 (some .int) (rmo 6 138)) (hQ : Qx_i wM X z) (hcs : cx_cells X = 0 ∧ cx_slots X = 0) (N : Nat) (p0 : Int32) (μ : Mem) : G wM X z 0 [(0, .ref (cx_ad X 0)), (1, .int p0)] [] μ (fX11_matchOf N p0 μ) := by
  unfold fX11_matchOf
  refine G_aload_n hX 0 rfl rfl dX11_matchOf_0 ?_
  refine G_cVv hX 0 11 (fun ad adK => []) [] (fun z2 h2 => cX11_lays_ok (cx_l X) N μ z2 h2) ok_X11_lays lm_X11_367 atM0.1 atM0.2 rfl rfl (fun _ _ => rfl) (Nat.le_of_ble_eq_true rfl) ⟨rfl, rfl, by decide, by decide⟩ (cs0 hcs) dX11_matchOf_1 (fun μ => ?_)
  refine G_iconst hX (-1 : Int32) rfl dX11_matchOf_4 ?_
  refine G_istore_n hX [(2, .int (-1 : Int32)), (0, .ref (cx_ad X 0)), (1, .int p0)] rfl (by decide) rfl dX11_matchOf_5 ?_
  refine G_iconst hX (0 : Int32) rfl dX11_matchOf_6 ?_
  refine G_istore_n hX [(3, .int (0 : Int32)), (2, .int (-1 : Int32)), (0, .ref (cx_ad X 0)), (1, .int p0)] rfl (by decide) rfl dX11_matchOf_7 ?_
  exact G_sub [2, 3, 1, 0] rfl (gX11_matchOf_8 hX hQ hcs N N p0 (-1 : Int32) (0 : Int32) μ)
theorem cX11_matchOf_ok (l : Launch) (N : Nat) (p0 : Int32) (μ : Mem) (z : Int32 × Mem) (h : fX11_matchOf N p0 μ = some z) : Mi wM l yX11_matchOf cX11_matchOf 4 .int (rmo 6 138) (fun ad adK => [.ref (ad 0), .int p0]) μ z := Mi.of h (by decide +kernel) (fun _ _ => Nat.le_of_ble_eq_true rfl) (fun X hX hQ hl hcs => gX11_matchOf_E hX hQ hcs N p0 μ)
/-! ===== DutyCaseModel.match(I)I ===== -/
set_option maxHeartbeats 4000000 in
set_option maxRecDepth 100000 in
theorem gX11_match_26 {X : Ctx} {z : Int32 × Mem} (hX : Fx wM X cX11_match 2 RX11 (some .int) (rmo 7 161)) (hQ : Qx_i wM X z) (hcs : cx_cells X = 0 ∧ cx_slots X = 0) (N : Nat) (v1 : Int32) (s0 : Int32) (μ : Mem) : G wM X z 26 [(0, .ref (cx_ad X 0)), (1, .int v1)] [.int s0, .ref (cx_ad X 0)] μ (fX11_match_26 N v1 s0 μ) := by
  unfold fX11_match_26
  refine pf_X11_104_M0 hX dX11_match_26 (fun μ => ?_)
  refine G_aload_n hX 0 rfl rfl dX11_match_29 ?_
  refine gf_X11_104_M0 hX dX11_match_30 ?_
  refine G_nmi (fun x3 => ?_)
  refine G_if_le hX 40 (by decide) dX11_match_33 ?_ ?_
  · refine G_aload_n hX 0 rfl rfl dX11_match_40 ?_
    refine G_iload_n hX 1 rfl rfl dX11_match_41 ?_
    refine G_cVi hX 0 11 (fun ad adK => [.int v1]) [] (fun z2 h2 => cX11_matchOf_ok (cx_l X) N v1 μ z2 h2) ok_X11_matchOf lm_X11_428 atM0.1 atM0.2 rfl rfl (fun _ _ => rfl) (Nat.le_of_ble_eq_true rfl) ⟨rfl, rfl, by decide, by decide⟩ (cs0 hcs) dX11_match_42 (fun r4 μ => ?_)
    exact G_iret hX hQ dX11_match_45
  · refine G_iconst hX (0 : Int32) rfl dX11_match_36 ?_
    refine G_goto hX 45 (by decide) dX11_match_37 ?_
    exact G_iret hX hQ dX11_match_45
set_option maxHeartbeats 4000000 in
set_option maxRecDepth 100000 in
theorem gX11_match_E {X : Ctx} {z : Int32 × Mem} (hX : Fx wM X cX11_match 2 RX11 (some .int) (rmo 7 161)) (hQ : Qx_i wM X z) (hcs : cx_cells X = 0 ∧ cx_slots X = 0) (N : Nat) (p0 : Int32) (μ : Mem) : G wM X z 0 [(0, .ref (cx_ad X 0)), (1, .int p0)] [] μ (fX11_match N p0 μ) := by
  unfold fX11_match
  refine G_aload_n hX 0 rfl rfl dX11_match_0 ?_
  refine G_aload_n hX 0 rfl rfl dX11_match_1 ?_
  refine G_iload_n hX 1 rfl rfl dX11_match_2 ?_
  refine G_cVi hX 0 11 (fun ad adK => [.int p0]) [.ref (cx_ad X 0)] (fun z2 h2 => cX11_isSale_ok (cx_l X) N p0 μ z2 h2) ok_X11_isSale lm_X11_341 atM0.1 atM0.2 rfl rfl (fun _ _ => rfl) (Nat.le_of_ble_eq_true rfl) ⟨rfl, rfl, by decide, by decide⟩ (cs0 hcs) dX11_match_3 (fun r1 μ => ?_)
  refine G_if_ne hX 13 (by decide) dX11_match_6 ?_ ?_
  · refine G_aload_n hX 0 rfl rfl dX11_match_13 ?_
    refine G_iload_n hX 1 rfl rfl dX11_match_14 ?_
    refine G_cVi hX 0 11 (fun ad adK => [.int p0]) [.ref (cx_ad X 0)] (fun z2 h2 => cX11_isExport_ok (cx_l X) N p0 μ z2 h2) ok_X11_isExport lm_X11_425 atM0.1 atM0.2 rfl rfl (fun _ _ => rfl) (Nat.le_of_ble_eq_true rfl) ⟨rfl, rfl, by decide, by decide⟩ (cs0 hcs) dX11_match_15 (fun r2 μ => ?_)
    refine G_if_eq hX 25 (by decide) dX11_match_18 ?_ ?_
    · refine G_iconst hX (2 : Int32) rfl dX11_match_25 ?_
      exact G_sub [0, 1] rfl (gX11_match_26 hX hQ hcs N p0 (2 : Int32) μ)
    · refine G_iconst hX (0 : Int32) rfl dX11_match_21 ?_
      refine G_goto hX 26 (by decide) dX11_match_22 ?_
      exact G_sub [0, 1] rfl (gX11_match_26 hX hQ hcs N p0 (0 : Int32) μ)
  · refine G_iconst hX (1 : Int32) rfl dX11_match_9 ?_
    refine G_goto hX 26 (by decide) dX11_match_10 ?_
    exact G_sub [0, 1] rfl (gX11_match_26 hX hQ hcs N p0 (1 : Int32) μ)
theorem cX11_match_ok (l : Launch) (N : Nat) (p0 : Int32) (μ : Mem) (z : Int32 × Mem) (h : fX11_match N p0 μ = some z) : Mi wM l yX11_match cX11_match 2 .int (rmo 7 161) (fun ad adK => [.ref (ad 0), .int p0]) μ z := Mi.of h (by decide +kernel) (fun _ _ => Nat.le_of_ble_eq_true rfl) (fun X hX hQ hl hcs => gX11_match_E hX hQ hcs N p0 μ)
/-! ===== DutyCaseModel.monthFor(I)I ===== -/
set_option maxHeartbeats 4000000 in
set_option maxRecDepth 100000 in
theorem gX11_monthFor_E {X : Ctx} {z : Int32 × Mem} (hX : Fx wM X cX11_monthFor 2 RX11 (some .int) (rmo 1 22)) (hQ : Qx_i wM X z) (hcs : cx_cells X = 0 ∧ cx_slots X = 0) (N : Nat) (p0 : Int32) (μ : Mem) : G wM X z 0 [(0, .ref (cx_ad X 0)), (1, .int p0)] [] μ (fX11_monthFor N p0 μ) := by
  unfold fX11_monthFor
  refine G_aload_n hX 0 rfl rfl dX11_monthFor_0 ?_
  refine gf_X11_7_M0 hX dX11_monthFor_1 ?_
  refine G_bipush hX (31 : Int32) rfl dX11_monthFor_4 ?_
  refine G_aI hX atM1 dX11_monthFor_6 (fun x1 => ?_)
  refine G_iconst hX (1 : Int32) rfl dX11_monthFor_7 ?_
  refine G_icmp_ne hX 20 (by decide) dX11_monthFor_8 ?_ ?_
  · refine G_iconst hX (-1 : Int32) rfl dX11_monthFor_20 ?_
    exact G_iret hX hQ dX11_monthFor_21
  · refine G_aload_n hX 0 rfl rfl dX11_monthFor_11 ?_
    refine G_iload_n hX 1 rfl rfl dX11_monthFor_12 ?_
    refine G_iconst hX (4 : Int32) rfl dX11_monthFor_13 ?_
    refine G_cVi hX 0 11 (fun ad adK => [.int p0, .int (4 : Int32)]) [] (fun z2 h2 => cX11_of_ok (cx_l X) N p0 (4 : Int32) μ z2 h2) ok_X11_of lm_X11_305 atM0.1 atM0.2 rfl rfl (fun _ _ => rfl) (Nat.le_of_ble_eq_true rfl) ⟨rfl, rfl, by decide, by decide⟩ (cs0 hcs) dX11_monthFor_14 (fun r2 μ => ?_)
    refine G_goto hX 21 (by decide) dX11_monthFor_17 ?_
    exact G_iret hX hQ dX11_monthFor_21
theorem cX11_monthFor_ok (l : Launch) (N : Nat) (p0 : Int32) (μ : Mem) (z : Int32 × Mem) (h : fX11_monthFor N p0 μ = some z) : Mi wM l yX11_monthFor cX11_monthFor 2 .int (rmo 1 22) (fun ad adK => [.ref (ad 0), .int p0]) μ z := Mi.of h (by decide +kernel) (fun _ _ => Nat.le_of_ble_eq_true rfl) (fun X hX hQ hl hcs => gX11_monthFor_E hX hQ hcs N p0 μ)
/-! ===== DutyCaseModel.differenceOf(II)J ===== -/
set_option maxHeartbeats 4000000 in
set_option maxRecDepth 100000 in
theorem gX11_differenceOf_108 {X : Ctx} {z : Int64 × Mem} (hX : Fx wM X cX11_differenceOf 8 RX11 (some .long) (rmo 8 188)) (hQ : Qx_l wM X z) (hcs : cx_cells X = 0 ∧ cx_slots X = 0) (N : Nat) (v1 : Int32) (v4 : Int64) (μ : Mem) : G wM X z 108 [(0, .ref (cx_ad X 0)), (1, .int v1), (4, .long v4)] [] μ (fX11_differenceOf_108 N v1 v4 μ) := by
  unfold fX11_differenceOf_108
  refine G_lload hX 2 rfl dX11_differenceOf_108 ?_
  refine G_ldc2 hX lc_X11_409 dX11_differenceOf_110 ?_
  refine G_aload_n hX 0 rfl rfl dX11_differenceOf_113 ?_
  refine gf_X11_69_M0 hX dX11_differenceOf_114 ?_
  refine G_iload_n hX 1 rfl rfl dX11_differenceOf_117 ?_
  refine G_aI hX atM19 dX11_differenceOf_118 (fun x14 => ?_)
  refine G_i2l hX dX11_differenceOf_119 ?_
  refine G_lmul hX dX11_differenceOf_120 ?_
  refine G_lsub hX dX11_differenceOf_121 ?_
  refine G_aload_n hX 0 rfl rfl dX11_differenceOf_122 ?_
  refine G_iload_n hX 1 rfl rfl dX11_differenceOf_123 ?_
  refine G_iconst hX (5 : Int32) rfl dX11_differenceOf_124 ?_
  refine G_cVi hX 0 11 (fun ad adK => [.int v1, .int (5 : Int32)]) [.long (v4 - ((1000 : Int64) * x14.toInt64))] (fun z2 h2 => cX11_of_ok (cx_l X) N v1 (5 : Int32) μ z2 h2) ok_X11_of lm_X11_305 atM0.1 atM0.2 rfl rfl (fun _ _ => rfl) (Nat.le_of_ble_eq_true rfl) ⟨rfl, rfl, by decide, by decide⟩ (cs0 hcs) dX11_differenceOf_125 (fun r15 μ => ?_)
  refine G_i2l hX dX11_differenceOf_128 ?_
  refine G_lmul hX dX11_differenceOf_129 ?_
  exact G_lret hX hQ dX11_differenceOf_130
set_option maxHeartbeats 4000000 in
set_option maxRecDepth 100000 in
theorem gX11_differenceOf_18 {X : Ctx} {z : Int64 × Mem} (hX : Fx wM X cX11_differenceOf 8 RX11 (some .long) (rmo 8 188)) (hQ : Qx_l wM X z) (hcs : cx_cells X = 0 ∧ cx_slots X = 0) (N : Nat) (v1 : Int32) (s0 : Int32) (μ : Mem) : G wM X z 18 [(0, .ref (cx_ad X 0)), (1, .int v1)] [.int s0] μ (fX11_differenceOf_18 N v1 s0 μ) := by
  unfold fX11_differenceOf_18
  refine G_istore_n hX [(3, .int s0), (0, .ref (cx_ad X 0)), (1, .int v1)] rfl (by decide) rfl dX11_differenceOf_18 ?_
  refine G_iload_n hX 0 rfl rfl dX11_differenceOf_19 ?_
  refine G_iconst hX (-1 : Int32) rfl dX11_differenceOf_20 ?_
  refine G_icmp_ne hX 56 (by decide) dX11_differenceOf_21 ?_ ?_
  · refine G_aload_n hX 1 rfl rfl dX11_differenceOf_56 ?_
    refine gf_X11_69_M0 hX dX11_differenceOf_57 ?_
    refine G_iload_n hX 0 rfl rfl dX11_differenceOf_60 ?_
    refine G_aI hX atM19 dX11_differenceOf_61 (fun x2 => ?_)
    refine G_i2l hX dX11_differenceOf_62 ?_
    refine G_aload_n hX 1 rfl rfl dX11_differenceOf_63 ?_
    refine gf_X11_7_M0 hX dX11_differenceOf_64 ?_
    refine G_bipush hX (33 : Int32) rfl dX11_differenceOf_67 ?_
    refine G_aI hX atM1 dX11_differenceOf_69 (fun x3 => ?_)
    refine G_i2l hX dX11_differenceOf_70 ?_
    refine G_aload_n hX 1 rfl rfl dX11_differenceOf_71 ?_
    refine G_iload_n hX 2 rfl rfl dX11_differenceOf_72 ?_
    refine G_iconst hX (3 : Int32) rfl dX11_differenceOf_73 ?_
    refine G_cVi hX 0 11 (fun ad adK => [.int v1, .int (3 : Int32)]) [.long x3.toInt64, .long x2.toInt64] (fun z2 h2 => cX11_of_ok (cx_l X) N v1 (3 : Int32) μ z2 h2) ok_X11_of lm_X11_305 atM0.1 atM0.2 rfl rfl (fun _ _ => rfl) (Nat.le_of_ble_eq_true rfl) ⟨rfl, rfl, by decide, by decide⟩ (cs0 hcs) dX11_differenceOf_74 (fun r4 μ => ?_)
    refine G_aload_n hX 1 rfl rfl dX11_differenceOf_77 ?_
    refine G_iload_n hX 0 rfl rfl dX11_differenceOf_78 ?_
    refine G_iconst hX (3 : Int32) rfl dX11_differenceOf_79 ?_
    refine G_cVi hX 0 11 (fun ad adK => [.int s0, .int (3 : Int32)]) [.int r4, .long x3.toInt64, .long x2.toInt64] (fun z2 h2 => cX11_of_ok (cx_l X) N s0 (3 : Int32) μ z2 h2) ok_X11_of lm_X11_305 atM0.1 atM0.2 rfl rfl (fun _ _ => rfl) (Nat.le_of_ble_eq_true rfl) ⟨rfl, rfl, by decide, by decide⟩ (cs0 hcs) dX11_differenceOf_80 (fun r5 μ => ?_)
    refine G_isub hX dX11_differenceOf_83 ?_
    refine G_i2l hX dX11_differenceOf_84 ?_
    refine G_lmul hX dX11_differenceOf_85 ?_
    refine G_ladd hX dX11_differenceOf_86 ?_
    refine G_nml (fun x6 => ?_)
    refine G_lstore hX [(6, .long x6), (3, .int s0), (0, .ref (cx_ad X 0)), (1, .int v1)] (by decide) rfl dX11_differenceOf_87 ?_
    refine G_ldc2 hX lc_X11_409 dX11_differenceOf_89 ?_
    refine G_lload hX 0 rfl dX11_differenceOf_92 ?_
    refine G_lconst hX (0 : Int64) rfl dX11_differenceOf_94 ?_
    refine G_lcmp hX dX11_differenceOf_95 ?_
    refine G_if_ge hX 103 (by decide) dX11_differenceOf_96 ?_ ?_
    · refine G_lload hX 0 rfl dX11_differenceOf_103 ?_
      refine G_lmul hX dX11_differenceOf_105 ?_
      refine G_nml (fun x7 => ?_)
      refine G_lstore hX [(4, .long x7), (6, .long x6), (3, .int s0), (0, .ref (cx_ad X 0)), (1, .int v1)] (by decide) rfl dX11_differenceOf_106 ?_
      exact G_sub [3, 4, 0] rfl (gX11_differenceOf_108 hX hQ hcs N v1 x7 μ)
    · refine G_lconst hX (0 : Int64) rfl dX11_differenceOf_99 ?_
      refine G_goto hX 105 (by decide) dX11_differenceOf_100 ?_
      refine G_lmul hX dX11_differenceOf_105 ?_
      refine G_nml (fun x8 => ?_)
      refine G_lstore hX [(4, .long x8), (6, .long x6), (3, .int s0), (0, .ref (cx_ad X 0)), (1, .int v1)] (by decide) rfl dX11_differenceOf_106 ?_
      exact G_sub [3, 4, 0] rfl (gX11_differenceOf_108 hX hQ hcs N v1 x8 μ)
  · refine G_aload_n hX 1 rfl rfl dX11_differenceOf_24 ?_
    refine G_aload_n hX 1 rfl rfl dX11_differenceOf_25 ?_
    refine G_iload_n hX 2 rfl rfl dX11_differenceOf_26 ?_
    refine G_iconst hX (1 : Int32) rfl dX11_differenceOf_27 ?_
    refine G_cVi hX 0 11 (fun ad adK => [.int v1, .int (1 : Int32)]) [.ref (cx_ad X 0)] (fun z2 h2 => cX11_of_ok (cx_l X) N v1 (1 : Int32) μ z2 h2) ok_X11_of lm_X11_305 atM0.1 atM0.2 rfl rfl (fun _ _ => rfl) (Nat.le_of_ble_eq_true rfl) ⟨rfl, rfl, by decide, by decide⟩ (cs0 hcs) dX11_differenceOf_28 (fun r9 μ => ?_)
    refine G_aload_n hX 1 rfl rfl dX11_differenceOf_31 ?_
    refine G_iload_n hX 2 rfl rfl dX11_differenceOf_32 ?_
    refine G_iconst hX (2 : Int32) rfl dX11_differenceOf_33 ?_
    refine G_cVi hX 0 11 (fun ad adK => [.int v1, .int (2 : Int32)]) [.int r9, .ref (cx_ad X 0)] (fun z2 h2 => cX11_of_ok (cx_l X) N v1 (2 : Int32) μ z2 h2) ok_X11_of lm_X11_305 atM0.1 atM0.2 rfl rfl (fun _ _ => rfl) (Nat.le_of_ble_eq_true rfl) ⟨rfl, rfl, by decide, by decide⟩ (cs0 hcs) dX11_differenceOf_34 (fun r10 μ => ?_)
    refine G_aload_n hX 1 rfl rfl dX11_differenceOf_37 ?_
    refine G_iload_n hX 2 rfl rfl dX11_differenceOf_38 ?_
    refine G_iconst hX (3 : Int32) rfl dX11_differenceOf_39 ?_
    refine G_cVi hX 0 11 (fun ad adK => [.int v1, .int (3 : Int32)]) [.int r10, .int r9, .ref (cx_ad X 0)] (fun z2 h2 => cX11_of_ok (cx_l X) N v1 (3 : Int32) μ z2 h2) ok_X11_of lm_X11_305 atM0.1 atM0.2 rfl rfl (fun _ _ => rfl) (Nat.le_of_ble_eq_true rfl) ⟨rfl, rfl, by decide, by decide⟩ (cs0 hcs) dX11_differenceOf_40 (fun r11 μ => ?_)
    refine G_aload_n hX 1 rfl rfl dX11_differenceOf_43 ?_
    refine G_iload_n hX 2 rfl rfl dX11_differenceOf_44 ?_
    refine G_cVi hX 0 11 (fun ad adK => [.int v1]) [.int r11, .int r10, .int r9, .ref (cx_ad X 0)] (fun z2 h2 => cX11_monthFor_ok (cx_l X) N v1 μ z2 h2) ok_X11_monthFor lm_X11_431 atM0.1 atM0.2 rfl rfl (fun _ _ => rfl) (Nat.le_of_ble_eq_true rfl) ⟨rfl, rfl, by decide, by decide⟩ (cs0 hcs) dX11_differenceOf_45 (fun r12 μ => ?_)
    refine G_cVl hX 0 11 (fun ad adK => [.int r9, .int r10, .int r11, .int r12]) [] (fun z2 h2 => cX11_worthOf_ok (cx_l X) N r9 r10 r11 r12 μ z2 h2) ok_X11_worthOf lm_X11_419 atM0.1 atM0.2 rfl rfl (fun _ _ => rfl) (Nat.le_of_ble_eq_true rfl) ⟨rfl, rfl, by decide, by decide⟩ (cs0 hcs) dX11_differenceOf_48 (fun r13 μ => ?_)
    refine G_lstore hX [(4, .long r13), (3, .int s0), (0, .ref (cx_ad X 0)), (1, .int v1)] (by decide) rfl dX11_differenceOf_51 ?_
    refine G_goto hX 108 (by decide) dX11_differenceOf_53 ?_
    exact G_sub [2, 3, 0] rfl (gX11_differenceOf_108 hX hQ hcs N v1 r13 μ)
set_option maxHeartbeats 4000000 in
set_option maxRecDepth 100000 in
theorem gX11_differenceOf_E {X : Ctx} {z : Int64 × Mem} (hX : Fx wM X cX11_differenceOf 8 RX11 (some .long) (rmo 8 188)) (hQ : Qx_l wM X z) (hcs : cx_cells X = 0 ∧ cx_slots X = 0) (N : Nat) (p0 : Int32) (p1 : Int32) (μ : Mem) : G wM X z 0 [(0, .ref (cx_ad X 0)), (1, .int p0), (2, .int p1)] [] μ (fX11_differenceOf N p0 p1 μ) := by
  unfold fX11_differenceOf
  refine G_aload_n hX 0 rfl rfl dX11_differenceOf_0 ?_
  refine G_cVv hX 0 11 (fun ad adK => []) [] (fun z2 h2 => cX11_lays_ok (cx_l X) N μ z2 h2) ok_X11_lays lm_X11_367 atM0.1 atM0.2 rfl rfl (fun _ _ => rfl) (Nat.le_of_ble_eq_true rfl) ⟨rfl, rfl, by decide, by decide⟩ (cs0 hcs) dX11_differenceOf_1 (fun μ => ?_)
  refine G_iload_n hX 2 rfl rfl dX11_differenceOf_4 ?_
  refine G_iconst hX (2 : Int32) rfl dX11_differenceOf_5 ?_
  refine G_icmp_ne hX 17 (by decide) dX11_differenceOf_6 ?_ ?_
  · refine G_iconst hX (-1 : Int32) rfl dX11_differenceOf_17 ?_
    exact G_sub [0, 1] rfl (gX11_differenceOf_18 hX hQ hcs N p0 (-1 : Int32) μ)
  · refine G_aload_n hX 0 rfl rfl dX11_differenceOf_9 ?_
    refine G_iload_n hX 1 rfl rfl dX11_differenceOf_10 ?_
    refine G_cVi hX 0 11 (fun ad adK => [.int p0]) [] (fun z2 h2 => cX11_matchOf_ok (cx_l X) N p0 μ z2 h2) ok_X11_matchOf lm_X11_428 atM0.1 atM0.2 rfl rfl (fun _ _ => rfl) (Nat.le_of_ble_eq_true rfl) ⟨rfl, rfl, by decide, by decide⟩ (cs0 hcs) dX11_differenceOf_11 (fun r1 μ => ?_)
    refine G_goto hX 18 (by decide) dX11_differenceOf_14 ?_
    exact G_sub [0, 1] rfl (gX11_differenceOf_18 hX hQ hcs N p0 r1 μ)
theorem cX11_differenceOf_ok (l : Launch) (N : Nat) (p0 : Int32) (p1 : Int32) (μ : Mem) (z : Int64 × Mem) (h : fX11_differenceOf N p0 p1 μ = some z) : Ml wM l yX11_differenceOf cX11_differenceOf 8 .long (rmo 8 188) (fun ad adK => [.ref (ad 0), .int p0, .int p1]) μ z := Ml.of h (by decide +kernel) (fun _ _ => Nat.le_of_ble_eq_true rfl) (fun X hX hQ hl hcs => gX11_differenceOf_E hX hQ hcs N p0 p1 μ)
/-! ===== DutyCaseModel.difference(II)J ===== -/
set_option maxHeartbeats 4000000 in
set_option maxRecDepth 100000 in
theorem gX11_difference_38 {X : Ctx} {z : Int64 × Mem} (hX : Fx wM X cX11_difference 3 RX11 (some .long) (rmo 9 215)) (hQ : Qx_l wM X z) (hcs : cx_cells X = 0 ∧ cx_slots X = 0) (N : Nat) (v1 : Int32) (v2 : Int32) (s0 : Int32) (μ : Mem) : G wM X z 38 [(0, .ref (cx_ad X 0)), (1, .int v1), (2, .int v2)] [.int s0, .ref (cx_ad X 0)] μ (fX11_difference_38 N v1 v2 s0 μ) := by
  unfold fX11_difference_38
  refine pf_X11_104_M0 hX dX11_difference_38 (fun μ => ?_)
  refine G_aload_n hX 0 rfl rfl dX11_difference_41 ?_
  refine gf_X11_104_M0 hX dX11_difference_42 ?_
  refine G_nmi (fun x4 => ?_)
  refine G_if_le hX 52 (by decide) dX11_difference_45 ?_ ?_
  · refine G_aload_n hX 0 rfl rfl dX11_difference_52 ?_
    refine G_iload_n hX 1 rfl rfl dX11_difference_53 ?_
    refine G_iload_n hX 2 rfl rfl dX11_difference_54 ?_
    refine G_cVl hX 0 11 (fun ad adK => [.int v1, .int v2]) [] (fun z2 h2 => cX11_differenceOf_ok (cx_l X) N v1 v2 μ z2 h2) ok_X11_differenceOf lm_X11_434 atM0.1 atM0.2 rfl rfl (fun _ _ => rfl) (Nat.le_of_ble_eq_true rfl) ⟨rfl, rfl, by decide, by decide⟩ (cs0 hcs) dX11_difference_55 (fun r5 μ => ?_)
    exact G_lret hX hQ dX11_difference_58
  · refine G_lconst hX (0 : Int64) rfl dX11_difference_48 ?_
    refine G_goto hX 58 (by decide) dX11_difference_49 ?_
    exact G_lret hX hQ dX11_difference_58
set_option maxHeartbeats 4000000 in
set_option maxRecDepth 100000 in
theorem gX11_difference_E {X : Ctx} {z : Int64 × Mem} (hX : Fx wM X cX11_difference 3 RX11 (some .long) (rmo 9 215)) (hQ : Qx_l wM X z) (hcs : cx_cells X = 0 ∧ cx_slots X = 0) (N : Nat) (p0 : Int32) (p1 : Int32) (μ : Mem) : G wM X z 0 [(0, .ref (cx_ad X 0)), (1, .int p0), (2, .int p1)] [] μ (fX11_difference N p0 p1 μ) := by
  unfold fX11_difference
  refine G_aload_n hX 0 rfl rfl dX11_difference_0 ?_
  refine G_aload_n hX 0 rfl rfl dX11_difference_1 ?_
  refine G_iload_n hX 1 rfl rfl dX11_difference_2 ?_
  refine G_cVi hX 0 11 (fun ad adK => [.int p0]) [.ref (cx_ad X 0)] (fun z2 h2 => cX11_isSale_ok (cx_l X) N p0 μ z2 h2) ok_X11_isSale lm_X11_341 atM0.1 atM0.2 rfl rfl (fun _ _ => rfl) (Nat.le_of_ble_eq_true rfl) ⟨rfl, rfl, by decide, by decide⟩ (cs0 hcs) dX11_difference_3 (fun r1 μ => ?_)
  refine G_if_ne hX 13 (by decide) dX11_difference_6 ?_ ?_
  · refine G_aload_n hX 0 rfl rfl dX11_difference_13 ?_
    refine G_iload_n hX 1 rfl rfl dX11_difference_14 ?_
    refine G_cVi hX 0 11 (fun ad adK => [.int p0]) [.ref (cx_ad X 0)] (fun z2 h2 => cX11_isExport_ok (cx_l X) N p0 μ z2 h2) ok_X11_isExport lm_X11_425 atM0.1 atM0.2 rfl rfl (fun _ _ => rfl) (Nat.le_of_ble_eq_true rfl) ⟨rfl, rfl, by decide, by decide⟩ (cs0 hcs) dX11_difference_15 (fun r2 μ => ?_)
    refine G_if_eq hX 37 (by decide) dX11_difference_18 ?_ ?_
    · refine G_iconst hX (2 : Int32) rfl dX11_difference_37 ?_
      exact G_sub [0, 1, 2] rfl (gX11_difference_38 hX hQ hcs N p0 p1 (2 : Int32) μ)
    · refine G_iload_n hX 2 rfl rfl dX11_difference_21 ?_
      refine G_i2l hX dX11_difference_22 ?_
      refine G_lconst hX (1 : Int64) rfl dX11_difference_23 ?_
      refine G_ldc2 hX lc_X11_320 dX11_difference_24 ?_
      refine G_cSi hX (fun ad adK => [.long p1.toInt64, .long (1 : Int64), .long (2 : Int64)]) [.ref (cx_ad X 0)] (fun z2 h2 => cX11_isIn_ok (cx_l X) N p1.toInt64 (1 : Int64) (2 : Int64) μ z2 h2) ok_X11_isIn lm_X11_301 rfl (fun _ _ => rfl) (Nat.le_of_ble_eq_true rfl) ⟨rfl, rfl, by decide, by decide⟩ (cs0 hcs) dX11_difference_27 (fun r3 μ => ?_)
      refine G_if_eq hX 37 (by decide) dX11_difference_30 ?_ ?_
      · refine G_iconst hX (2 : Int32) rfl dX11_difference_37 ?_
        exact G_sub [0, 1, 2] rfl (gX11_difference_38 hX hQ hcs N p0 p1 (2 : Int32) μ)
      · refine G_iconst hX (0 : Int32) rfl dX11_difference_33 ?_
        refine G_goto hX 38 (by decide) dX11_difference_34 ?_
        exact G_sub [0, 1, 2] rfl (gX11_difference_38 hX hQ hcs N p0 p1 (0 : Int32) μ)
  · refine G_iconst hX (1 : Int32) rfl dX11_difference_9 ?_
    refine G_goto hX 38 (by decide) dX11_difference_10 ?_
    exact G_sub [0, 1, 2] rfl (gX11_difference_38 hX hQ hcs N p0 p1 (1 : Int32) μ)
theorem cX11_difference_ok (l : Launch) (N : Nat) (p0 : Int32) (p1 : Int32) (μ : Mem) (z : Int64 × Mem) (h : fX11_difference N p0 p1 μ = some z) : Ml wM l yX11_difference cX11_difference 3 .long (rmo 9 215) (fun ad adK => [.ref (ad 0), .int p0, .int p1]) μ z := Ml.of h (by decide +kernel) (fun _ _ => Nat.le_of_ble_eq_true rfl) (fun X hX hQ hl hcs => gX11_difference_E hX hQ hcs N p0 p1 μ)
/-! ===== DutyCaseModel.isSameGroup(II)Z ===== -/
set_option maxHeartbeats 4000000 in
set_option maxRecDepth 100000 in
theorem gX11_isSameGroup_E {X : Ctx} {z : Int32 × Mem} (hX : Fx wM X cX11_isSameGroup 3 RX11 (some .boolean) (rmo 2 43)) (hQ : Qx_i wM X z) (hcs : cx_cells X = 0 ∧ cx_slots X = 0) (N : Nat) (p0 : Int32) (p1 : Int32) (μ : Mem) : G wM X z 0 [(0, .ref (cx_ad X 0)), (1, .int p0), (2, .int p1)] [] μ (fX11_isSameGroup N p0 p1 μ) := by
  unfold fX11_isSameGroup
  refine G_aload_n hX 0 rfl rfl dX11_isSameGroup_0 ?_
  refine G_iload_n hX 1 rfl rfl dX11_isSameGroup_1 ?_
  refine G_iconst hX (2 : Int32) rfl dX11_isSameGroup_2 ?_
  refine G_cVi hX 0 11 (fun ad adK => [.int p0, .int (2 : Int32)]) [] (fun z2 h2 => cX11_of_ok (cx_l X) N p0 (2 : Int32) μ z2 h2) ok_X11_of lm_X11_305 atM0.1 atM0.2 rfl rfl (fun _ _ => rfl) (Nat.le_of_ble_eq_true rfl) ⟨rfl, rfl, by decide, by decide⟩ (cs0 hcs) dX11_isSameGroup_3 (fun r1 μ => ?_)
  refine G_aload_n hX 0 rfl rfl dX11_isSameGroup_6 ?_
  refine G_iload_n hX 2 rfl rfl dX11_isSameGroup_7 ?_
  refine G_iconst hX (2 : Int32) rfl dX11_isSameGroup_8 ?_
  refine G_cVi hX 0 11 (fun ad adK => [.int p1, .int (2 : Int32)]) [.int r1] (fun z2 h2 => cX11_of_ok (cx_l X) N p1 (2 : Int32) μ z2 h2) ok_X11_of lm_X11_305 atM0.1 atM0.2 rfl rfl (fun _ _ => rfl) (Nat.le_of_ble_eq_true rfl) ⟨rfl, rfl, by decide, by decide⟩ (cs0 hcs) dX11_isSameGroup_9 (fun r2 μ => ?_)
  refine G_icmp_ne hX 47 (by decide) dX11_isSameGroup_12 ?_ ?_
  · refine G_iconst hX (0 : Int32) rfl dX11_isSameGroup_47 ?_
    exact G_zret hX hQ rfl dX11_isSameGroup_48
  · refine G_aload_n hX 0 rfl rfl dX11_isSameGroup_15 ?_
    refine G_iload_n hX 1 rfl rfl dX11_isSameGroup_16 ?_
    refine G_iconst hX (3 : Int32) rfl dX11_isSameGroup_17 ?_
    refine G_cVi hX 0 11 (fun ad adK => [.int p0, .int (3 : Int32)]) [] (fun z2 h2 => cX11_of_ok (cx_l X) N p0 (3 : Int32) μ z2 h2) ok_X11_of lm_X11_305 atM0.1 atM0.2 rfl rfl (fun _ _ => rfl) (Nat.le_of_ble_eq_true rfl) ⟨rfl, rfl, by decide, by decide⟩ (cs0 hcs) dX11_isSameGroup_18 (fun r3 μ => ?_)
    refine G_aload_n hX 0 rfl rfl dX11_isSameGroup_21 ?_
    refine G_iload_n hX 2 rfl rfl dX11_isSameGroup_22 ?_
    refine G_iconst hX (3 : Int32) rfl dX11_isSameGroup_23 ?_
    refine G_cVi hX 0 11 (fun ad adK => [.int p1, .int (3 : Int32)]) [.int r3] (fun z2 h2 => cX11_of_ok (cx_l X) N p1 (3 : Int32) μ z2 h2) ok_X11_of lm_X11_305 atM0.1 atM0.2 rfl rfl (fun _ _ => rfl) (Nat.le_of_ble_eq_true rfl) ⟨rfl, rfl, by decide, by decide⟩ (cs0 hcs) dX11_isSameGroup_24 (fun r4 μ => ?_)
    refine G_icmp_ne hX 47 (by decide) dX11_isSameGroup_27 ?_ ?_
    · refine G_iconst hX (0 : Int32) rfl dX11_isSameGroup_47 ?_
      exact G_zret hX hQ rfl dX11_isSameGroup_48
    · refine G_aload_n hX 0 rfl rfl dX11_isSameGroup_30 ?_
      refine G_iload_n hX 1 rfl rfl dX11_isSameGroup_31 ?_
      refine G_cVi hX 0 11 (fun ad adK => [.int p0]) [] (fun z2 h2 => cX11_monthFor_ok (cx_l X) N p0 μ z2 h2) ok_X11_monthFor lm_X11_431 atM0.1 atM0.2 rfl rfl (fun _ _ => rfl) (Nat.le_of_ble_eq_true rfl) ⟨rfl, rfl, by decide, by decide⟩ (cs0 hcs) dX11_isSameGroup_32 (fun r5 μ => ?_)
      refine G_aload_n hX 0 rfl rfl dX11_isSameGroup_35 ?_
      refine G_iload_n hX 2 rfl rfl dX11_isSameGroup_36 ?_
      refine G_cVi hX 0 11 (fun ad adK => [.int p1]) [.int r5] (fun z2 h2 => cX11_monthFor_ok (cx_l X) N p1 μ z2 h2) ok_X11_monthFor lm_X11_431 atM0.1 atM0.2 rfl rfl (fun _ _ => rfl) (Nat.le_of_ble_eq_true rfl) ⟨rfl, rfl, by decide, by decide⟩ (cs0 hcs) dX11_isSameGroup_37 (fun r6 μ => ?_)
      refine G_icmp_ne hX 47 (by decide) dX11_isSameGroup_40 ?_ ?_
      · refine G_iconst hX (0 : Int32) rfl dX11_isSameGroup_47 ?_
        exact G_zret hX hQ rfl dX11_isSameGroup_48
      · refine G_iconst hX (1 : Int32) rfl dX11_isSameGroup_43 ?_
        refine G_goto hX 48 (by decide) dX11_isSameGroup_44 ?_
        exact G_zret hX hQ rfl dX11_isSameGroup_48
theorem cX11_isSameGroup_ok (l : Launch) (N : Nat) (p0 : Int32) (p1 : Int32) (μ : Mem) (z : Int32 × Mem) (h : fX11_isSameGroup N p0 p1 μ = some z) : Mi wM l yX11_isSameGroup cX11_isSameGroup 3 .boolean (rmo 2 43) (fun ad adK => [.ref (ad 0), .int p0, .int p1]) μ z := Mi.of h (by decide +kernel) (fun _ _ => Nat.le_of_ble_eq_true rfl) (fun X hX hQ hl hcs => gX11_isSameGroup_E hX hQ hcs N p0 p1 μ)
/-! ===== DutyCaseModel.laysGroup(II)V ===== -/
set_option maxHeartbeats 4000000 in
set_option maxRecDepth 100000 in
theorem gX11_laysGroup_101 {X : Ctx} {z : Unit × Mem} (hX : Fx wM X cX11_laysGroup 8 RX11 none (rmo 8 188)) (hQ : Qx_v wM X z) (hcs : cx_cells X = 0 ∧ cx_slots X = 0) (N : Nat) (v1 : Int32) (v2 : Int32) (v3 : Int32) (v4 : Int64) (v6 : Int32) (μ : Mem) : G wM X z 101 [(0, .ref (cx_ad X 0)), (1, .int v1), (2, .int v2), (3, .int v3), (4, .long v4), (6, .int v6)] [] μ (fX11_laysGroup_101 N v1 v2 v3 v4 v6 μ) := by
  unfold fX11_laysGroup_101
  refine G_aload_n hX 0 rfl rfl dX11_laysGroup_101 ?_
  refine gf_X11_89_M0 hX dX11_laysGroup_102 ?_
  refine G_iload_n hX 2 rfl rfl dX11_laysGroup_105 ?_
  refine G_iload hX 5 rfl dX11_laysGroup_106 ?_
  refine G_sI hX atM25 dX11_laysGroup_108 (fun μ => ?_)
  refine G_aload_n hX 0 rfl rfl dX11_laysGroup_109 ?_
  refine gf_X11_95_M0 hX dX11_laysGroup_110 ?_
  refine G_iload_n hX 2 rfl rfl dX11_laysGroup_113 ?_
  refine G_ldc2 hX lc_X11_409 dX11_laysGroup_114 ?_
  refine G_lload hX 4 rfl dX11_laysGroup_117 ?_
  refine G_lmul hX dX11_laysGroup_119 ?_
  refine G_iload hX 5 rfl dX11_laysGroup_120 ?_
  refine G_i2l hX dX11_laysGroup_122 ?_
  refine G_ldv hX dX11_laysGroup_123 ?_
  refine G_sL hX atM27 dX11_laysGroup_124 (fun μ => ?_)
  refine G_aload_n hX 0 rfl rfl dX11_laysGroup_125 ?_
  refine gf_X11_98_M0 hX dX11_laysGroup_126 ?_
  refine G_iload_n hX 2 rfl rfl dX11_laysGroup_129 ?_
  refine G_aload_n hX 0 rfl rfl dX11_laysGroup_130 ?_
  refine G_iload_n hX 1 rfl rfl dX11_laysGroup_131 ?_
  refine G_aload_n hX 0 rfl rfl dX11_laysGroup_132 ?_
  refine G_iload_n hX 3 rfl rfl dX11_laysGroup_133 ?_
  refine G_iconst hX (2 : Int32) rfl dX11_laysGroup_134 ?_
  refine G_cVi hX 0 11 (fun ad adK => [.int v3, .int (2 : Int32)]) [.int v1, .ref (cx_ad X 0), .int v2, .ref (cx_ad X 28)] (fun z2 h2 => cX11_of_ok (cx_l X) N v3 (2 : Int32) μ z2 h2) ok_X11_of lm_X11_305 atM0.1 atM0.2 rfl rfl (fun _ _ => rfl) (Nat.le_of_ble_eq_true rfl) ⟨rfl, rfl, by decide, by decide⟩ (cs0 hcs) dX11_laysGroup_135 (fun r15 μ => ?_)
  refine G_aload_n hX 0 rfl rfl dX11_laysGroup_138 ?_
  refine G_iload_n hX 3 rfl rfl dX11_laysGroup_139 ?_
  refine G_iconst hX (3 : Int32) rfl dX11_laysGroup_140 ?_
  refine G_cVi hX 0 11 (fun ad adK => [.int v3, .int (3 : Int32)]) [.int r15, .int v1, .ref (cx_ad X 0), .int v2, .ref (cx_ad X 28)] (fun z2 h2 => cX11_of_ok (cx_l X) N v3 (3 : Int32) μ z2 h2) ok_X11_of lm_X11_305 atM0.1 atM0.2 rfl rfl (fun _ _ => rfl) (Nat.le_of_ble_eq_true rfl) ⟨rfl, rfl, by decide, by decide⟩ (cs0 hcs) dX11_laysGroup_141 (fun r16 μ => ?_)
  refine G_aload_n hX 0 rfl rfl dX11_laysGroup_144 ?_
  refine G_iload_n hX 3 rfl rfl dX11_laysGroup_145 ?_
  refine G_cVi hX 0 11 (fun ad adK => [.int v3]) [.int r16, .int r15, .int v1, .ref (cx_ad X 0), .int v2, .ref (cx_ad X 28)] (fun z2 h2 => cX11_monthFor_ok (cx_l X) N v3 μ z2 h2) ok_X11_monthFor lm_X11_431 atM0.1 atM0.2 rfl rfl (fun _ _ => rfl) (Nat.le_of_ble_eq_true rfl) ⟨rfl, rfl, by decide, by decide⟩ (cs0 hcs) dX11_laysGroup_146 (fun r17 μ => ?_)
  refine G_cVl hX 0 11 (fun ad adK => [.int v1, .int r15, .int r16, .int r17]) [.int v2, .ref (cx_ad X 28)] (fun z2 h2 => cX11_worthOf_ok (cx_l X) N v1 r15 r16 r17 μ z2 h2) ok_X11_worthOf lm_X11_419 atM0.1 atM0.2 rfl rfl (fun _ _ => rfl) (Nat.le_of_ble_eq_true rfl) ⟨rfl, rfl, by decide, by decide⟩ (cs0 hcs) dX11_laysGroup_149 (fun r18 μ => ?_)
  refine G_sL hX atM28 dX11_laysGroup_152 (fun μ => ?_)
  refine G_aload_n hX 0 rfl rfl dX11_laysGroup_153 ?_
  refine gf_X11_86_M0 hX dX11_laysGroup_154 ?_
  refine G_iload_n hX 2 rfl rfl dX11_laysGroup_157 ?_
  refine G_aload_n hX 0 rfl rfl dX11_laysGroup_158 ?_
  refine gf_X11_98_M0 hX dX11_laysGroup_159 ?_
  refine G_iload_n hX 2 rfl rfl dX11_laysGroup_162 ?_
  refine G_aL hX atM28 dX11_laysGroup_163 (fun x19 => ?_)
  refine G_aload_n hX 0 rfl rfl dX11_laysGroup_164 ?_
  refine gf_X11_95_M0 hX dX11_laysGroup_165 ?_
  refine G_iload_n hX 2 rfl rfl dX11_laysGroup_168 ?_
  refine G_aL hX atM27 dX11_laysGroup_169 (fun x20 => ?_)
  refine G_lsub hX dX11_laysGroup_170 ?_
  refine G_iload hX 5 rfl dX11_laysGroup_171 ?_
  refine G_i2l hX dX11_laysGroup_173 ?_
  refine G_lmul hX dX11_laysGroup_174 ?_
  refine G_sL hX atM24 dX11_laysGroup_175 (fun μ => ?_)
  exact G_vret hX hQ dX11_laysGroup_176
set_option maxHeartbeats 4000000 in
set_option maxRecDepth 100000 in
theorem gX11_laysGroup_16 {X : Ctx} {z : Unit × Mem} (hX : Fx wM X cX11_laysGroup 8 RX11 none (rmo 8 188)) (hQ : Qx_v wM X z) (hcs : cx_cells X = 0 ∧ cx_slots X = 0) (N : Nat) : ∀ (n : Nat) (v1 : Int32) (v2 : Int32) (v3 : Int32) (v4 : Int64) (v6 : Int32) (v7 : Int32) (μ : Mem), G wM X z 16 [(0, .ref (cx_ad X 0)), (1, .int v1), (2, .int v2), (3, .int v3), (4, .long v4), (6, .int v6), (7, .int v7)] [] μ (fX11_laysGroup_16 N n v1 v2 v3 v4 v6 v7 μ) := by
  intro n
  induction n with
  | zero =>
    intro v1 v2 v3 v4 v6 v7 μ
    exact G_none
  | succ n ih =>
    intro v1 v2 v3 v4 v6 v7 μ
    unfold fX11_laysGroup_16
    refine G_iload hX 6 rfl dX11_laysGroup_16 ?_
    refine G_aload_n hX 0 rfl rfl dX11_laysGroup_18 ?_
    refine gf_X11_7_M0 hX dX11_laysGroup_19 ?_
    refine G_bipush hX (34 : Int32) rfl dX11_laysGroup_22 ?_
    refine G_aI hX atM1 dX11_laysGroup_24 (fun x2 => ?_)
    refine G_icmp_ge hX 101 (by decide) dX11_laysGroup_25 ?_ ?_
    · exact G_sub [0, 1, 2, 3, 4, 5] rfl (gX11_laysGroup_101 hX hQ hcs N v1 v2 v3 v4 v6 μ)
    · refine G_aload_n hX 0 rfl rfl dX11_laysGroup_28 ?_
      refine G_iload hX 6 rfl dX11_laysGroup_29 ?_
      refine G_cVi hX 0 11 (fun ad adK => [.int v7]) [] (fun z2 h2 => cX11_isExport_ok (cx_l X) N v7 μ z2 h2) ok_X11_isExport lm_X11_425 atM0.1 atM0.2 rfl rfl (fun _ _ => rfl) (Nat.le_of_ble_eq_true rfl) ⟨rfl, rfl, by decide, by decide⟩ (cs0 hcs) dX11_laysGroup_31 (fun r3 μ => ?_)
      refine G_if_eq hX 95 (by decide) dX11_laysGroup_34 ?_ ?_
      · refine G_iincN hX 6 (fun x4 => [(7, .int x4), (0, .ref (cx_ad X 0)), (1, .int v1), (2, .int v2), (3, .int v3), (4, .long v4), (6, .int v6)]) rfl rfl (by decide) (fun _ => rfl) dX11_laysGroup_95 (fun x4 => ?_)
        refine G_goto hX 16 (by decide) dX11_laysGroup_98 ?_
        exact G_sub [1, 2, 3, 4, 5, 6, 0] rfl (ih v1 v2 v3 v4 v6 x4 μ)
      · refine G_aload_n hX 0 rfl rfl dX11_laysGroup_37 ?_
        refine G_iload hX 6 rfl dX11_laysGroup_38 ?_
        refine G_iconst hX (1 : Int32) rfl dX11_laysGroup_40 ?_
        refine G_cVi hX 0 11 (fun ad adK => [.int v7, .int (1 : Int32)]) [] (fun z2 h2 => cX11_of_ok (cx_l X) N v7 (1 : Int32) μ z2 h2) ok_X11_of lm_X11_305 atM0.1 atM0.2 rfl rfl (fun _ _ => rfl) (Nat.le_of_ble_eq_true rfl) ⟨rfl, rfl, by decide, by decide⟩ (cs0 hcs) dX11_laysGroup_41 (fun r5 μ => ?_)
        refine G_iload_n hX 1 rfl rfl dX11_laysGroup_44 ?_
        refine G_icmp_ne hX 95 (by decide) dX11_laysGroup_45 ?_ ?_
        · refine G_iincN hX 6 (fun x6 => [(7, .int x6), (0, .ref (cx_ad X 0)), (1, .int v1), (2, .int v2), (3, .int v3), (4, .long v4), (6, .int v6)]) rfl rfl (by decide) (fun _ => rfl) dX11_laysGroup_95 (fun x6 => ?_)
          refine G_goto hX 16 (by decide) dX11_laysGroup_98 ?_
          exact G_sub [1, 2, 3, 4, 5, 6, 0] rfl (ih v1 v2 v3 v4 v6 x6 μ)
        · refine G_aload_n hX 0 rfl rfl dX11_laysGroup_48 ?_
          refine G_iload_n hX 3 rfl rfl dX11_laysGroup_49 ?_
          refine G_iload hX 6 rfl dX11_laysGroup_50 ?_
          refine G_cVi hX 0 11 (fun ad adK => [.int v3, .int v7]) [] (fun z2 h2 => cX11_isSameGroup_ok (cx_l X) N v3 v7 μ z2 h2) ok_X11_isSameGroup lm_X11_440 atM0.1 atM0.2 rfl rfl (fun _ _ => rfl) (Nat.le_of_ble_eq_true rfl) ⟨rfl, rfl, by decide, by decide⟩ (cs0 hcs) dX11_laysGroup_52 (fun r7 μ => ?_)
          refine G_if_ne hX 61 (by decide) dX11_laysGroup_55 ?_ ?_
          · refine G_lload hX 4 rfl dX11_laysGroup_61 ?_
            refine G_aload_n hX 0 rfl rfl dX11_laysGroup_63 ?_
            refine gf_X11_69_M0 hX dX11_laysGroup_64 ?_
            refine G_iload hX 6 rfl dX11_laysGroup_67 ?_
            refine G_aI hX atM19 dX11_laysGroup_69 (fun x8 => ?_)
            refine G_i2l hX dX11_laysGroup_70 ?_
            refine G_aload_n hX 0 rfl rfl dX11_laysGroup_71 ?_
            refine G_iload hX 6 rfl dX11_laysGroup_72 ?_
            refine G_iconst hX (5 : Int32) rfl dX11_laysGroup_74 ?_
            refine G_cVi hX 0 11 (fun ad adK => [.int v7, .int (5 : Int32)]) [.long x8.toInt64, .long v4] (fun z2 h2 => cX11_of_ok (cx_l X) N v7 (5 : Int32) μ z2 h2) ok_X11_of lm_X11_305 atM0.1 atM0.2 rfl rfl (fun _ _ => rfl) (Nat.le_of_ble_eq_true rfl) ⟨rfl, rfl, by decide, by decide⟩ (cs0 hcs) dX11_laysGroup_75 (fun r9 μ => ?_)
            refine G_i2l hX dX11_laysGroup_78 ?_
            refine G_lmul hX dX11_laysGroup_79 ?_
            refine G_ladd hX dX11_laysGroup_80 ?_
            refine G_nml (fun x10 => ?_)
            refine G_lstore hX [(4, .long x10), (0, .ref (cx_ad X 0)), (1, .int v1), (2, .int v2), (3, .int v3), (6, .int v6), (7, .int v7)] (by decide) rfl dX11_laysGroup_81 ?_
            refine G_iload hX 5 rfl dX11_laysGroup_83 ?_
            refine G_aload_n hX 1 rfl rfl dX11_laysGroup_85 ?_
            refine G_iload hX 6 rfl dX11_laysGroup_86 ?_
            refine G_iconst hX (5 : Int32) rfl dX11_laysGroup_88 ?_
            refine G_cVi hX 0 11 (fun ad adK => [.int v7, .int (5 : Int32)]) [.int v6] (fun z2 h2 => cX11_of_ok (cx_l X) N v7 (5 : Int32) μ z2 h2) ok_X11_of lm_X11_305 atM0.1 atM0.2 rfl rfl (fun _ _ => rfl) (Nat.le_of_ble_eq_true rfl) ⟨rfl, rfl, by decide, by decide⟩ (cs0 hcs) dX11_laysGroup_89 (fun r11 μ => ?_)
            refine G_iadd hX dX11_laysGroup_92 ?_
            refine G_nmi (fun x12 => ?_)
            refine G_istore hX [(6, .int x12), (4, .long x10), (0, .ref (cx_ad X 0)), (1, .int v1), (2, .int v2), (3, .int v3), (7, .int v7)] (by decide) rfl dX11_laysGroup_93 ?_
            refine G_iincN hX 6 (fun x13 => [(7, .int x13), (6, .int x12), (4, .long x10), (0, .ref (cx_ad X 0)), (1, .int v1), (2, .int v2), (3, .int v3)]) rfl rfl (by decide) (fun _ => rfl) dX11_laysGroup_95 (fun x13 => ?_)
            refine G_goto hX 16 (by decide) dX11_laysGroup_98 ?_
            exact G_sub [3, 4, 5, 6, 2, 1, 0] rfl (ih v1 v2 v3 x10 x12 x13 μ)
          · refine G_goto hX 95 (by decide) dX11_laysGroup_58 ?_
            refine G_iincN hX 6 (fun x14 => [(7, .int x14), (0, .ref (cx_ad X 0)), (1, .int v1), (2, .int v2), (3, .int v3), (4, .long v4), (6, .int v6)]) rfl rfl (by decide) (fun _ => rfl) dX11_laysGroup_95 (fun x14 => ?_)
            refine G_goto hX 16 (by decide) dX11_laysGroup_98 ?_
            exact G_sub [1, 2, 3, 4, 5, 6, 0] rfl (ih v1 v2 v3 v4 v6 x14 μ)
set_option maxHeartbeats 4000000 in
set_option maxRecDepth 100000 in
theorem gX11_laysGroup_E {X : Ctx} {z : Unit × Mem} (hX : Fx wM X cX11_laysGroup 8 RX11 none (rmo 8 188)) (hQ : Qx_v wM X z) (hcs : cx_cells X = 0 ∧ cx_slots X = 0) (N : Nat) (p0 : Int32) (p1 : Int32) (μ : Mem) : G wM X z 0 [(0, .ref (cx_ad X 0)), (1, .int p0), (2, .int p1)] [] μ (fX11_laysGroup N p0 p1 μ) := by
  unfold fX11_laysGroup
  refine G_aload_n hX 0 rfl rfl dX11_laysGroup_0 ?_
  refine gf_X11_92_M0 hX dX11_laysGroup_1 ?_
  refine G_iload_n hX 2 rfl rfl dX11_laysGroup_4 ?_
  refine G_aI hX atM26 dX11_laysGroup_5 (fun x1 => ?_)
  refine G_istore_n hX [(3, .int x1), (0, .ref (cx_ad X 0)), (1, .int p0), (2, .int p1)] rfl (by decide) rfl dX11_laysGroup_6 ?_
  refine G_lconst hX (0 : Int64) rfl dX11_laysGroup_7 ?_
  refine G_lstore hX [(4, .long (0 : Int64)), (3, .int x1), (0, .ref (cx_ad X 0)), (1, .int p0), (2, .int p1)] (by decide) rfl dX11_laysGroup_8 ?_
  refine G_iconst hX (0 : Int32) rfl dX11_laysGroup_10 ?_
  refine G_istore hX [(6, .int (0 : Int32)), (4, .long (0 : Int64)), (3, .int x1), (0, .ref (cx_ad X 0)), (1, .int p0), (2, .int p1)] (by decide) rfl dX11_laysGroup_11 ?_
  refine G_iload_n hX 2 rfl rfl dX11_laysGroup_13 ?_
  refine G_istore hX [(7, .int x1), (6, .int (0 : Int32)), (4, .long (0 : Int64)), (3, .int x1), (0, .ref (cx_ad X 0)), (1, .int p0), (2, .int p1)] (by decide) rfl dX11_laysGroup_14 ?_
  exact G_sub [4, 5, 6, 3, 2, 1, 0] rfl (gX11_laysGroup_16 hX hQ hcs N N p0 p1 x1 (0 : Int64) (0 : Int32) x1 μ)
theorem cX11_laysGroup_ok (l : Launch) (N : Nat) (p0 : Int32) (p1 : Int32) (μ : Mem) (z : Unit × Mem) (h : fX11_laysGroup N p0 p1 μ = some z) : Mv wM l yX11_laysGroup cX11_laysGroup 8 (rmo 8 188) (fun ad adK => [.ref (ad 0), .int p0, .int p1]) μ z := Mv.of h (by decide +kernel) (fun _ _ => Nat.le_of_ble_eq_true rfl) (fun X hX hQ hl hcs => gX11_laysGroup_E hX hQ hcs N p0 p1 μ)
/-! ===== DutyCaseModel.laysGroups(I)V ===== -/
set_option maxHeartbeats 4000000 in
set_option maxRecDepth 100000 in
theorem gX11_laysGroups_121 {X : Ctx} {z : Unit × Mem} (hX : Fx wM X cX11_laysGroups 5 RX11 none (rmo 9 215)) (hQ : Qx_v wM X z) (hcs : cx_cells X = 0 ∧ cx_slots X = 0) (N : Nat) : ∀ (n : Nat) (v1 : Int32) (v2 : Int32) (μ : Mem), G wM X z 121 [(0, .ref (cx_ad X 0)), (1, .int v1), (2, .int v2)] [] μ (fX11_laysGroups_121 N n v1 v2 μ) := by
  intro n
  induction n with
  | zero =>
    intro v1 v2 μ
    exact G_none
  | succ n ih =>
    intro v1 v2 μ
    unfold fX11_laysGroups_121
    refine G_iload_n hX 2 rfl rfl dX11_laysGroups_121 ?_
    refine G_aload_n hX 0 rfl rfl dX11_laysGroups_122 ?_
    refine gf_X11_437_M0 hX dX11_laysGroups_123 ?_
    refine G_nmi (fun x4 => ?_)
    refine G_icmp_ge hX 141 (by decide) dX11_laysGroups_126 ?_ ?_
    · exact G_vret hX hQ dX11_laysGroups_141
    · refine G_aload_n hX 0 rfl rfl dX11_laysGroups_129 ?_
      refine G_iload_n hX 1 rfl rfl dX11_laysGroups_130 ?_
      refine G_iload_n hX 2 rfl rfl dX11_laysGroups_131 ?_
      refine G_cVv hX 0 11 (fun ad adK => [.int v1, .int v2]) [] (fun z2 h2 => cX11_laysGroup_ok (cx_l X) N v1 v2 μ z2 h2) ok_X11_laysGroup lm_X11_443 atM0.1 atM0.2 rfl rfl (fun _ _ => rfl) (Nat.le_of_ble_eq_true rfl) ⟨rfl, rfl, by decide, by decide⟩ (cs0 hcs) dX11_laysGroups_132 (fun μ => ?_)
      refine G_iincN hX 2 (fun x5 => [(2, .int x5), (0, .ref (cx_ad X 0)), (1, .int v1)]) rfl rfl (by decide) (fun _ => rfl) dX11_laysGroups_135 (fun x5 => ?_)
      refine G_goto hX 121 (by decide) dX11_laysGroups_138 ?_
      exact G_sub [1, 2, 0] rfl (ih v1 x5 μ)
set_option maxHeartbeats 4000000 in
set_option maxRecDepth 100000 in
theorem gX11_laysGroups_89 {X : Ctx} {z : Unit × Mem} (hX : Fx wM X cX11_laysGroups 5 RX11 none (rmo 9 215)) (hQ : Qx_v wM X z) (hcs : cx_cells X = 0 ∧ cx_slots X = 0) (N : Nat) (k11 : Int32 → Int32 → Mem → Option (Unit × Mem)) (hk11 : ∀ (v1 : Int32) (v2 : Int32) (μ : Mem), G wM X z 11 [(0, .ref (cx_ad X 0)), (1, .int v1), (2, .int v2)] [] μ (k11 v1 v2 μ)) (v1 : Int32) (v2 : Int32) (v3 : Int32) (μ : Mem) : G wM X z 89 [(0, .ref (cx_ad X 0)), (1, .int v1), (2, .int v2), (3, .int v3)] [] μ (fX11_laysGroups_89 N k11 v1 v2 v3 μ) := by
  unfold fX11_laysGroups_89
  refine G_iload_n hX 3 rfl rfl dX11_laysGroups_89 ?_
  refine G_if_eq hX 113 (by decide) dX11_laysGroups_90 ?_ ?_
  · refine G_iincN hX 2 (fun x11 => [(2, .int x11), (0, .ref (cx_ad X 0)), (1, .int v1), (3, .int v3)]) rfl rfl (by decide) (fun _ => rfl) dX11_laysGroups_113 (fun x11 => ?_)
    refine G_goto hX 11 (by decide) dX11_laysGroups_116 ?_
    exact G_sub [1, 2, 0] rfl (hk11 v1 x11 μ)
  · refine G_aload_n hX 0 rfl rfl dX11_laysGroups_93 ?_
    refine gf_X11_92_M0 hX dX11_laysGroups_94 ?_
    refine G_aload_n hX 0 rfl rfl dX11_laysGroups_97 ?_
    refine gf_X11_437_M0 hX dX11_laysGroups_98 ?_
    refine G_nmi (fun x12 => ?_)
    refine G_iload_n hX 2 rfl rfl dX11_laysGroups_101 ?_
    refine G_sI hX atM26 dX11_laysGroups_102 (fun μ => ?_)
    refine G_aload_n hX 0 rfl rfl dX11_laysGroups_103 ?_
    refine G_dup hX rfl dX11_laysGroups_104 ?_
    refine gf_X11_437_M0 hX dX11_laysGroups_105 ?_
    refine G_nmi (fun x13 => ?_)
    refine G_iconst hX (1 : Int32) rfl dX11_laysGroups_108 ?_
    refine G_iadd hX dX11_laysGroups_109 ?_
    refine G_nmi (fun x14 => ?_)
    refine pf_X11_437_M0 hX dX11_laysGroups_110 (fun μ => ?_)
    refine G_iincN hX 2 (fun x15 => [(2, .int x15), (0, .ref (cx_ad X 0)), (1, .int v1), (3, .int v3)]) rfl rfl (by decide) (fun _ => rfl) dX11_laysGroups_113 (fun x15 => ?_)
    refine G_goto hX 11 (by decide) dX11_laysGroups_116 ?_
    exact G_sub [1, 2, 0] rfl (hk11 v1 x15 μ)
set_option maxHeartbeats 4000000 in
set_option maxRecDepth 100000 in
theorem gX11_laysGroups_49 {X : Ctx} {z : Unit × Mem} (hX : Fx wM X cX11_laysGroups 5 RX11 none (rmo 9 215)) (hQ : Qx_v wM X z) (hcs : cx_cells X = 0 ∧ cx_slots X = 0) (N : Nat) (k11 : Int32 → Int32 → Mem → Option (Unit × Mem)) (hk11 : ∀ (v1 : Int32) (v2 : Int32) (μ : Mem), G wM X z 11 [(0, .ref (cx_ad X 0)), (1, .int v1), (2, .int v2)] [] μ (k11 v1 v2 μ)) : ∀ (n : Nat) (v1 : Int32) (v2 : Int32) (v3 : Int32) (v4 : Int32) (μ : Mem), G wM X z 49 [(0, .ref (cx_ad X 0)), (1, .int v1), (2, .int v2), (3, .int v3), (4, .int v4)] [] μ (fX11_laysGroups_49 N k11 n v1 v2 v3 v4 μ) := by
  intro n
  induction n with
  | zero =>
    intro v1 v2 v3 v4 μ
    exact G_none
  | succ n ih =>
    intro v1 v2 v3 v4 μ
    unfold fX11_laysGroups_49
    refine G_iload hX 4 rfl dX11_laysGroups_49 ?_
    refine G_aload_n hX 0 rfl rfl dX11_laysGroups_51 ?_
    refine gf_X11_437_M0 hX dX11_laysGroups_52 ?_
    refine G_nmi (fun x6 => ?_)
    refine G_icmp_ge hX 89 (by decide) dX11_laysGroups_55 ?_ ?_
    · exact G_sub [0, 1, 2, 3] rfl (gX11_laysGroups_89 hX hQ hcs N k11 hk11 v1 v2 v3 μ)
    · refine G_iload_n hX 3 rfl rfl dX11_laysGroups_58 ?_
      refine G_if_eq hX 89 (by decide) dX11_laysGroups_59 ?_ ?_
      · exact G_sub [0, 1, 2, 3] rfl (gX11_laysGroups_89 hX hQ hcs N k11 hk11 v1 v2 v3 μ)
      · refine G_aload_n hX 0 rfl rfl dX11_laysGroups_62 ?_
        refine G_aload_n hX 0 rfl rfl dX11_laysGroups_63 ?_
        refine gf_X11_92_M0 hX dX11_laysGroups_64 ?_
        refine G_iload hX 4 rfl dX11_laysGroups_67 ?_
        refine G_aI hX atM26 dX11_laysGroups_69 (fun x7 => ?_)
        refine G_iload_n hX 2 rfl rfl dX11_laysGroups_70 ?_
        refine G_cVi hX 0 11 (fun ad adK => [.int x7, .int v2]) [] (fun z2 h2 => cX11_isSameGroup_ok (cx_l X) N x7 v2 μ z2 h2) ok_X11_isSameGroup lm_X11_440 atM0.1 atM0.2 rfl rfl (fun _ _ => rfl) (Nat.le_of_ble_eq_true rfl) ⟨rfl, rfl, by decide, by decide⟩ (cs0 hcs) dX11_laysGroups_71 (fun r8 μ => ?_)
        refine G_if_ne hX 81 (by decide) dX11_laysGroups_74 ?_ ?_
        · refine G_iconst hX (0 : Int32) rfl dX11_laysGroups_81 ?_
          refine G_istore_n hX [(3, .int (0 : Int32)), (0, .ref (cx_ad X 0)), (1, .int v1), (2, .int v2), (4, .int v4)] rfl (by decide) rfl dX11_laysGroups_82 ?_
          refine G_iincN hX 4 (fun x9 => [(4, .int x9), (3, .int (0 : Int32)), (0, .ref (cx_ad X 0)), (1, .int v1), (2, .int v2)]) rfl rfl (by decide) (fun _ => rfl) dX11_laysGroups_83 (fun x9 => ?_)
          refine G_goto hX 49 (by decide) dX11_laysGroups_86 ?_
          exact G_sub [2, 3, 4, 1, 0] rfl (ih v1 v2 (0 : Int32) x9 μ)
        · refine G_iconst hX (1 : Int32) rfl dX11_laysGroups_77 ?_
          refine G_goto hX 82 (by decide) dX11_laysGroups_78 ?_
          refine G_istore_n hX [(3, .int (1 : Int32)), (0, .ref (cx_ad X 0)), (1, .int v1), (2, .int v2), (4, .int v4)] rfl (by decide) rfl dX11_laysGroups_82 ?_
          refine G_iincN hX 4 (fun x10 => [(4, .int x10), (3, .int (1 : Int32)), (0, .ref (cx_ad X 0)), (1, .int v1), (2, .int v2)]) rfl rfl (by decide) (fun _ => rfl) dX11_laysGroups_83 (fun x10 => ?_)
          refine G_goto hX 49 (by decide) dX11_laysGroups_86 ?_
          exact G_sub [2, 3, 4, 1, 0] rfl (ih v1 v2 (1 : Int32) x10 μ)
set_option maxHeartbeats 4000000 in
set_option maxRecDepth 100000 in
theorem gX11_laysGroups_11 {X : Ctx} {z : Unit × Mem} (hX : Fx wM X cX11_laysGroups 5 RX11 none (rmo 9 215)) (hQ : Qx_v wM X z) (hcs : cx_cells X = 0 ∧ cx_slots X = 0) (N : Nat) : ∀ (n : Nat) (v1 : Int32) (v2 : Int32) (μ : Mem), G wM X z 11 [(0, .ref (cx_ad X 0)), (1, .int v1), (2, .int v2)] [] μ (fX11_laysGroups_11 N n v1 v2 μ) := by
  intro n
  induction n with
  | zero =>
    intro v1 v2 μ
    exact G_none
  | succ n ih =>
    intro v1 v2 μ
    unfold fX11_laysGroups_11
    refine G_iload_n hX 2 rfl rfl dX11_laysGroups_11 ?_
    refine G_aload_n hX 0 rfl rfl dX11_laysGroups_12 ?_
    refine gf_X11_7_M0 hX dX11_laysGroups_13 ?_
    refine G_bipush hX (34 : Int32) rfl dX11_laysGroups_16 ?_
    refine G_aI hX atM1 dX11_laysGroups_18 (fun x1 => ?_)
    refine G_icmp_ge hX 119 (by decide) dX11_laysGroups_19 ?_ ?_
    · refine G_iconst hX (0 : Int32) rfl dX11_laysGroups_119 ?_
      refine G_istore_n hX [(2, .int (0 : Int32)), (0, .ref (cx_ad X 0)), (1, .int v1)] rfl (by decide) rfl dX11_laysGroups_120 ?_
      exact G_sub [1, 2, 0] rfl (gX11_laysGroups_121 hX hQ hcs N N v1 (0 : Int32) μ)
    · refine G_aload_n hX 0 rfl rfl dX11_laysGroups_22 ?_
      refine G_iload_n hX 2 rfl rfl dX11_laysGroups_23 ?_
      refine G_cVi hX 0 11 (fun ad adK => [.int v2]) [] (fun z2 h2 => cX11_isExport_ok (cx_l X) N v2 μ z2 h2) ok_X11_isExport lm_X11_425 atM0.1 atM0.2 rfl rfl (fun _ _ => rfl) (Nat.le_of_ble_eq_true rfl) ⟨rfl, rfl, by decide, by decide⟩ (cs0 hcs) dX11_laysGroups_24 (fun r2 μ => ?_)
      refine G_if_eq hX 44 (by decide) dX11_laysGroups_27 ?_ ?_
      · refine G_iconst hX (0 : Int32) rfl dX11_laysGroups_44 ?_
        refine G_istore_n hX [(3, .int (0 : Int32)), (0, .ref (cx_ad X 0)), (1, .int v1), (2, .int v2)] rfl (by decide) rfl dX11_laysGroups_45 ?_
        refine G_iconst hX (0 : Int32) rfl dX11_laysGroups_46 ?_
        refine G_istore hX [(4, .int (0 : Int32)), (3, .int (0 : Int32)), (0, .ref (cx_ad X 0)), (1, .int v1), (2, .int v2)] (by decide) rfl dX11_laysGroups_47 ?_
        exact G_sub [2, 3, 4, 1, 0] rfl (gX11_laysGroups_49 hX hQ hcs N (fun v1 v2 μ => fX11_laysGroups_11 N n v1 v2 μ) (fun v1 v2  μ => ih v1 v2  μ) N v1 v2 (0 : Int32) (0 : Int32) μ)
      · refine G_aload_n hX 0 rfl rfl dX11_laysGroups_30 ?_
        refine G_iload_n hX 2 rfl rfl dX11_laysGroups_31 ?_
        refine G_iconst hX (1 : Int32) rfl dX11_laysGroups_32 ?_
        refine G_cVi hX 0 11 (fun ad adK => [.int v2, .int (1 : Int32)]) [] (fun z2 h2 => cX11_of_ok (cx_l X) N v2 (1 : Int32) μ z2 h2) ok_X11_of lm_X11_305 atM0.1 atM0.2 rfl rfl (fun _ _ => rfl) (Nat.le_of_ble_eq_true rfl) ⟨rfl, rfl, by decide, by decide⟩ (cs0 hcs) dX11_laysGroups_33 (fun r3 μ => ?_)
        refine G_iload_n hX 1 rfl rfl dX11_laysGroups_36 ?_
        refine G_icmp_ne hX 44 (by decide) dX11_laysGroups_37 ?_ ?_
        · refine G_iconst hX (0 : Int32) rfl dX11_laysGroups_44 ?_
          refine G_istore_n hX [(3, .int (0 : Int32)), (0, .ref (cx_ad X 0)), (1, .int v1), (2, .int v2)] rfl (by decide) rfl dX11_laysGroups_45 ?_
          refine G_iconst hX (0 : Int32) rfl dX11_laysGroups_46 ?_
          refine G_istore hX [(4, .int (0 : Int32)), (3, .int (0 : Int32)), (0, .ref (cx_ad X 0)), (1, .int v1), (2, .int v2)] (by decide) rfl dX11_laysGroups_47 ?_
          exact G_sub [2, 3, 4, 1, 0] rfl (gX11_laysGroups_49 hX hQ hcs N (fun v1 v2 μ => fX11_laysGroups_11 N n v1 v2 μ) (fun v1 v2  μ => ih v1 v2  μ) N v1 v2 (0 : Int32) (0 : Int32) μ)
        · refine G_iconst hX (1 : Int32) rfl dX11_laysGroups_40 ?_
          refine G_goto hX 45 (by decide) dX11_laysGroups_41 ?_
          refine G_istore_n hX [(3, .int (1 : Int32)), (0, .ref (cx_ad X 0)), (1, .int v1), (2, .int v2)] rfl (by decide) rfl dX11_laysGroups_45 ?_
          refine G_iconst hX (0 : Int32) rfl dX11_laysGroups_46 ?_
          refine G_istore hX [(4, .int (0 : Int32)), (3, .int (1 : Int32)), (0, .ref (cx_ad X 0)), (1, .int v1), (2, .int v2)] (by decide) rfl dX11_laysGroups_47 ?_
          exact G_sub [2, 3, 4, 1, 0] rfl (gX11_laysGroups_49 hX hQ hcs N (fun v1 v2 μ => fX11_laysGroups_11 N n v1 v2 μ) (fun v1 v2  μ => ih v1 v2  μ) N v1 v2 (1 : Int32) (0 : Int32) μ)
set_option maxHeartbeats 4000000 in
set_option maxRecDepth 100000 in
theorem gX11_laysGroups_E {X : Ctx} {z : Unit × Mem} (hX : Fx wM X cX11_laysGroups 5 RX11 none (rmo 9 215)) (hQ : Qx_v wM X z) (hcs : cx_cells X = 0 ∧ cx_slots X = 0) (N : Nat) (p0 : Int32) (μ : Mem) : G wM X z 0 [(0, .ref (cx_ad X 0)), (1, .int p0)] [] μ (fX11_laysGroups N p0 μ) := by
  unfold fX11_laysGroups
  refine G_aload_n hX 0 rfl rfl dX11_laysGroups_0 ?_
  refine G_cVv hX 0 11 (fun ad adK => []) [] (fun z2 h2 => cX11_lays_ok (cx_l X) N μ z2 h2) ok_X11_lays lm_X11_367 atM0.1 atM0.2 rfl rfl (fun _ _ => rfl) (Nat.le_of_ble_eq_true rfl) ⟨rfl, rfl, by decide, by decide⟩ (cs0 hcs) dX11_laysGroups_1 (fun μ => ?_)
  refine G_aload_n hX 0 rfl rfl dX11_laysGroups_4 ?_
  refine G_iconst hX (0 : Int32) rfl dX11_laysGroups_5 ?_
  refine pf_X11_437_M0 hX dX11_laysGroups_6 (fun μ => ?_)
  refine G_iconst hX (0 : Int32) rfl dX11_laysGroups_9 ?_
  refine G_istore_n hX [(2, .int (0 : Int32)), (0, .ref (cx_ad X 0)), (1, .int p0)] rfl (by decide) rfl dX11_laysGroups_10 ?_
  exact G_sub [1, 2, 0] rfl (gX11_laysGroups_11 hX hQ hcs N N p0 (0 : Int32) μ)
theorem cX11_laysGroups_ok (l : Launch) (N : Nat) (p0 : Int32) (μ : Mem) (z : Unit × Mem) (h : fX11_laysGroups N p0 μ = some z) : Mv wM l yX11_laysGroups cX11_laysGroups 5 (rmo 9 215) (fun ad adK => [.ref (ad 0), .int p0]) μ z := Mv.of h (by decide +kernel) (fun _ _ => Nat.le_of_ble_eq_true rfl) (fun X hX hQ hl hcs => gX11_laysGroups_E hX hQ hcs N p0 μ)
/-! ===== DutyCaseModel.laysParts(II)V ===== -/
set_option maxHeartbeats 4000000 in
set_option maxRecDepth 100000 in
theorem gX11_laysParts_21 {X : Ctx} {z : Unit × Mem} (hX : Fx wM X cX11_laysParts 4 RX11 none (rmo 10 239)) (hQ : Qx_v wM X z) (hcs : cx_cells X = 0 ∧ cx_slots X = 0) (N : Nat) : ∀ (n : Nat) (v1 : Int32) (v2 : Int32) (v3 : Int32) (μ : Mem), G wM X z 21 [(0, .ref (cx_ad X 0)), (1, .int v1), (2, .int v2), (3, .int v3)] [] μ (fX11_laysParts_21 N n v1 v2 v3 μ) := by
  intro n
  induction n with
  | zero =>
    intro v1 v2 v3 μ
    exact G_none
  | succ n ih =>
    intro v1 v2 v3 μ
    unfold fX11_laysParts_21
    refine G_iload_n hX 3 rfl rfl dX11_laysParts_21 ?_
    refine G_aload_n hX 0 rfl rfl dX11_laysParts_22 ?_
    refine gf_X11_7_M0 hX dX11_laysParts_23 ?_
    refine G_bipush hX (34 : Int32) rfl dX11_laysParts_26 ?_
    refine G_aI hX atM1 dX11_laysParts_28 (fun x1 => ?_)
    refine G_icmp_ge hX 99 (by decide) dX11_laysParts_29 ?_ ?_
    · exact G_vret hX hQ dX11_laysParts_99
    · refine G_aload_n hX 0 rfl rfl dX11_laysParts_32 ?_
      refine G_iload_n hX 3 rfl rfl dX11_laysParts_33 ?_
      refine G_cVi hX 0 11 (fun ad adK => [.int v3]) [] (fun z2 h2 => cX11_isExport_ok (cx_l X) N v3 μ z2 h2) ok_X11_isExport lm_X11_425 atM0.1 atM0.2 rfl rfl (fun _ _ => rfl) (Nat.le_of_ble_eq_true rfl) ⟨rfl, rfl, by decide, by decide⟩ (cs0 hcs) dX11_laysParts_34 (fun r2 μ => ?_)
      refine G_if_eq hX 93 (by decide) dX11_laysParts_37 ?_ ?_
      · refine G_iincN hX 3 (fun x3 => [(3, .int x3), (0, .ref (cx_ad X 0)), (1, .int v1), (2, .int v2)]) rfl rfl (by decide) (fun _ => rfl) dX11_laysParts_93 (fun x3 => ?_)
        refine G_goto hX 21 (by decide) dX11_laysParts_96 ?_
        exact G_sub [1, 2, 3, 0] rfl (ih v1 v2 x3 μ)
      · refine G_aload_n hX 0 rfl rfl dX11_laysParts_40 ?_
        refine G_iload_n hX 3 rfl rfl dX11_laysParts_41 ?_
        refine G_iconst hX (1 : Int32) rfl dX11_laysParts_42 ?_
        refine G_cVi hX 0 11 (fun ad adK => [.int v3, .int (1 : Int32)]) [] (fun z2 h2 => cX11_of_ok (cx_l X) N v3 (1 : Int32) μ z2 h2) ok_X11_of lm_X11_305 atM0.1 atM0.2 rfl rfl (fun _ _ => rfl) (Nat.le_of_ble_eq_true rfl) ⟨rfl, rfl, by decide, by decide⟩ (cs0 hcs) dX11_laysParts_43 (fun r4 μ => ?_)
        refine G_iload_n hX 1 rfl rfl dX11_laysParts_46 ?_
        refine G_icmp_eq hX 53 (by decide) dX11_laysParts_47 ?_ ?_
        · refine G_aload_n hX 0 rfl rfl dX11_laysParts_53 ?_
          refine gf_X11_86_M0 hX dX11_laysParts_54 ?_
          refine G_aload_n hX 0 rfl rfl dX11_laysParts_57 ?_
          refine gf_X11_437_M0 hX dX11_laysParts_58 ?_
          refine G_nmi (fun x5 => ?_)
          refine G_aload_n hX 0 rfl rfl dX11_laysParts_61 ?_
          refine G_iload_n hX 3 rfl rfl dX11_laysParts_62 ?_
          refine G_iload_n hX 2 rfl rfl dX11_laysParts_63 ?_
          refine G_cVl hX 0 11 (fun ad adK => [.int v3, .int v2]) [.int x5, .ref (cx_ad X 24)] (fun z2 h2 => cX11_differenceOf_ok (cx_l X) N v3 v2 μ z2 h2) ok_X11_differenceOf lm_X11_434 atM0.1 atM0.2 rfl rfl (fun _ _ => rfl) (Nat.le_of_ble_eq_true rfl) ⟨rfl, rfl, by decide, by decide⟩ (cs0 hcs) dX11_laysParts_64 (fun r6 μ => ?_)
          refine G_sL hX atM24 dX11_laysParts_67 (fun μ => ?_)
          refine G_aload_n hX 0 rfl rfl dX11_laysParts_68 ?_
          refine gf_X11_89_M0 hX dX11_laysParts_69 ?_
          refine G_aload_n hX 0 rfl rfl dX11_laysParts_72 ?_
          refine gf_X11_437_M0 hX dX11_laysParts_73 ?_
          refine G_nmi (fun x7 => ?_)
          refine G_aload_n hX 0 rfl rfl dX11_laysParts_76 ?_
          refine G_iload_n hX 3 rfl rfl dX11_laysParts_77 ?_
          refine G_iconst hX (5 : Int32) rfl dX11_laysParts_78 ?_
          refine G_cVi hX 0 11 (fun ad adK => [.int v3, .int (5 : Int32)]) [.int x7, .ref (cx_ad X 25)] (fun z2 h2 => cX11_of_ok (cx_l X) N v3 (5 : Int32) μ z2 h2) ok_X11_of lm_X11_305 atM0.1 atM0.2 rfl rfl (fun _ _ => rfl) (Nat.le_of_ble_eq_true rfl) ⟨rfl, rfl, by decide, by decide⟩ (cs0 hcs) dX11_laysParts_79 (fun r8 μ => ?_)
          refine G_sI hX atM25 dX11_laysParts_82 (fun μ => ?_)
          refine G_aload_n hX 0 rfl rfl dX11_laysParts_83 ?_
          refine G_dup hX rfl dX11_laysParts_84 ?_
          refine gf_X11_437_M0 hX dX11_laysParts_85 ?_
          refine G_nmi (fun x9 => ?_)
          refine G_iconst hX (1 : Int32) rfl dX11_laysParts_88 ?_
          refine G_iadd hX dX11_laysParts_89 ?_
          refine G_nmi (fun x10 => ?_)
          refine pf_X11_437_M0 hX dX11_laysParts_90 (fun μ => ?_)
          refine G_iincN hX 3 (fun x11 => [(3, .int x11), (0, .ref (cx_ad X 0)), (1, .int v1), (2, .int v2)]) rfl rfl (by decide) (fun _ => rfl) dX11_laysParts_93 (fun x11 => ?_)
          refine G_goto hX 21 (by decide) dX11_laysParts_96 ?_
          exact G_sub [1, 2, 3, 0] rfl (ih v1 v2 x11 μ)
        · refine G_goto hX 93 (by decide) dX11_laysParts_50 ?_
          refine G_iincN hX 3 (fun x12 => [(3, .int x12), (0, .ref (cx_ad X 0)), (1, .int v1), (2, .int v2)]) rfl rfl (by decide) (fun _ => rfl) dX11_laysParts_93 (fun x12 => ?_)
          refine G_goto hX 21 (by decide) dX11_laysParts_96 ?_
          exact G_sub [1, 2, 3, 0] rfl (ih v1 v2 x12 μ)
set_option maxHeartbeats 4000000 in
set_option maxRecDepth 100000 in
theorem gX11_laysParts_E {X : Ctx} {z : Unit × Mem} (hX : Fx wM X cX11_laysParts 4 RX11 none (rmo 10 239)) (hQ : Qx_v wM X z) (hcs : cx_cells X = 0 ∧ cx_slots X = 0) (N : Nat) (p0 : Int32) (p1 : Int32) (μ : Mem) : G wM X z 0 [(0, .ref (cx_ad X 0)), (1, .int p0), (2, .int p1)] [] μ (fX11_laysParts N p0 p1 μ) := by
  unfold fX11_laysParts
  refine G_iload_n hX 2 rfl rfl dX11_laysParts_0 ?_
  refine G_if_ne hX 10 (by decide) dX11_laysParts_1 ?_ ?_
  · refine G_aload_n hX 0 rfl rfl dX11_laysParts_10 ?_
    refine G_cVv hX 0 11 (fun ad adK => []) [] (fun z2 h2 => cX11_lays_ok (cx_l X) N μ z2 h2) ok_X11_lays lm_X11_367 atM0.1 atM0.2 rfl rfl (fun _ _ => rfl) (Nat.le_of_ble_eq_true rfl) ⟨rfl, rfl, by decide, by decide⟩ (cs0 hcs) dX11_laysParts_11 (fun μ => ?_)
    refine G_aload_n hX 0 rfl rfl dX11_laysParts_14 ?_
    refine G_iconst hX (0 : Int32) rfl dX11_laysParts_15 ?_
    refine pf_X11_437_M0 hX dX11_laysParts_16 (fun μ => ?_)
    refine G_iconst hX (0 : Int32) rfl dX11_laysParts_19 ?_
    refine G_istore_n hX [(3, .int (0 : Int32)), (0, .ref (cx_ad X 0)), (1, .int p0), (2, .int p1)] rfl (by decide) rfl dX11_laysParts_20 ?_
    exact G_sub [1, 2, 3, 0] rfl (gX11_laysParts_21 hX hQ hcs N N p0 p1 (0 : Int32) μ)
  · refine G_aload_n hX 0 rfl rfl dX11_laysParts_4 ?_
    refine G_iload_n hX 1 rfl rfl dX11_laysParts_5 ?_
    refine G_cVv hX 0 11 (fun ad adK => [.int p0]) [] (fun z2 h2 => cX11_laysGroups_ok (cx_l X) N p0 μ z2 h2) ok_X11_laysGroups lm_X11_446 atM0.1 atM0.2 rfl rfl (fun _ _ => rfl) (Nat.le_of_ble_eq_true rfl) ⟨rfl, rfl, by decide, by decide⟩ (cs0 hcs) dX11_laysParts_6 (fun μ => ?_)
    exact G_vret hX hQ dX11_laysParts_9
theorem cX11_laysParts_ok (l : Launch) (N : Nat) (p0 : Int32) (p1 : Int32) (μ : Mem) (z : Unit × Mem) (h : fX11_laysParts N p0 p1 μ = some z) : Mv wM l yX11_laysParts cX11_laysParts 4 (rmo 10 239) (fun ad adK => [.ref (ad 0), .int p0, .int p1]) μ z := Mv.of h (by decide +kernel) (fun _ _ => Nat.le_of_ble_eq_true rfl) (fun X hX hQ hl hcs => gX11_laysParts_E hX hQ hcs N p0 p1 μ)
/-! ===== DutyCaseModel.groups(I)I ===== -/
set_option maxHeartbeats 4000000 in
set_option maxRecDepth 100000 in
theorem gX11_groups_14 {X : Ctx} {z : Int32 × Mem} (hX : Fx wM X cX11_groups 2 RX11 (some .int) (rmo 10 239)) (hQ : Qx_i wM X z) (hcs : cx_cells X = 0 ∧ cx_slots X = 0) (N : Nat) (v1 : Int32) (s0 : Int32) (μ : Mem) : G wM X z 14 [(0, .ref (cx_ad X 0)), (1, .int v1)] [.int s0, .ref (cx_ad X 0)] μ (fX11_groups_14 N v1 s0 μ) := by
  unfold fX11_groups_14
  refine pf_X11_104_M0 hX dX11_groups_14 (fun μ => ?_)
  refine G_aload_n hX 0 rfl rfl dX11_groups_17 ?_
  refine gf_X11_104_M0 hX dX11_groups_18 ?_
  refine G_nmi (fun x2 => ?_)
  refine G_if_le hX 26 (by decide) dX11_groups_21 ?_ ?_
  · refine G_aload_n hX 0 rfl rfl dX11_groups_26 ?_
    refine G_iload_n hX 1 rfl rfl dX11_groups_27 ?_
    refine G_cVv hX 0 11 (fun ad adK => [.int v1]) [] (fun z2 h2 => cX11_laysGroups_ok (cx_l X) N v1 μ z2 h2) ok_X11_laysGroups lm_X11_446 atM0.1 atM0.2 rfl rfl (fun _ _ => rfl) (Nat.le_of_ble_eq_true rfl) ⟨rfl, rfl, by decide, by decide⟩ (cs0 hcs) dX11_groups_28 (fun μ => ?_)
    refine G_aload_n hX 0 rfl rfl dX11_groups_31 ?_
    refine gf_X11_437_M0 hX dX11_groups_32 ?_
    refine G_nmi (fun x3 => ?_)
    exact G_iret hX hQ dX11_groups_35
  · refine G_iconst hX (0 : Int32) rfl dX11_groups_24 ?_
    exact G_iret hX hQ dX11_groups_25
set_option maxHeartbeats 4000000 in
set_option maxRecDepth 100000 in
theorem gX11_groups_E {X : Ctx} {z : Int32 × Mem} (hX : Fx wM X cX11_groups 2 RX11 (some .int) (rmo 10 239)) (hQ : Qx_i wM X z) (hcs : cx_cells X = 0 ∧ cx_slots X = 0) (N : Nat) (p0 : Int32) (μ : Mem) : G wM X z 0 [(0, .ref (cx_ad X 0)), (1, .int p0)] [] μ (fX11_groups N p0 μ) := by
  unfold fX11_groups
  refine G_aload_n hX 0 rfl rfl dX11_groups_0 ?_
  refine G_aload_n hX 0 rfl rfl dX11_groups_1 ?_
  refine G_iload_n hX 1 rfl rfl dX11_groups_2 ?_
  refine G_cVi hX 0 11 (fun ad adK => [.int p0]) [.ref (cx_ad X 0)] (fun z2 h2 => cX11_isFirm_ok (cx_l X) N p0 μ z2 h2) ok_X11_isFirm lm_X11_311 atM0.1 atM0.2 rfl rfl (fun _ _ => rfl) (Nat.le_of_ble_eq_true rfl) ⟨rfl, rfl, by decide, by decide⟩ (cs0 hcs) dX11_groups_3 (fun r1 μ => ?_)
  refine G_if_eq hX 13 (by decide) dX11_groups_6 ?_ ?_
  · refine G_iconst hX (1 : Int32) rfl dX11_groups_13 ?_
    exact G_sub [0, 1] rfl (gX11_groups_14 hX hQ hcs N p0 (1 : Int32) μ)
  · refine G_iconst hX (0 : Int32) rfl dX11_groups_9 ?_
    refine G_goto hX 14 (by decide) dX11_groups_10 ?_
    exact G_sub [0, 1] rfl (gX11_groups_14 hX hQ hcs N p0 (0 : Int32) μ)
theorem cX11_groups_ok (l : Launch) (N : Nat) (p0 : Int32) (μ : Mem) (z : Int32 × Mem) (h : fX11_groups N p0 μ = some z) : Mi wM l yX11_groups cX11_groups 2 .int (rmo 10 239) (fun ad adK => [.ref (ad 0), .int p0]) μ z := Mi.of h (by decide +kernel) (fun _ _ => Nat.le_of_ble_eq_true rfl) (fun X hX hQ hl hcs => gX11_groups_E hX hQ hcs N p0 μ)
/-! ===== DutyCaseModel.group(III)J ===== -/
set_option maxHeartbeats 4000000 in
set_option maxRecDepth 100000 in
theorem gX11_group_65 {X : Ctx} {z : Int64 × Mem} (hX : Fx wM X cX11_group 4 RX11 (some .long) (rmo 10 239)) (hQ : Qx_l wM X z) (hcs : cx_cells X = 0 ∧ cx_slots X = 0) (N : Nat) (v2 : Int32) (v3 : Int32) (s0 : Int32) (μ : Mem) : G wM X z 65 [(0, .ref (cx_ad X 0)), (2, .int v2), (3, .int v3)] [.int s0, .ref (cx_ad X 0)] μ (fX11_group_65 N v2 v3 s0 μ) := by
  unfold fX11_group_65
  refine pf_X11_104_M0 hX dX11_group_65 (fun μ => ?_)
  refine G_aload_n hX 0 rfl rfl dX11_group_68 ?_
  refine gf_X11_104_M0 hX dX11_group_69 ?_
  refine G_nmi (fun x6 => ?_)
  refine G_if_le hX 77 (by decide) dX11_group_72 ?_ ?_
  · refine G_iload_n hX 2 rfl rfl dX11_group_77 ?_
    refine G_sw (fun hc0 => ?_) (fun hc0 => ?_)
    · refine G_swIn hX 116 0 (0) (by rw [hc0]; rfl) (by decide) (by decide) rfl rfl (by decide) dX11_group_78 ?_
      refine G_aload_n hX 0 rfl rfl dX11_group_116 ?_
      refine G_aload_n hX 0 rfl rfl dX11_group_117 ?_
      refine gf_X11_92_M0 hX dX11_group_118 ?_
      refine G_iload_n hX 1 rfl rfl dX11_group_121 ?_
      refine G_aI hX atM26 dX11_group_122 (fun x7 => ?_)
      refine G_iconst hX (2 : Int32) rfl dX11_group_123 ?_
      refine G_cVi hX 0 11 (fun ad adK => [.int x7, .int (2 : Int32)]) [] (fun z2 h2 => cX11_of_ok (cx_l X) N x7 (2 : Int32) μ z2 h2) ok_X11_of lm_X11_305 atM0.1 atM0.2 rfl rfl (fun _ _ => rfl) (Nat.le_of_ble_eq_true rfl) ⟨rfl, rfl, by decide, by decide⟩ (cs0 hcs) dX11_group_124 (fun r8 μ => ?_)
      refine G_i2l hX dX11_group_127 ?_
      exact G_lret hX hQ dX11_group_128
    refine G_sw (fun hc1 => ?_) (fun hc1 => ?_)
    · refine G_swIn hX 129 1 (1) (by rw [hc1]; rfl) (by decide) (by decide) rfl rfl (by decide) dX11_group_78 ?_
      refine G_aload_n hX 0 rfl rfl dX11_group_129 ?_
      refine G_aload_n hX 0 rfl rfl dX11_group_130 ?_
      refine gf_X11_92_M0 hX dX11_group_131 ?_
      refine G_iload_n hX 1 rfl rfl dX11_group_134 ?_
      refine G_aI hX atM26 dX11_group_135 (fun x9 => ?_)
      refine G_iconst hX (3 : Int32) rfl dX11_group_136 ?_
      refine G_cVi hX 0 11 (fun ad adK => [.int x9, .int (3 : Int32)]) [] (fun z2 h2 => cX11_of_ok (cx_l X) N x9 (3 : Int32) μ z2 h2) ok_X11_of lm_X11_305 atM0.1 atM0.2 rfl rfl (fun _ _ => rfl) (Nat.le_of_ble_eq_true rfl) ⟨rfl, rfl, by decide, by decide⟩ (cs0 hcs) dX11_group_137 (fun r10 μ => ?_)
      refine G_i2l hX dX11_group_140 ?_
      exact G_lret hX hQ dX11_group_141
    refine G_sw (fun hc2 => ?_) (fun hc2 => ?_)
    · refine G_swIn hX 142 2 (2) (by rw [hc2]; rfl) (by decide) (by decide) rfl rfl (by decide) dX11_group_78 ?_
      refine G_aload_n hX 0 rfl rfl dX11_group_142 ?_
      refine G_aload_n hX 0 rfl rfl dX11_group_143 ?_
      refine gf_X11_92_M0 hX dX11_group_144 ?_
      refine G_iload_n hX 1 rfl rfl dX11_group_147 ?_
      refine G_aI hX atM26 dX11_group_148 (fun x11 => ?_)
      refine G_cVi hX 0 11 (fun ad adK => [.int x11]) [] (fun z2 h2 => cX11_monthFor_ok (cx_l X) N x11 μ z2 h2) ok_X11_monthFor lm_X11_431 atM0.1 atM0.2 rfl rfl (fun _ _ => rfl) (Nat.le_of_ble_eq_true rfl) ⟨rfl, rfl, by decide, by decide⟩ (cs0 hcs) dX11_group_149 (fun r12 μ => ?_)
      refine G_i2l hX dX11_group_152 ?_
      exact G_lret hX hQ dX11_group_153
    refine G_sw (fun hc3 => ?_) (fun hc3 => ?_)
    · refine G_swIn hX 154 3 (3) (by rw [hc3]; rfl) (by decide) (by decide) rfl rfl (by decide) dX11_group_78 ?_
      refine G_aload_n hX 0 rfl rfl dX11_group_154 ?_
      refine gf_X11_89_M0 hX dX11_group_155 ?_
      refine G_iload_n hX 1 rfl rfl dX11_group_158 ?_
      refine G_aI hX atM25 dX11_group_159 (fun x13 => ?_)
      refine G_i2l hX dX11_group_160 ?_
      exact G_lret hX hQ dX11_group_161
    refine G_sw (fun hc4 => ?_) (fun hc4 => ?_)
    · refine G_swIn hX 162 4 (4) (by rw [hc4]; rfl) (by decide) (by decide) rfl rfl (by decide) dX11_group_78 ?_
      refine G_aload_n hX 0 rfl rfl dX11_group_162 ?_
      refine gf_X11_95_M0 hX dX11_group_163 ?_
      refine G_iload_n hX 1 rfl rfl dX11_group_166 ?_
      refine G_aL hX atM27 dX11_group_167 (fun x14 => ?_)
      exact G_lret hX hQ dX11_group_168
    refine G_sw (fun hc5 => ?_) (fun hc5 => ?_)
    · refine G_swIn hX 169 5 (5) (by rw [hc5]; rfl) (by decide) (by decide) rfl rfl (by decide) dX11_group_78 ?_
      refine G_aload_n hX 0 rfl rfl dX11_group_169 ?_
      refine gf_X11_98_M0 hX dX11_group_170 ?_
      refine G_iload_n hX 1 rfl rfl dX11_group_173 ?_
      refine G_aL hX atM28 dX11_group_174 (fun x15 => ?_)
      exact G_lret hX hQ dX11_group_175
    refine G_swOut hX 176 (by decide) dX11_group_78 (by have e0 := lv_neT (a := (0 : Int)) hc0 rfl; have e1 := lv_neT (a := (1 : Int)) hc1 rfl; have e2 := lv_neT (a := (2 : Int)) hc2 rfl; have e3 := lv_neT (a := (3 : Int)) hc3 rfl; have e4 := lv_neT (a := (4 : Int)) hc4 rfl; have e5 := lv_neT (a := (5 : Int)) hc5 rfl; omega) ?_
    refine G_aload_n hX 0 rfl rfl dX11_group_176 ?_
    refine gf_X11_86_M0 hX dX11_group_177 ?_
    refine G_iload_n hX 1 rfl rfl dX11_group_180 ?_
    refine G_aL hX atM24 dX11_group_181 (fun x16 => ?_)
    exact G_lret hX hQ dX11_group_182
  · refine G_lconst hX (0 : Int64) rfl dX11_group_75 ?_
    exact G_lret hX hQ dX11_group_76
set_option maxHeartbeats 4000000 in
set_option maxRecDepth 100000 in
theorem gX11_group_14 {X : Ctx} {z : Int64 × Mem} (hX : Fx wM X cX11_group 4 RX11 (some .long) (rmo 10 239)) (hQ : Qx_l wM X z) (hcs : cx_cells X = 0 ∧ cx_slots X = 0) (N : Nat) (v1 : Int32) (v2 : Int32) (v3 : Int32) (s0 : Int32) (μ : Mem) : G wM X z 14 [(0, .ref (cx_ad X 0)), (1, .int v1), (2, .int v2), (3, .int v3)] [.int s0, .ref (cx_ad X 0)] μ (fX11_group_14 N v1 v2 v3 s0 μ) := by
  unfold fX11_group_14
  refine pf_X11_104_M0 hX dX11_group_14 (fun μ => ?_)
  refine G_aload_n hX 0 rfl rfl dX11_group_17 ?_
  refine gf_X11_104_M0 hX dX11_group_18 ?_
  refine G_nmi (fun x2 => ?_)
  refine G_if_le hX 26 (by decide) dX11_group_21 ?_ ?_
  · refine G_aload_n hX 0 rfl rfl dX11_group_26 ?_
    refine G_iload_n hX 1 rfl rfl dX11_group_27 ?_
    refine G_cVv hX 0 11 (fun ad adK => [.int v1]) [] (fun z2 h2 => cX11_laysGroups_ok (cx_l X) N v1 μ z2 h2) ok_X11_laysGroups lm_X11_446 atM0.1 atM0.2 rfl rfl (fun _ _ => rfl) (Nat.le_of_ble_eq_true rfl) ⟨rfl, rfl, by decide, by decide⟩ (cs0 hcs) dX11_group_28 (fun μ => ?_)
    refine G_aload_n hX 0 rfl rfl dX11_group_31 ?_
    refine G_iload_n hX 2 rfl rfl dX11_group_32 ?_
    refine G_i2l hX dX11_group_33 ?_
    refine G_lconst hX (0 : Int64) rfl dX11_group_34 ?_
    refine G_aload_n hX 0 rfl rfl dX11_group_35 ?_
    refine gf_X11_437_M0 hX dX11_group_36 ?_
    refine G_nmi (fun x3 => ?_)
    refine G_iconst hX (1 : Int32) rfl dX11_group_39 ?_
    refine G_isub hX dX11_group_40 ?_
    refine G_i2l hX dX11_group_41 ?_
    refine G_cSi hX (fun ad adK => [.long v2.toInt64, .long (0 : Int64), .long ((x3 - (1 : Int32)).toInt64)]) [.ref (cx_ad X 0)] (fun z2 h2 => cX11_isIn_ok (cx_l X) N v2.toInt64 (0 : Int64) ((x3 - (1 : Int32)).toInt64) μ z2 h2) ok_X11_isIn lm_X11_301 rfl (fun _ _ => rfl) (Nat.le_of_ble_eq_true rfl) ⟨rfl, rfl, by decide, by decide⟩ (cs0 hcs) dX11_group_42 (fun r4 μ => ?_)
    refine G_if_eq hX 64 (by decide) dX11_group_45 ?_ ?_
    · refine G_iconst hX (2 : Int32) rfl dX11_group_64 ?_
      exact G_sub [0, 2, 3] rfl (gX11_group_65 hX hQ hcs N v2 v3 (2 : Int32) μ)
    · refine G_iload_n hX 3 rfl rfl dX11_group_48 ?_
      refine G_i2l hX dX11_group_49 ?_
      refine G_lconst hX (0 : Int64) rfl dX11_group_50 ?_
      refine G_ldc2 hX lc_X11_449 dX11_group_51 ?_
      refine G_cSi hX (fun ad adK => [.long v3.toInt64, .long (0 : Int64), .long (6 : Int64)]) [.ref (cx_ad X 0)] (fun z2 h2 => cX11_isIn_ok (cx_l X) N v3.toInt64 (0 : Int64) (6 : Int64) μ z2 h2) ok_X11_isIn lm_X11_301 rfl (fun _ _ => rfl) (Nat.le_of_ble_eq_true rfl) ⟨rfl, rfl, by decide, by decide⟩ (cs0 hcs) dX11_group_54 (fun r5 μ => ?_)
      refine G_if_eq hX 64 (by decide) dX11_group_57 ?_ ?_
      · refine G_iconst hX (2 : Int32) rfl dX11_group_64 ?_
        exact G_sub [0, 2, 3] rfl (gX11_group_65 hX hQ hcs N v2 v3 (2 : Int32) μ)
      · refine G_iconst hX (0 : Int32) rfl dX11_group_60 ?_
        refine G_goto hX 65 (by decide) dX11_group_61 ?_
        exact G_sub [0, 2, 3] rfl (gX11_group_65 hX hQ hcs N v2 v3 (0 : Int32) μ)
  · refine G_lconst hX (0 : Int64) rfl dX11_group_24 ?_
    exact G_lret hX hQ dX11_group_25
set_option maxHeartbeats 4000000 in
set_option maxRecDepth 100000 in
theorem gX11_group_E {X : Ctx} {z : Int64 × Mem} (hX : Fx wM X cX11_group 4 RX11 (some .long) (rmo 10 239)) (hQ : Qx_l wM X z) (hcs : cx_cells X = 0 ∧ cx_slots X = 0) (N : Nat) (p0 : Int32) (p1 : Int32) (p2 : Int32) (μ : Mem) : G wM X z 0 [(0, .ref (cx_ad X 0)), (1, .int p0), (2, .int p1), (3, .int p2)] [] μ (fX11_group N p0 p1 p2 μ) := by
  unfold fX11_group
  refine G_aload_n hX 0 rfl rfl dX11_group_0 ?_
  refine G_aload_n hX 0 rfl rfl dX11_group_1 ?_
  refine G_iload_n hX 1 rfl rfl dX11_group_2 ?_
  refine G_cVi hX 0 11 (fun ad adK => [.int p0]) [.ref (cx_ad X 0)] (fun z2 h2 => cX11_isFirm_ok (cx_l X) N p0 μ z2 h2) ok_X11_isFirm lm_X11_311 atM0.1 atM0.2 rfl rfl (fun _ _ => rfl) (Nat.le_of_ble_eq_true rfl) ⟨rfl, rfl, by decide, by decide⟩ (cs0 hcs) dX11_group_3 (fun r1 μ => ?_)
  refine G_if_eq hX 13 (by decide) dX11_group_6 ?_ ?_
  · refine G_iconst hX (1 : Int32) rfl dX11_group_13 ?_
    exact G_sub [0, 1, 2, 3] rfl (gX11_group_14 hX hQ hcs N p0 p1 p2 (1 : Int32) μ)
  · refine G_iconst hX (0 : Int32) rfl dX11_group_9 ?_
    refine G_goto hX 14 (by decide) dX11_group_10 ?_
    exact G_sub [0, 1, 2, 3] rfl (gX11_group_14 hX hQ hcs N p0 p1 p2 (0 : Int32) μ)
theorem cX11_group_ok (l : Launch) (N : Nat) (p0 : Int32) (p1 : Int32) (p2 : Int32) (μ : Mem) (z : Int64 × Mem) (h : fX11_group N p0 p1 p2 μ = some z) : Ml wM l yX11_group cX11_group 4 .long (rmo 10 239) (fun ad adK => [.ref (ad 0), .int p0, .int p1, .int p2]) μ z := Ml.of h (by decide +kernel) (fun _ _ => Nat.le_of_ble_eq_true rfl) (fun X hX hQ hl hcs => gX11_group_E hX hQ hcs N p0 p1 p2 μ)
/-! ===== DutyCaseModel.sumBy(ZJ)J ===== -/
set_option maxHeartbeats 4000000 in
set_option maxRecDepth 100000 in
theorem gX11_sumBy_6 {X : Ctx} {z : Int64 × Mem} (hX : Fx wM X cX11_sumBy 9 RX11 (some .long) (rmo 0 0)) (hQ : Qx_l wM X z) (hcs : cx_cells X = 0 ∧ cx_slots X = 0) (N : Nat) : ∀ (n : Nat) (v1 : Int32) (v2 : Int64) (v4 : Int64) (v6 : Int32) (μ : Mem), G wM X z 6 [(0, .ref (cx_ad X 0)), (1, .int v1), (2, .long v2), (4, .long v4), (6, .int v6)] [] μ (fX11_sumBy_6 N n v1 v2 v4 v6 μ) := by
  intro n
  induction n with
  | zero =>
    intro v1 v2 v4 v6 μ
    exact G_none
  | succ n ih =>
    intro v1 v2 v4 v6 μ
    unfold fX11_sumBy_6
    refine G_iload hX 4 rfl dX11_sumBy_6 ?_
    refine G_aload_n hX 0 rfl rfl dX11_sumBy_8 ?_
    refine gf_X11_437_M0 hX dX11_sumBy_9 ?_
    refine G_nmi (fun x1 => ?_)
    refine G_icmp_ge hX 67 (by decide) dX11_sumBy_12 ?_ ?_
    · refine G_lload hX 3 rfl dX11_sumBy_67 ?_
      exact G_lret hX hQ dX11_sumBy_69
    · refine G_aload_n hX 0 rfl rfl dX11_sumBy_15 ?_
      refine gf_X11_86_M0 hX dX11_sumBy_16 ?_
      refine G_iload hX 4 rfl dX11_sumBy_19 ?_
      refine G_aL hX atM24 dX11_sumBy_21 (fun x2 => ?_)
      refine G_ldc2 hX lc_X11_409 dX11_sumBy_22 ?_
      refine G_lload_n hX 2 rfl rfl dX11_sumBy_25 ?_
      refine G_lmul hX dX11_sumBy_26 ?_
      refine G_aload_n hX 0 rfl rfl dX11_sumBy_27 ?_
      refine gf_X11_89_M0 hX dX11_sumBy_28 ?_
      refine G_iload hX 4 rfl dX11_sumBy_31 ?_
      refine G_aI hX atM25 dX11_sumBy_33 (fun x3 => ?_)
      refine G_i2l hX dX11_sumBy_34 ?_
      refine G_lmul hX dX11_sumBy_35 ?_
      refine G_lsub hX dX11_sumBy_36 ?_
      refine G_nml (fun x4 => ?_)
      refine G_lstore hX [(7, .long x4), (0, .ref (cx_ad X 0)), (1, .int v1), (2, .long v2), (4, .long v4), (6, .int v6)] (by decide) rfl dX11_sumBy_37 ?_
      refine G_lload hX 4 rfl dX11_sumBy_39 ?_
      refine G_iload_n hX 2 rfl rfl dX11_sumBy_41 ?_
      refine G_if_eq hX 56 (by decide) dX11_sumBy_42 ?_ ?_
      · refine G_lload hX 0 rfl dX11_sumBy_56 ?_
        refine G_ladd hX dX11_sumBy_58 ?_
        refine G_nml (fun x5 => ?_)
        refine G_lstore hX [(4, .long x5), (7, .long x4), (0, .ref (cx_ad X 0)), (1, .int v1), (2, .long v2), (6, .int v6)] (by decide) rfl dX11_sumBy_59 ?_
        refine G_iincN hX 5 (fun x6 => [(6, .int x6), (4, .long x5), (7, .long x4), (0, .ref (cx_ad X 0)), (1, .int v1), (2, .long v2)]) rfl rfl (by decide) (fun _ => rfl) dX11_sumBy_61 (fun x6 => ?_)
        refine G_goto hX 6 (by decide) dX11_sumBy_64 ?_
        exact G_sub [3, 4, 5, 1, 0] rfl (ih v1 v2 x5 x6 μ)
      · refine G_lload hX 0 rfl dX11_sumBy_45 ?_
        refine G_lconst hX (0 : Int64) rfl dX11_sumBy_47 ?_
        refine G_lcmp hX dX11_sumBy_48 ?_
        refine G_if_ge hX 56 (by decide) dX11_sumBy_49 ?_ ?_
        · refine G_lload hX 0 rfl dX11_sumBy_56 ?_
          refine G_ladd hX dX11_sumBy_58 ?_
          refine G_nml (fun x7 => ?_)
          refine G_lstore hX [(4, .long x7), (7, .long x4), (0, .ref (cx_ad X 0)), (1, .int v1), (2, .long v2), (6, .int v6)] (by decide) rfl dX11_sumBy_59 ?_
          refine G_iincN hX 5 (fun x8 => [(6, .int x8), (4, .long x7), (7, .long x4), (0, .ref (cx_ad X 0)), (1, .int v1), (2, .long v2)]) rfl rfl (by decide) (fun _ => rfl) dX11_sumBy_61 (fun x8 => ?_)
          refine G_goto hX 6 (by decide) dX11_sumBy_64 ?_
          exact G_sub [3, 4, 5, 1, 0] rfl (ih v1 v2 x7 x8 μ)
        · refine G_lconst hX (0 : Int64) rfl dX11_sumBy_52 ?_
          refine G_goto hX 58 (by decide) dX11_sumBy_53 ?_
          refine G_ladd hX dX11_sumBy_58 ?_
          refine G_nml (fun x9 => ?_)
          refine G_lstore hX [(4, .long x9), (7, .long x4), (0, .ref (cx_ad X 0)), (1, .int v1), (2, .long v2), (6, .int v6)] (by decide) rfl dX11_sumBy_59 ?_
          refine G_iincN hX 5 (fun x10 => [(6, .int x10), (4, .long x9), (7, .long x4), (0, .ref (cx_ad X 0)), (1, .int v1), (2, .long v2)]) rfl rfl (by decide) (fun _ => rfl) dX11_sumBy_61 (fun x10 => ?_)
          refine G_goto hX 6 (by decide) dX11_sumBy_64 ?_
          exact G_sub [3, 4, 5, 1, 0] rfl (ih v1 v2 x9 x10 μ)
set_option maxHeartbeats 4000000 in
set_option maxRecDepth 100000 in
theorem gX11_sumBy_E {X : Ctx} {z : Int64 × Mem} (hX : Fx wM X cX11_sumBy 9 RX11 (some .long) (rmo 0 0)) (hQ : Qx_l wM X z) (hcs : cx_cells X = 0 ∧ cx_slots X = 0) (N : Nat) (p0 : Int32) (p1 : Int64) (μ : Mem) : G wM X z 0 [(0, .ref (cx_ad X 0)), (1, .int p0), (2, .long p1)] [] μ (fX11_sumBy N p0 p1 μ) := by
  unfold fX11_sumBy
  refine G_lconst hX (0 : Int64) rfl dX11_sumBy_0 ?_
  refine G_lstore hX [(4, .long (0 : Int64)), (0, .ref (cx_ad X 0)), (1, .int p0), (2, .long p1)] (by decide) rfl dX11_sumBy_1 ?_
  refine G_iconst hX (0 : Int32) rfl dX11_sumBy_3 ?_
  refine G_istore hX [(6, .int (0 : Int32)), (4, .long (0 : Int64)), (0, .ref (cx_ad X 0)), (1, .int p0), (2, .long p1)] (by decide) rfl dX11_sumBy_4 ?_
  exact G_sub [2, 3, 4, 1, 0] rfl (gX11_sumBy_6 hX hQ hcs N N p0 p1 (0 : Int64) (0 : Int32) μ)
theorem cX11_sumBy_ok (l : Launch) (N : Nat) (p0 : Int32) (p1 : Int64) (μ : Mem) (z : Int64 × Mem) (h : fX11_sumBy N p0 p1 μ = some z) : Ml wM l yX11_sumBy cX11_sumBy 9 .long (rmo 0 0) (fun ad adK => [.ref (ad 0), .int p0, .long p1]) μ z := Ml.of h (by decide +kernel) (fun _ _ => Nat.le_of_ble_eq_true rfl) (fun X hX hQ hl hcs => gX11_sumBy_E hX hQ hcs N p0 p1 μ)
