/-! ===== DutyCaseModel.isMethod(I)Z ===== -/
set_option maxHeartbeats 4000000 in
set_option maxRecDepth 100000 in
theorem gX11_isMethod_E {X : Ctx} {z : Int32 × Mem} (hX : Fx wM X cX11_isMethod 1 RX11 (some .boolean) (rmo 1 25)) (hQ : Qx_i wM X z) (hcs : cx_cells X = 0 ∧ cx_slots X = 0) (N : Nat) (p0 : Int32) (μ : Mem) : G wM X z 0 [(0, .int p0)] [] μ (fX11_isMethod N p0 μ) := by
  unfold fX11_isMethod
  refine G_iload_n hX 0 rfl rfl dX11_isMethod_0 ?_
  refine G_i2l hX dX11_isMethod_1 ?_
  refine G_lconst hX (0 : Int64) rfl dX11_isMethod_2 ?_
  refine G_ldc2 hX lc_X11_320 dX11_isMethod_3 ?_
  refine G_cSi hX (fun ad adK => [.long p0.toInt64, .long (0 : Int64), .long (2 : Int64)]) [] (fun z2 h2 => cX11_isIn_ok (cx_l X) N p0.toInt64 (0 : Int64) (2 : Int64) μ z2 h2) ok_X11_isIn lm_X11_301 rfl (fun _ _ => rfl) (Nat.le_of_ble_eq_true rfl) ⟨rfl, rfl, by decide, by decide⟩ (cs0 hcs) dX11_isMethod_6 (fun r1 μ => ?_)
  exact G_zretZ hX hQ dX11_isMethod_9
theorem cX11_isMethod_ok (l : Launch) (N : Nat) (p0 : Int32) (μ : Mem) (z : Int32 × Mem) (h : fX11_isMethod N p0 μ = some z) : Mi wM l yX11_isMethod cX11_isMethod 1 .boolean (rmo 1 25) (fun ad adK => [.int p0]) μ z := Mi.of h (by decide +kernel) (fun _ _ => Nat.le_of_ble_eq_true rfl) (fun X hX hQ hl hcs => gX11_isMethod_E hX hQ hcs N p0 μ)
/-! ===== DutyCaseModel.sum(IIZ)J ===== -/
set_option maxHeartbeats 4000000 in
set_option maxRecDepth 100000 in
theorem gX11_sum_25 {X : Ctx} {z : Int64 × Mem} (hX : Fx wM X cX11_sum 4 RX11 (some .long) (rmo 11 262)) (hQ : Qx_l wM X z) (hcs : cx_cells X = 0 ∧ cx_slots X = 0) (N : Nat) (v1 : Int32) (v2 : Int32) (v3 : Int32) (s0 : Int32) (μ : Mem) : G wM X z 25 [(0, .ref (cx_ad X 0)), (1, .int v1), (2, .int v2), (3, .int v3)] [.int s0, .ref (cx_ad X 0)] μ (fX11_sum_25 N v1 v2 v3 s0 μ) := by
  unfold fX11_sum_25
  refine pf_X11_104_M0 hX dX11_sum_25 (fun μ => ?_)
  refine G_aload_n hX 0 rfl rfl dX11_sum_28 ?_
  refine gf_X11_104_M0 hX dX11_sum_29 ?_
  refine G_nmi (fun x3 => ?_)
  refine G_if_le hX 37 (by decide) dX11_sum_32 ?_ ?_
  · refine G_aload_n hX 0 rfl rfl dX11_sum_37 ?_
    refine G_iload_n hX 1 rfl rfl dX11_sum_38 ?_
    refine G_iload_n hX 2 rfl rfl dX11_sum_39 ?_
    refine G_cVv hX 0 11 (fun ad adK => [.int v1, .int v2]) [] (fun z2 h2 => cX11_laysParts_ok (cx_l X) N v1 v2 μ z2 h2) ok_X11_laysParts lm_X11_454 atM0.1 atM0.2 rfl rfl (fun _ _ => rfl) (Nat.le_of_ble_eq_true rfl) ⟨rfl, rfl, by decide, by decide⟩ (cs0 hcs) dX11_sum_40 (fun μ => ?_)
    refine G_aload_n hX 0 rfl rfl dX11_sum_43 ?_
    refine G_iload_n hX 3 rfl rfl dX11_sum_44 ?_
    refine G_lconst hX (0 : Int64) rfl dX11_sum_45 ?_
    refine G_cVl hX 0 11 (fun ad adK => [.int v3, .long (0 : Int64)]) [] (fun z2 h2 => cX11_sumBy_ok (cx_l X) N v3 (0 : Int64) μ z2 h2) ok_X11_sumBy lm_X11_457 atM0.1 atM0.2 rfl rfl (fun _ _ => rfl) (Nat.le_of_ble_eq_true rfl) ⟨rfl, rfl, by decide, by decide⟩ (cs0 hcs) dX11_sum_46 (fun r4 μ => ?_)
    exact G_lret hX hQ dX11_sum_49
  · refine G_lconst hX (0 : Int64) rfl dX11_sum_35 ?_
    exact G_lret hX hQ dX11_sum_36
set_option maxHeartbeats 4000000 in
set_option maxRecDepth 100000 in
theorem gX11_sum_E {X : Ctx} {z : Int64 × Mem} (hX : Fx wM X cX11_sum 4 RX11 (some .long) (rmo 11 262)) (hQ : Qx_l wM X z) (hcs : cx_cells X = 0 ∧ cx_slots X = 0) (N : Nat) (p0 : Int32) (p1 : Int32) (p2 : Int32) (μ : Mem) : G wM X z 0 [(0, .ref (cx_ad X 0)), (1, .int p0), (2, .int p1), (3, .int p2)] [] μ (fX11_sum N p0 p1 p2 μ) := by
  unfold fX11_sum
  refine G_aload_n hX 0 rfl rfl dX11_sum_0 ?_
  refine G_aload_n hX 0 rfl rfl dX11_sum_1 ?_
  refine G_iload_n hX 1 rfl rfl dX11_sum_2 ?_
  refine G_cVi hX 0 11 (fun ad adK => [.int p0]) [.ref (cx_ad X 0)] (fun z2 h2 => cX11_isFirm_ok (cx_l X) N p0 μ z2 h2) ok_X11_isFirm lm_X11_311 atM0.1 atM0.2 rfl rfl (fun _ _ => rfl) (Nat.le_of_ble_eq_true rfl) ⟨rfl, rfl, by decide, by decide⟩ (cs0 hcs) dX11_sum_3 (fun r1 μ => ?_)
  refine G_if_ne hX 13 (by decide) dX11_sum_6 ?_ ?_
  · refine G_iload_n hX 2 rfl rfl dX11_sum_13 ?_
    refine G_cSi hX (fun ad adK => [.int p1]) [.ref (cx_ad X 0)] (fun z2 h2 => cX11_isMethod_ok (cx_l X) N p1 μ z2 h2) ok_X11_isMethod lm_X11_451 rfl (fun _ _ => rfl) (Nat.le_of_ble_eq_true rfl) ⟨rfl, rfl, by decide, by decide⟩ (cs0 hcs) dX11_sum_14 (fun r2 μ => ?_)
    refine G_if_eq hX 24 (by decide) dX11_sum_17 ?_ ?_
    · refine G_iconst hX (2 : Int32) rfl dX11_sum_24 ?_
      exact G_sub [0, 1, 2, 3] rfl (gX11_sum_25 hX hQ hcs N p0 p1 p2 (2 : Int32) μ)
    · refine G_iconst hX (0 : Int32) rfl dX11_sum_20 ?_
      refine G_goto hX 25 (by decide) dX11_sum_21 ?_
      exact G_sub [0, 1, 2, 3] rfl (gX11_sum_25 hX hQ hcs N p0 p1 p2 (0 : Int32) μ)
  · refine G_iconst hX (1 : Int32) rfl dX11_sum_9 ?_
    refine G_goto hX 25 (by decide) dX11_sum_10 ?_
    exact G_sub [0, 1, 2, 3] rfl (gX11_sum_25 hX hQ hcs N p0 p1 p2 (1 : Int32) μ)
theorem cX11_sum_ok (l : Launch) (N : Nat) (p0 : Int32) (p1 : Int32) (p2 : Int32) (μ : Mem) (z : Int64 × Mem) (h : fX11_sum N p0 p1 p2 μ = some z) : Ml wM l yX11_sum cX11_sum 4 .long (rmo 11 262) (fun ad adK => [.ref (ad 0), .int p0, .int p1, .int p2]) μ z := Ml.of h (by decide +kernel) (fun _ _ => Nat.le_of_ble_eq_true rfl) (fun X hX hQ hl hcs => gX11_sum_E hX hQ hcs N p0 p1 p2 μ)
/-! ===== DutyCaseModel.valueBy(IJ)J ===== -/
set_option maxHeartbeats 4000000 in
set_option maxRecDepth 100000 in
theorem gX11_valueBy_10 {X : Ctx} {z : Int64 × Mem} (hX : Fx wM X cX11_valueBy 7 RX11 (some .long) (rmo 6 138)) (hQ : Qx_l wM X z) (hcs : cx_cells X = 0 ∧ cx_slots X = 0) (N : Nat) : ∀ (n : Nat) (v1 : Int32) (v2 : Int64) (v4 : Int64) (v6 : Int32) (μ : Mem), G wM X z 10 [(0, .ref (cx_ad X 0)), (1, .int v1), (2, .long v2), (4, .long v4), (6, .int v6)] [] μ (fX11_valueBy_10 N n v1 v2 v4 v6 μ) := by
  intro n
  induction n with
  | zero =>
    intro v1 v2 v4 v6 μ
    exact G_none
  | succ n ih =>
    intro v1 v2 v4 v6 μ
    unfold fX11_valueBy_10
    refine G_iload hX 4 rfl dX11_valueBy_10 ?_
    refine G_aload_n hX 0 rfl rfl dX11_valueBy_12 ?_
    refine gf_X11_7_M0 hX dX11_valueBy_13 ?_
    refine G_bipush hX (34 : Int32) rfl dX11_valueBy_16 ?_
    refine G_aI hX atM1 dX11_valueBy_18 (fun x1 => ?_)
    refine G_icmp_ge hX 80 (by decide) dX11_valueBy_19 ?_ ?_
    · refine G_lload hX 3 rfl dX11_valueBy_80 ?_
      exact G_lret hX hQ dX11_valueBy_82
    · refine G_lload hX 3 rfl dX11_valueBy_22 ?_
      refine G_aload_n hX 0 rfl rfl dX11_valueBy_24 ?_
      refine G_iload hX 4 rfl dX11_valueBy_25 ?_
      refine G_cVi hX 0 11 (fun ad adK => [.int v6]) [.long v4] (fun z2 h2 => cX11_isExport_ok (cx_l X) N v6 μ z2 h2) ok_X11_isExport lm_X11_425 atM0.1 atM0.2 rfl rfl (fun _ _ => rfl) (Nat.le_of_ble_eq_true rfl) ⟨rfl, rfl, by decide, by decide⟩ (cs0 hcs) dX11_valueBy_27 (fun r2 μ => ?_)
      refine G_if_eq hX 70 (by decide) dX11_valueBy_30 ?_ ?_
      · refine G_lconst hX (0 : Int64) rfl dX11_valueBy_70 ?_
        refine G_ladd hX dX11_valueBy_71 ?_
        refine G_nml (fun x3 => ?_)
        refine G_lstore hX [(4, .long x3), (0, .ref (cx_ad X 0)), (1, .int v1), (2, .long v2), (6, .int v6)] (by decide) rfl dX11_valueBy_72 ?_
        refine G_iincN hX 4 (fun x4 => [(6, .int x4), (4, .long x3), (0, .ref (cx_ad X 0)), (1, .int v1), (2, .long v2)]) rfl rfl (by decide) (fun _ => rfl) dX11_valueBy_74 (fun x4 => ?_)
        refine G_goto hX 10 (by decide) dX11_valueBy_77 ?_
        exact G_sub [2, 3, 4, 1, 0] rfl (ih v1 v2 x3 x4 μ)
      · refine G_aload_n hX 0 rfl rfl dX11_valueBy_33 ?_
        refine G_iload hX 4 rfl dX11_valueBy_34 ?_
        refine G_iconst hX (1 : Int32) rfl dX11_valueBy_36 ?_
        refine G_cVi hX 0 11 (fun ad adK => [.int v6, .int (1 : Int32)]) [.long v4] (fun z2 h2 => cX11_of_ok (cx_l X) N v6 (1 : Int32) μ z2 h2) ok_X11_of lm_X11_305 atM0.1 atM0.2 rfl rfl (fun _ _ => rfl) (Nat.le_of_ble_eq_true rfl) ⟨rfl, rfl, by decide, by decide⟩ (cs0 hcs) dX11_valueBy_37 (fun r5 μ => ?_)
        refine G_iload_n hX 1 rfl rfl dX11_valueBy_40 ?_
        refine G_icmp_ne hX 70 (by decide) dX11_valueBy_41 ?_ ?_
        · refine G_lconst hX (0 : Int64) rfl dX11_valueBy_70 ?_
          refine G_ladd hX dX11_valueBy_71 ?_
          refine G_nml (fun x6 => ?_)
          refine G_lstore hX [(4, .long x6), (0, .ref (cx_ad X 0)), (1, .int v1), (2, .long v2), (6, .int v6)] (by decide) rfl dX11_valueBy_72 ?_
          refine G_iincN hX 4 (fun x7 => [(6, .int x7), (4, .long x6), (0, .ref (cx_ad X 0)), (1, .int v1), (2, .long v2)]) rfl rfl (by decide) (fun _ => rfl) dX11_valueBy_74 (fun x7 => ?_)
          refine G_goto hX 10 (by decide) dX11_valueBy_77 ?_
          exact G_sub [2, 3, 4, 1, 0] rfl (ih v1 v2 x6 x7 μ)
        · refine G_ldc2 hX lc_X11_409 dX11_valueBy_44 ?_
          refine G_aload_n hX 0 rfl rfl dX11_valueBy_47 ?_
          refine gf_X11_69_M0 hX dX11_valueBy_48 ?_
          refine G_iload hX 4 rfl dX11_valueBy_51 ?_
          refine G_aI hX atM19 dX11_valueBy_53 (fun x8 => ?_)
          refine G_i2l hX dX11_valueBy_54 ?_
          refine G_lload_n hX 2 rfl rfl dX11_valueBy_55 ?_
          refine G_ladd hX dX11_valueBy_56 ?_
          refine G_lmul hX dX11_valueBy_57 ?_
          refine G_aload_n hX 0 rfl rfl dX11_valueBy_58 ?_
          refine G_iload hX 4 rfl dX11_valueBy_59 ?_
          refine G_iconst hX (5 : Int32) rfl dX11_valueBy_61 ?_
          refine G_cVi hX 0 11 (fun ad adK => [.int v6, .int (5 : Int32)]) [.long ((1000 : Int64) * (x8.toInt64 + v2)), .long v4] (fun z2 h2 => cX11_of_ok (cx_l X) N v6 (5 : Int32) μ z2 h2) ok_X11_of lm_X11_305 atM0.1 atM0.2 rfl rfl (fun _ _ => rfl) (Nat.le_of_ble_eq_true rfl) ⟨rfl, rfl, by decide, by decide⟩ (cs0 hcs) dX11_valueBy_62 (fun r9 μ => ?_)
          refine G_i2l hX dX11_valueBy_65 ?_
          refine G_lmul hX dX11_valueBy_66 ?_
          refine G_goto hX 71 (by decide) dX11_valueBy_67 ?_
          refine G_ladd hX dX11_valueBy_71 ?_
          refine G_nml (fun x10 => ?_)
          refine G_lstore hX [(4, .long x10), (0, .ref (cx_ad X 0)), (1, .int v1), (2, .long v2), (6, .int v6)] (by decide) rfl dX11_valueBy_72 ?_
          refine G_iincN hX 4 (fun x11 => [(6, .int x11), (4, .long x10), (0, .ref (cx_ad X 0)), (1, .int v1), (2, .long v2)]) rfl rfl (by decide) (fun _ => rfl) dX11_valueBy_74 (fun x11 => ?_)
          refine G_goto hX 10 (by decide) dX11_valueBy_77 ?_
          exact G_sub [2, 3, 4, 1, 0] rfl (ih v1 v2 x10 x11 μ)
set_option maxHeartbeats 4000000 in
set_option maxRecDepth 100000 in
theorem gX11_valueBy_E {X : Ctx} {z : Int64 × Mem} (hX : Fx wM X cX11_valueBy 7 RX11 (some .long) (rmo 6 138)) (hQ : Qx_l wM X z) (hcs : cx_cells X = 0 ∧ cx_slots X = 0) (N : Nat) (p0 : Int32) (p1 : Int64) (μ : Mem) : G wM X z 0 [(0, .ref (cx_ad X 0)), (1, .int p0), (2, .long p1)] [] μ (fX11_valueBy N p0 p1 μ) := by
  unfold fX11_valueBy
  refine G_aload_n hX 0 rfl rfl dX11_valueBy_0 ?_
  refine G_cVv hX 0 11 (fun ad adK => []) [] (fun z2 h2 => cX11_lays_ok (cx_l X) N μ z2 h2) ok_X11_lays lm_X11_367 atM0.1 atM0.2 rfl rfl (fun _ _ => rfl) (Nat.le_of_ble_eq_true rfl) ⟨rfl, rfl, by decide, by decide⟩ (cs0 hcs) dX11_valueBy_1 (fun μ => ?_)
  refine G_lconst hX (0 : Int64) rfl dX11_valueBy_4 ?_
  refine G_lstore hX [(4, .long (0 : Int64)), (0, .ref (cx_ad X 0)), (1, .int p0), (2, .long p1)] (by decide) rfl dX11_valueBy_5 ?_
  refine G_iconst hX (0 : Int32) rfl dX11_valueBy_7 ?_
  refine G_istore hX [(6, .int (0 : Int32)), (4, .long (0 : Int64)), (0, .ref (cx_ad X 0)), (1, .int p0), (2, .long p1)] (by decide) rfl dX11_valueBy_8 ?_
  exact G_sub [2, 3, 4, 1, 0] rfl (gX11_valueBy_10 hX hQ hcs N N p0 p1 (0 : Int64) (0 : Int32) μ)
theorem cX11_valueBy_ok (l : Launch) (N : Nat) (p0 : Int32) (p1 : Int64) (μ : Mem) (z : Int64 × Mem) (h : fX11_valueBy N p0 p1 μ = some z) : Ml wM l yX11_valueBy cX11_valueBy 7 .long (rmo 6 138) (fun ad adK => [.ref (ad 0), .int p0, .long p1]) μ z := Ml.of h (by decide +kernel) (fun _ _ => Nat.le_of_ble_eq_true rfl) (fun X hX hQ hl hcs => gX11_valueBy_E hX hQ hcs N p0 p1 μ)
/-! ===== DutyCaseModel.value(I)J ===== -/
set_option maxHeartbeats 4000000 in
set_option maxRecDepth 100000 in
theorem gX11_value_14 {X : Ctx} {z : Int64 × Mem} (hX : Fx wM X cX11_value 2 RX11 (some .long) (rmo 7 164)) (hQ : Qx_l wM X z) (hcs : cx_cells X = 0 ∧ cx_slots X = 0) (N : Nat) (v1 : Int32) (s0 : Int32) (μ : Mem) : G wM X z 14 [(0, .ref (cx_ad X 0)), (1, .int v1)] [.int s0, .ref (cx_ad X 0)] μ (fX11_value_14 N v1 s0 μ) := by
  unfold fX11_value_14
  refine pf_X11_104_M0 hX dX11_value_14 (fun μ => ?_)
  refine G_aload_n hX 0 rfl rfl dX11_value_17 ?_
  refine gf_X11_104_M0 hX dX11_value_18 ?_
  refine G_nmi (fun x2 => ?_)
  refine G_if_le hX 28 (by decide) dX11_value_21 ?_ ?_
  · refine G_aload_n hX 0 rfl rfl dX11_value_28 ?_
    refine G_iload_n hX 1 rfl rfl dX11_value_29 ?_
    refine G_lconst hX (0 : Int64) rfl dX11_value_30 ?_
    refine G_cVl hX 0 11 (fun ad adK => [.int v1, .long (0 : Int64)]) [] (fun z2 h2 => cX11_valueBy_ok (cx_l X) N v1 (0 : Int64) μ z2 h2) ok_X11_valueBy lm_X11_461 atM0.1 atM0.2 rfl rfl (fun _ _ => rfl) (Nat.le_of_ble_eq_true rfl) ⟨rfl, rfl, by decide, by decide⟩ (cs0 hcs) dX11_value_31 (fun r3 μ => ?_)
    exact G_lret hX hQ dX11_value_34
  · refine G_lconst hX (0 : Int64) rfl dX11_value_24 ?_
    refine G_goto hX 34 (by decide) dX11_value_25 ?_
    exact G_lret hX hQ dX11_value_34
set_option maxHeartbeats 4000000 in
set_option maxRecDepth 100000 in
theorem gX11_value_E {X : Ctx} {z : Int64 × Mem} (hX : Fx wM X cX11_value 2 RX11 (some .long) (rmo 7 164)) (hQ : Qx_l wM X z) (hcs : cx_cells X = 0 ∧ cx_slots X = 0) (N : Nat) (p0 : Int32) (μ : Mem) : G wM X z 0 [(0, .ref (cx_ad X 0)), (1, .int p0)] [] μ (fX11_value N p0 μ) := by
  unfold fX11_value
  refine G_aload_n hX 0 rfl rfl dX11_value_0 ?_
  refine G_aload_n hX 0 rfl rfl dX11_value_1 ?_
  refine G_iload_n hX 1 rfl rfl dX11_value_2 ?_
  refine G_cVi hX 0 11 (fun ad adK => [.int p0]) [.ref (cx_ad X 0)] (fun z2 h2 => cX11_isFirm_ok (cx_l X) N p0 μ z2 h2) ok_X11_isFirm lm_X11_311 atM0.1 atM0.2 rfl rfl (fun _ _ => rfl) (Nat.le_of_ble_eq_true rfl) ⟨rfl, rfl, by decide, by decide⟩ (cs0 hcs) dX11_value_3 (fun r1 μ => ?_)
  refine G_if_eq hX 13 (by decide) dX11_value_6 ?_ ?_
  · refine G_iconst hX (1 : Int32) rfl dX11_value_13 ?_
    exact G_sub [0, 1] rfl (gX11_value_14 hX hQ hcs N p0 (1 : Int32) μ)
  · refine G_iconst hX (0 : Int32) rfl dX11_value_9 ?_
    refine G_goto hX 14 (by decide) dX11_value_10 ?_
    exact G_sub [0, 1] rfl (gX11_value_14 hX hQ hcs N p0 (0 : Int32) μ)
theorem cX11_value_ok (l : Launch) (N : Nat) (p0 : Int32) (μ : Mem) (z : Int64 × Mem) (h : fX11_value N p0 μ = some z) : Ml wM l yX11_value cX11_value 2 .long (rmo 7 164) (fun ad adK => [.ref (ad 0), .int p0]) μ z := Ml.of h (by decide +kernel) (fun _ _ => Nat.le_of_ble_eq_true rfl) (fun X hX hQ hl hcs => gX11_value_E hX hQ hcs N p0 μ)
/-! ===== DutyCaseModel.shareOf(JJ)I ===== -/
set_option maxHeartbeats 4000000 in
set_option maxRecDepth 100000 in
theorem gX11_shareOf_37 {X : Ctx} {z : Int32 × Mem} (hX : Fx wM X cX11_shareOf 6 RX11 (some .int) (rmo 0 0)) (hQ : Qx_i wM X z) (hcs : cx_cells X = 0 ∧ cx_slots X = 0) (N : Nat) (s0 : Int64) (μ : Mem) : G wM X z 37 [] [.long s0] μ (fX11_shareOf_37 N s0 μ) := by
  unfold fX11_shareOf_37
  refine G_lstore hX [(4, .long s0)] (by decide) rfl dX11_shareOf_37 ?_
  refine G_lload hX 0 rfl dX11_shareOf_39 ?_
  refine G_ldc2 hX lc_X11_467 dX11_shareOf_41 ?_
  refine G_lcmp hX dX11_shareOf_44 ?_
  refine G_if_le hX 54 (by decide) dX11_shareOf_45 ?_ ?_
  · refine G_lload hX 0 rfl dX11_shareOf_54 ?_
    refine G_l2i hX dX11_shareOf_56 ?_
    exact G_iret hX hQ dX11_shareOf_57
  · refine G_ldcw hX lc_X11_360 dX11_shareOf_48 ?_
    refine G_goto hX 57 (by decide) dX11_shareOf_51 ?_
    exact G_iret hX hQ dX11_shareOf_57
set_option maxHeartbeats 4000000 in
set_option maxRecDepth 100000 in
theorem gX11_shareOf_E {X : Ctx} {z : Int32 × Mem} (hX : Fx wM X cX11_shareOf 6 RX11 (some .int) (rmo 0 0)) (hQ : Qx_i wM X z) (hcs : cx_cells X = 0 ∧ cx_slots X = 0) (N : Nat) (p0 : Int64) (p1 : Int64) (μ : Mem) : G wM X z 0 [(0, .long p0), (2, .long p1)] [] μ (fX11_shareOf N p0 p1 μ) := by
  unfold fX11_shareOf
  refine G_lload_n hX 1 rfl rfl dX11_shareOf_0 ?_
  refine G_lconst hX (0 : Int64) rfl dX11_shareOf_1 ?_
  refine G_lcmp hX dX11_shareOf_2 ?_
  refine G_if_ne hX 20 (by decide) dX11_shareOf_3 ?_ ?_
  · refine G_lload_n hX 0 rfl rfl dX11_shareOf_20 ?_
    refine G_lconst hX (0 : Int64) rfl dX11_shareOf_21 ?_
    refine G_lcmp hX dX11_shareOf_22 ?_
    refine G_if_ge hX 30 (by decide) dX11_shareOf_23 ?_ ?_
    · refine G_ldc2 hX lc_X11_465 dX11_shareOf_30 ?_
      refine G_lload_n hX 0 rfl rfl dX11_shareOf_33 ?_
      refine G_lmul hX dX11_shareOf_34 ?_
      refine G_lload_n hX 1 rfl rfl dX11_shareOf_35 ?_
      refine G_ldv hX dX11_shareOf_36 ?_
      exact G_sub [] rfl (gX11_shareOf_37 hX hQ hcs N (((10000 : Int64) * p0) / p1) μ)
    · refine G_lconst hX (0 : Int64) rfl dX11_shareOf_26 ?_
      refine G_goto hX 37 (by decide) dX11_shareOf_27 ?_
      exact G_sub [] rfl (gX11_shareOf_37 hX hQ hcs N (0 : Int64) μ)
  · refine G_lload_n hX 0 rfl rfl dX11_shareOf_6 ?_
    refine G_lconst hX (0 : Int64) rfl dX11_shareOf_7 ?_
    refine G_lcmp hX dX11_shareOf_8 ?_
    refine G_if_ne hX 16 (by decide) dX11_shareOf_9 ?_ ?_
    · refine G_ldcw hX lc_X11_360 dX11_shareOf_16 ?_
      exact G_iret hX hQ dX11_shareOf_19
    · refine G_iconst hX (0 : Int32) rfl dX11_shareOf_12 ?_
      refine G_goto hX 19 (by decide) dX11_shareOf_13 ?_
      exact G_iret hX hQ dX11_shareOf_19
theorem cX11_shareOf_ok (l : Launch) (N : Nat) (p0 : Int64) (p1 : Int64) (μ : Mem) (z : Int32 × Mem) (h : fX11_shareOf N p0 p1 μ = some z) : Mi wM l yX11_shareOf cX11_shareOf 6 .int (rmo 0 0) (fun ad adK => [.long p0, .long p1]) μ z := Mi.of h (by decide +kernel) (fun _ _ => Nat.le_of_ble_eq_true rfl) (fun X hX hQ hl hcs => gX11_shareOf_E hX hQ hcs N p0 p1 μ)
/-! ===== DutyCaseModel.ownMargin(IIZ)I ===== -/
set_option maxHeartbeats 4000000 in
set_option maxRecDepth 100000 in
theorem gX11_ownMargin_E {X : Ctx} {z : Int32 × Mem} (hX : Fx wM X cX11_ownMargin 4 RX11 (some .int) (rmo 11 262)) (hQ : Qx_i wM X z) (hcs : cx_cells X = 0 ∧ cx_slots X = 0) (N : Nat) (p0 : Int32) (p1 : Int32) (p2 : Int32) (μ : Mem) : G wM X z 0 [(0, .ref (cx_ad X 0)), (1, .int p0), (2, .int p1), (3, .int p2)] [] μ (fX11_ownMargin N p0 p1 p2 μ) := by
  unfold fX11_ownMargin
  refine G_aload_n hX 0 rfl rfl dX11_ownMargin_0 ?_
  refine G_iload_n hX 1 rfl rfl dX11_ownMargin_1 ?_
  refine G_iload_n hX 2 rfl rfl dX11_ownMargin_2 ?_
  refine G_cVv hX 0 11 (fun ad adK => [.int p0, .int p1]) [] (fun z2 h2 => cX11_laysParts_ok (cx_l X) N p0 p1 μ z2 h2) ok_X11_laysParts lm_X11_454 atM0.1 atM0.2 rfl rfl (fun _ _ => rfl) (Nat.le_of_ble_eq_true rfl) ⟨rfl, rfl, by decide, by decide⟩ (cs0 hcs) dX11_ownMargin_3 (fun μ => ?_)
  refine G_aload_n hX 0 rfl rfl dX11_ownMargin_6 ?_
  refine G_iload_n hX 3 rfl rfl dX11_ownMargin_7 ?_
  refine G_lconst hX (0 : Int64) rfl dX11_ownMargin_8 ?_
  refine G_cVl hX 0 11 (fun ad adK => [.int p2, .long (0 : Int64)]) [] (fun z2 h2 => cX11_sumBy_ok (cx_l X) N p2 (0 : Int64) μ z2 h2) ok_X11_sumBy lm_X11_457 atM0.1 atM0.2 rfl rfl (fun _ _ => rfl) (Nat.le_of_ble_eq_true rfl) ⟨rfl, rfl, by decide, by decide⟩ (cs0 hcs) dX11_ownMargin_9 (fun r1 μ => ?_)
  refine G_aload_n hX 0 rfl rfl dX11_ownMargin_12 ?_
  refine G_iload_n hX 1 rfl rfl dX11_ownMargin_13 ?_
  refine G_lconst hX (0 : Int64) rfl dX11_ownMargin_14 ?_
  refine G_cVl hX 0 11 (fun ad adK => [.int p0, .long (0 : Int64)]) [.long r1] (fun z2 h2 => cX11_valueBy_ok (cx_l X) N p0 (0 : Int64) μ z2 h2) ok_X11_valueBy lm_X11_461 atM0.1 atM0.2 rfl rfl (fun _ _ => rfl) (Nat.le_of_ble_eq_true rfl) ⟨rfl, rfl, by decide, by decide⟩ (cs0 hcs) dX11_ownMargin_15 (fun r2 μ => ?_)
  refine G_cSi hX (fun ad adK => [.long r1, .long r2]) [] (fun z2 h2 => cX11_shareOf_ok (cx_l X) N r1 r2 μ z2 h2) ok_X11_shareOf lm_X11_469 rfl (fun _ _ => rfl) (Nat.le_of_ble_eq_true rfl) ⟨rfl, rfl, by decide, by decide⟩ (cs0 hcs) dX11_ownMargin_18 (fun r3 μ => ?_)
  exact G_iret hX hQ dX11_ownMargin_21
theorem cX11_ownMargin_ok (l : Launch) (N : Nat) (p0 : Int32) (p1 : Int32) (p2 : Int32) (μ : Mem) (z : Int32 × Mem) (h : fX11_ownMargin N p0 p1 p2 μ = some z) : Mi wM l yX11_ownMargin cX11_ownMargin 4 .int (rmo 11 262) (fun ad adK => [.ref (ad 0), .int p0, .int p1, .int p2]) μ z := Mi.of h (by decide +kernel) (fun _ _ => Nat.le_of_ble_eq_true rfl) (fun X hX hQ hl hcs => gX11_ownMargin_E hX hQ hcs N p0 p1 p2 μ)
/-! ===== DutyCaseModel.isSilent(I)Z ===== -/
set_option maxHeartbeats 4000000 in
set_option maxRecDepth 100000 in
theorem gX11_isSilent_E {X : Ctx} {z : Int32 × Mem} (hX : Fx wM X cX11_isSilent 2 RX11 (some .boolean) (rmo 0 0)) (hQ : Qx_i wM X z) (hcs : cx_cells X = 0 ∧ cx_slots X = 0) (N : Nat) (p0 : Int32) (μ : Mem) : G wM X z 0 [(0, .ref (cx_ad X 0)), (1, .int p0)] [] μ (fX11_isSilent N p0 μ) := by
  unfold fX11_isSilent
  refine G_aload_n hX 0 rfl rfl dX11_isSilent_0 ?_
  refine gf_X11_7_M0 hX dX11_isSilent_1 ?_
  refine G_bipush hX (24 : Int32) rfl dX11_isSilent_4 ?_
  refine G_iload_n hX 1 rfl rfl dX11_isSilent_6 ?_
  refine G_iadd hX dX11_isSilent_7 ?_
  refine G_aI hX atM1 dX11_isSilent_8 (fun x1 => ?_)
  refine G_iconst hX (1 : Int32) rfl dX11_isSilent_9 ?_
  refine G_icmp_ne hX 17 (by decide) dX11_isSilent_10 ?_ ?_
  · refine G_iconst hX (0 : Int32) rfl dX11_isSilent_17 ?_
    exact G_zret hX hQ rfl dX11_isSilent_18
  · refine G_iconst hX (1 : Int32) rfl dX11_isSilent_13 ?_
    refine G_goto hX 18 (by decide) dX11_isSilent_14 ?_
    exact G_zret hX hQ rfl dX11_isSilent_18
theorem cX11_isSilent_ok (l : Launch) (N : Nat) (p0 : Int32) (μ : Mem) (z : Int32 × Mem) (h : fX11_isSilent N p0 μ = some z) : Mi wM l yX11_isSilent cX11_isSilent 2 .boolean (rmo 0 0) (fun ad adK => [.ref (ad 0), .int p0]) μ z := Mi.of h (by decide +kernel) (fun _ _ => Nat.le_of_ble_eq_true rfl) (fun X hX hQ hl hcs => gX11_isSilent_E hX hQ hcs N p0 μ)
/-! ===== DutyCaseModel.marginOf(IIZ)I ===== -/
set_option maxHeartbeats 4000000 in
set_option maxRecDepth 100000 in
theorem gX11_marginOf_52 {X : Ctx} {z : Int32 × Mem} (hX : Fx wM X cX11_marginOf 7 RX11 (some .int) (rmo 12 285)) (hQ : Qx_i wM X z) (hcs : cx_cells X = 0 ∧ cx_slots X = 0) (N : Nat) (k22 : Int32 → Int32 → Int32 → Int32 → Mem → Option (Int32 × Mem)) (hk22 : ∀ (v2 : Int32) (v3 : Int32) (v4 : Int32) (v5 : Int32) (μ : Mem), G wM X z 22 [(0, .ref (cx_ad X 0)), (2, .int v2), (3, .int v3), (4, .int v4), (5, .int v5)] [] μ (k22 v2 v3 v4 v5 μ)) (v2 : Int32) (v3 : Int32) (v4 : Int32) (v5 : Int32) (s0 : Int32) (μ : Mem) : G wM X z 52 [(0, .ref (cx_ad X 0)), (2, .int v2), (3, .int v3), (4, .int v4), (5, .int v5)] [.int s0] μ (fX11_marginOf_52 N k22 v2 v3 v4 v5 s0 μ) := by
  unfold fX11_marginOf_52
  refine G_istore hX [(6, .int s0), (0, .ref (cx_ad X 0)), (2, .int v2), (3, .int v3), (4, .int v4), (5, .int v5)] (by decide) rfl dX11_marginOf_52 ?_
  refine G_iload hX 0 rfl dX11_marginOf_54 ?_
  refine G_iload hX 4 rfl dX11_marginOf_56 ?_
  refine G_icmp_le hX 66 (by decide) dX11_marginOf_58 ?_ ?_
  · refine G_iload hX 4 rfl dX11_marginOf_66 ?_
    refine G_istore hX [(4, .int v4), (6, .int s0), (0, .ref (cx_ad X 0)), (2, .int v2), (3, .int v3), (5, .int v5)] (by decide) rfl dX11_marginOf_68 ?_
    refine G_iincN hX 5 (fun x6 => [(5, .int x6), (4, .int v4), (6, .int s0), (0, .ref (cx_ad X 0)), (2, .int v2), (3, .int v3)]) rfl rfl (by decide) (fun _ => rfl) dX11_marginOf_70 (fun x6 => ?_)
    refine G_goto hX 22 (by decide) dX11_marginOf_73 ?_
    exact G_sub [3, 4, 5, 1, 0] rfl (hk22 v2 v3 v4 x6 μ)
  · refine G_iload hX 0 rfl dX11_marginOf_61 ?_
    refine G_goto hX 68 (by decide) dX11_marginOf_63 ?_
    refine G_istore hX [(4, .int s0), (6, .int s0), (0, .ref (cx_ad X 0)), (2, .int v2), (3, .int v3), (5, .int v5)] (by decide) rfl dX11_marginOf_68 ?_
    refine G_iincN hX 5 (fun x7 => [(5, .int x7), (4, .int s0), (6, .int s0), (0, .ref (cx_ad X 0)), (2, .int v2), (3, .int v3)]) rfl rfl (by decide) (fun _ => rfl) dX11_marginOf_70 (fun x7 => ?_)
    refine G_goto hX 22 (by decide) dX11_marginOf_73 ?_
    exact G_sub [3, 4, 5, 1, 0] rfl (hk22 v2 v3 s0 x7 μ)
set_option maxHeartbeats 4000000 in
set_option maxRecDepth 100000 in
theorem gX11_marginOf_22 {X : Ctx} {z : Int32 × Mem} (hX : Fx wM X cX11_marginOf 7 RX11 (some .int) (rmo 12 285)) (hQ : Qx_i wM X z) (hcs : cx_cells X = 0 ∧ cx_slots X = 0) (N : Nat) : ∀ (n : Nat) (v2 : Int32) (v3 : Int32) (v4 : Int32) (v5 : Int32) (μ : Mem), G wM X z 22 [(0, .ref (cx_ad X 0)), (2, .int v2), (3, .int v3), (4, .int v4), (5, .int v5)] [] μ (fX11_marginOf_22 N n v2 v3 v4 v5 μ) := by
  intro n
  induction n with
  | zero =>
    intro v2 v3 v4 v5 μ
    exact G_none
  | succ n ih =>
    intro v2 v3 v4 v5 μ
    unfold fX11_marginOf_22
    refine G_iload hX 4 rfl dX11_marginOf_22 ?_
    refine G_aload_n hX 0 rfl rfl dX11_marginOf_24 ?_
    refine gf_X11_291_M0 hX dX11_marginOf_25 ?_
    refine G_nmi (fun x3 => ?_)
    refine G_icmp_ge hX 76 (by decide) dX11_marginOf_28 ?_ ?_
    · refine G_iload hX 3 rfl dX11_marginOf_76 ?_
      exact G_iret hX hQ dX11_marginOf_78
    · refine G_aload_n hX 0 rfl rfl dX11_marginOf_31 ?_
      refine G_iload hX 4 rfl dX11_marginOf_32 ?_
      refine G_cVi hX 0 11 (fun ad adK => [.int v5]) [] (fun z2 h2 => cX11_isSilent_ok (cx_l X) N v5 μ z2 h2) ok_X11_isSilent lm_X11_473 atM0.1 atM0.2 rfl rfl (fun _ _ => rfl) (Nat.le_of_ble_eq_true rfl) ⟨rfl, rfl, by decide, by decide⟩ (cs0 hcs) dX11_marginOf_34 (fun r4 μ => ?_)
      refine G_if_eq hX 44 (by decide) dX11_marginOf_37 ?_ ?_
      · refine G_aload_n hX 0 rfl rfl dX11_marginOf_44 ?_
        refine G_iload hX 4 rfl dX11_marginOf_45 ?_
        refine G_iload_n hX 1 rfl rfl dX11_marginOf_47 ?_
        refine G_iload_n hX 2 rfl rfl dX11_marginOf_48 ?_
        refine G_cVi hX 0 11 (fun ad adK => [.int v5, .int v2, .int v3]) [] (fun z2 h2 => cX11_ownMargin_ok (cx_l X) N v5 v2 v3 μ z2 h2) ok_X11_ownMargin lm_X11_476 atM0.1 atM0.2 rfl rfl (fun _ _ => rfl) (Nat.le_of_ble_eq_true rfl) ⟨rfl, rfl, by decide, by decide⟩ (cs0 hcs) dX11_marginOf_49 (fun r5 μ => ?_)
        exact G_sub [0, 1, 2, 3, 4] rfl (gX11_marginOf_52 hX hQ hcs N (fun v2 v3 v4 v5 μ => fX11_marginOf_22 N n v2 v3 v4 v5 μ) (fun v2 v3 v4 v5  μ => ih v2 v3 v4 v5  μ) v2 v3 v4 v5 r5 μ)
      · refine G_iconst hX (0 : Int32) rfl dX11_marginOf_40 ?_
        refine G_goto hX 52 (by decide) dX11_marginOf_41 ?_
        exact G_sub [0, 1, 2, 3, 4] rfl (gX11_marginOf_52 hX hQ hcs N (fun v2 v3 v4 v5 μ => fX11_marginOf_22 N n v2 v3 v4 v5 μ) (fun v2 v3 v4 v5  μ => ih v2 v3 v4 v5  μ) v2 v3 v4 v5 (0 : Int32) μ)
set_option maxHeartbeats 4000000 in
set_option maxRecDepth 100000 in
theorem gX11_marginOf_E {X : Ctx} {z : Int32 × Mem} (hX : Fx wM X cX11_marginOf 7 RX11 (some .int) (rmo 12 285)) (hQ : Qx_i wM X z) (hcs : cx_cells X = 0 ∧ cx_slots X = 0) (N : Nat) (p0 : Int32) (p1 : Int32) (p2 : Int32) (μ : Mem) : G wM X z 0 [(0, .ref (cx_ad X 0)), (1, .int p0), (2, .int p1), (3, .int p2)] [] μ (fX11_marginOf N p0 p1 p2 μ) := by
  unfold fX11_marginOf
  refine G_aload_n hX 0 rfl rfl dX11_marginOf_0 ?_
  refine G_iload_n hX 1 rfl rfl dX11_marginOf_1 ?_
  refine G_cVi hX 0 11 (fun ad adK => [.int p0]) [] (fun z2 h2 => cX11_isSilent_ok (cx_l X) N p0 μ z2 h2) ok_X11_isSilent lm_X11_473 atM0.1 atM0.2 rfl rfl (fun _ _ => rfl) (Nat.le_of_ble_eq_true rfl) ⟨rfl, rfl, by decide, by decide⟩ (cs0 hcs) dX11_marginOf_2 (fun r1 μ => ?_)
  refine G_if_ne hX 16 (by decide) dX11_marginOf_5 ?_ ?_
  · refine G_iconst hX (0 : Int32) rfl dX11_marginOf_16 ?_
    refine G_istore hX [(4, .int (0 : Int32)), (0, .ref (cx_ad X 0)), (1, .int p0), (2, .int p1), (3, .int p2)] (by decide) rfl dX11_marginOf_17 ?_
    refine G_iconst hX (0 : Int32) rfl dX11_marginOf_19 ?_
    refine G_istore hX [(5, .int (0 : Int32)), (4, .int (0 : Int32)), (0, .ref (cx_ad X 0)), (1, .int p0), (2, .int p1), (3, .int p2)] (by decide) rfl dX11_marginOf_20 ?_
    exact G_sub [2, 4, 5, 1, 0] rfl (gX11_marginOf_22 hX hQ hcs N N p1 p2 (0 : Int32) (0 : Int32) μ)
  · refine G_aload_n hX 0 rfl rfl dX11_marginOf_8 ?_
    refine G_iload_n hX 1 rfl rfl dX11_marginOf_9 ?_
    refine G_iload_n hX 2 rfl rfl dX11_marginOf_10 ?_
    refine G_iload_n hX 3 rfl rfl dX11_marginOf_11 ?_
    refine G_cVi hX 0 11 (fun ad adK => [.int p0, .int p1, .int p2]) [] (fun z2 h2 => cX11_ownMargin_ok (cx_l X) N p0 p1 p2 μ z2 h2) ok_X11_ownMargin lm_X11_476 atM0.1 atM0.2 rfl rfl (fun _ _ => rfl) (Nat.le_of_ble_eq_true rfl) ⟨rfl, rfl, by decide, by decide⟩ (cs0 hcs) dX11_marginOf_12 (fun r2 μ => ?_)
    exact G_iret hX hQ dX11_marginOf_15
theorem cX11_marginOf_ok (l : Launch) (N : Nat) (p0 : Int32) (p1 : Int32) (p2 : Int32) (μ : Mem) (z : Int32 × Mem) (h : fX11_marginOf N p0 p1 p2 μ = some z) : Mi wM l yX11_marginOf cX11_marginOf 7 .int (rmo 12 285) (fun ad adK => [.ref (ad 0), .int p0, .int p1, .int p2]) μ z := Mi.of h (by decide +kernel) (fun _ _ => Nat.le_of_ble_eq_true rfl) (fun X hX hQ hl hcs => gX11_marginOf_E hX hQ hcs N p0 p1 p2 μ)
/-! ===== DutyCaseModel.margin(IIZ)I ===== -/
set_option maxHeartbeats 4000000 in
set_option maxRecDepth 100000 in
theorem gX11_margin_25 {X : Ctx} {z : Int32 × Mem} (hX : Fx wM X cX11_margin 4 RX11 (some .int) (rmo 13 311)) (hQ : Qx_i wM X z) (hcs : cx_cells X = 0 ∧ cx_slots X = 0) (N : Nat) (v1 : Int32) (v2 : Int32) (v3 : Int32) (s0 : Int32) (μ : Mem) : G wM X z 25 [(0, .ref (cx_ad X 0)), (1, .int v1), (2, .int v2), (3, .int v3)] [.int s0, .ref (cx_ad X 0)] μ (fX11_margin_25 N v1 v2 v3 s0 μ) := by
  unfold fX11_margin_25
  refine pf_X11_104_M0 hX dX11_margin_25 (fun μ => ?_)
  refine G_aload_n hX 0 rfl rfl dX11_margin_28 ?_
  refine gf_X11_104_M0 hX dX11_margin_29 ?_
  refine G_nmi (fun x3 => ?_)
  refine G_if_le hX 39 (by decide) dX11_margin_32 ?_ ?_
  · refine G_aload_n hX 0 rfl rfl dX11_margin_39 ?_
    refine G_iload_n hX 1 rfl rfl dX11_margin_40 ?_
    refine G_iload_n hX 2 rfl rfl dX11_margin_41 ?_
    refine G_iload_n hX 3 rfl rfl dX11_margin_42 ?_
    refine G_cVi hX 0 11 (fun ad adK => [.int v1, .int v2, .int v3]) [] (fun z2 h2 => cX11_marginOf_ok (cx_l X) N v1 v2 v3 μ z2 h2) ok_X11_marginOf lm_X11_479 atM0.1 atM0.2 rfl rfl (fun _ _ => rfl) (Nat.le_of_ble_eq_true rfl) ⟨rfl, rfl, by decide, by decide⟩ (cs0 hcs) dX11_margin_43 (fun r4 μ => ?_)
    exact G_iret hX hQ dX11_margin_46
  · refine G_iconst hX (0 : Int32) rfl dX11_margin_35 ?_
    refine G_goto hX 46 (by decide) dX11_margin_36 ?_
    exact G_iret hX hQ dX11_margin_46
set_option maxHeartbeats 4000000 in
set_option maxRecDepth 100000 in
theorem gX11_margin_E {X : Ctx} {z : Int32 × Mem} (hX : Fx wM X cX11_margin 4 RX11 (some .int) (rmo 13 311)) (hQ : Qx_i wM X z) (hcs : cx_cells X = 0 ∧ cx_slots X = 0) (N : Nat) (p0 : Int32) (p1 : Int32) (p2 : Int32) (μ : Mem) : G wM X z 0 [(0, .ref (cx_ad X 0)), (1, .int p0), (2, .int p1), (3, .int p2)] [] μ (fX11_margin N p0 p1 p2 μ) := by
  unfold fX11_margin
  refine G_aload_n hX 0 rfl rfl dX11_margin_0 ?_
  refine G_aload_n hX 0 rfl rfl dX11_margin_1 ?_
  refine G_iload_n hX 1 rfl rfl dX11_margin_2 ?_
  refine G_cVi hX 0 11 (fun ad adK => [.int p0]) [.ref (cx_ad X 0)] (fun z2 h2 => cX11_isFirm_ok (cx_l X) N p0 μ z2 h2) ok_X11_isFirm lm_X11_311 atM0.1 atM0.2 rfl rfl (fun _ _ => rfl) (Nat.le_of_ble_eq_true rfl) ⟨rfl, rfl, by decide, by decide⟩ (cs0 hcs) dX11_margin_3 (fun r1 μ => ?_)
  refine G_if_ne hX 13 (by decide) dX11_margin_6 ?_ ?_
  · refine G_iload_n hX 2 rfl rfl dX11_margin_13 ?_
    refine G_cSi hX (fun ad adK => [.int p1]) [.ref (cx_ad X 0)] (fun z2 h2 => cX11_isMethod_ok (cx_l X) N p1 μ z2 h2) ok_X11_isMethod lm_X11_451 rfl (fun _ _ => rfl) (Nat.le_of_ble_eq_true rfl) ⟨rfl, rfl, by decide, by decide⟩ (cs0 hcs) dX11_margin_14 (fun r2 μ => ?_)
    refine G_if_eq hX 24 (by decide) dX11_margin_17 ?_ ?_
    · refine G_iconst hX (2 : Int32) rfl dX11_margin_24 ?_
      exact G_sub [0, 1, 2, 3] rfl (gX11_margin_25 hX hQ hcs N p0 p1 p2 (2 : Int32) μ)
    · refine G_iconst hX (0 : Int32) rfl dX11_margin_20 ?_
      refine G_goto hX 25 (by decide) dX11_margin_21 ?_
      exact G_sub [0, 1, 2, 3] rfl (gX11_margin_25 hX hQ hcs N p0 p1 p2 (0 : Int32) μ)
  · refine G_iconst hX (1 : Int32) rfl dX11_margin_9 ?_
    refine G_goto hX 25 (by decide) dX11_margin_10 ?_
    exact G_sub [0, 1, 2, 3] rfl (gX11_margin_25 hX hQ hcs N p0 p1 p2 (1 : Int32) μ)
theorem cX11_margin_ok (l : Launch) (N : Nat) (p0 : Int32) (p1 : Int32) (p2 : Int32) (μ : Mem) (z : Int32 × Mem) (h : fX11_margin N p0 p1 p2 μ = some z) : Mi wM l yX11_margin cX11_margin 4 .int (rmo 13 311) (fun ad adK => [.ref (ad 0), .int p0, .int p1, .int p2]) μ z := Mi.of h (by decide +kernel) (fun _ _ => Nat.le_of_ble_eq_true rfl) (fun X hX hQ hl hcs => gX11_margin_E hX hQ hcs N p0 p1 p2 μ)
/-! ===== DutyCaseModel.isZeroing()Z ===== -/
set_option maxHeartbeats 4000000 in
set_option maxRecDepth 100000 in
theorem gX11_isZeroing_E {X : Ctx} {z : Int32 × Mem} (hX : Fx wM X cX11_isZeroing 1 RX11 (some .boolean) (rmo 0 0)) (hQ : Qx_i wM X z) (hcs : cx_cells X = 0 ∧ cx_slots X = 0) (N : Nat) (μ : Mem) : G wM X z 0 [(0, .ref (cx_ad X 0))] [] μ (fX11_isZeroing N μ) := by
  unfold fX11_isZeroing
  refine G_aload_n hX 0 rfl rfl dX11_isZeroing_0 ?_
  refine gf_X11_7_M0 hX dX11_isZeroing_1 ?_
  refine G_bipush hX (29 : Int32) rfl dX11_isZeroing_4 ?_
  refine G_aI hX atM1 dX11_isZeroing_6 (fun x1 => ?_)
  refine G_iconst hX (1 : Int32) rfl dX11_isZeroing_7 ?_
  refine G_icmp_ne hX 15 (by decide) dX11_isZeroing_8 ?_ ?_
  · refine G_iconst hX (0 : Int32) rfl dX11_isZeroing_15 ?_
    exact G_zret hX hQ rfl dX11_isZeroing_16
  · refine G_iconst hX (1 : Int32) rfl dX11_isZeroing_11 ?_
    refine G_goto hX 16 (by decide) dX11_isZeroing_12 ?_
    exact G_zret hX hQ rfl dX11_isZeroing_16
theorem cX11_isZeroing_ok (l : Launch) (N : Nat) (μ : Mem) (z : Int32 × Mem) (h : fX11_isZeroing N μ = some z) : Mi wM l yX11_isZeroing cX11_isZeroing 1 .boolean (rmo 0 0) (fun ad adK => [.ref (ad 0)]) μ z := Mi.of h (by decide +kernel) (fun _ _ => Nat.le_of_ble_eq_true rfl) (fun X hX hQ hl hcs => gX11_isZeroing_E hX hQ hcs N μ)
/-! ===== DutyCaseModel.isSmall(II)Z ===== -/
set_option maxHeartbeats 4000000 in
set_option maxRecDepth 100000 in
theorem gX11_isSmall_E {X : Ctx} {z : Int32 × Mem} (hX : Fx wM X cX11_isSmall 4 RX11 (some .boolean) (rmo 3 70)) (hQ : Qx_i wM X z) (hcs : cx_cells X = 0 ∧ cx_slots X = 0) (N : Nat) (p0 : Int32) (p1 : Int32) (μ : Mem) : G wM X z 0 [(0, .ref (cx_ad X 0)), (1, .int p0), (2, .int p1)] [] μ (fX11_isSmall N p0 p1 μ) := by
  unfold fX11_isSmall
  refine G_aload_n hX 0 rfl rfl dX11_isSmall_0 ?_
  refine G_iload_n hX 1 rfl rfl dX11_isSmall_1 ?_
  refine G_iconst hX (1 : Int32) rfl dX11_isSmall_2 ?_
  refine G_cVi hX 0 11 (fun ad adK => [.int p0, .int (1 : Int32)]) [] (fun z2 h2 => cX11_manyIn_ok (cx_l X) N p0 (1 : Int32) μ z2 h2) ok_X11_manyIn lm_X11_344 atM0.1 atM0.2 rfl rfl (fun _ _ => rfl) (Nat.le_of_ble_eq_true rfl) ⟨rfl, rfl, by decide, by decide⟩ (cs0 hcs) dX11_isSmall_3 (fun r1 μ => ?_)
  refine G_istore_n hX [(3, .int r1), (0, .ref (cx_ad X 0)), (1, .int p0), (2, .int p1)] rfl (by decide) rfl dX11_isSmall_6 ?_
  refine G_iload_n hX 0 rfl rfl dX11_isSmall_7 ?_
  refine G_if_le hX 25 (by decide) dX11_isSmall_8 ?_ ?_
  · refine G_iconst hX (0 : Int32) rfl dX11_isSmall_25 ?_
    exact G_zret hX hQ rfl dX11_isSmall_26
  · refine G_bipush hX (100 : Int32) rfl dX11_isSmall_11 ?_
    refine G_iload_n hX 0 rfl rfl dX11_isSmall_13 ?_
    refine G_imul hX dX11_isSmall_14 ?_
    refine G_iconst hX (3 : Int32) rfl dX11_isSmall_15 ?_
    refine G_iload_n hX 3 rfl rfl dX11_isSmall_16 ?_
    refine G_imul hX dX11_isSmall_17 ?_
    refine G_icmp_ge hX 25 (by decide) dX11_isSmall_18 ?_ ?_
    · refine G_iconst hX (0 : Int32) rfl dX11_isSmall_25 ?_
      exact G_zret hX hQ rfl dX11_isSmall_26
    · refine G_iconst hX (1 : Int32) rfl dX11_isSmall_21 ?_
      refine G_goto hX 26 (by decide) dX11_isSmall_22 ?_
      exact G_zret hX hQ rfl dX11_isSmall_26
theorem cX11_isSmall_ok (l : Launch) (N : Nat) (p0 : Int32) (p1 : Int32) (μ : Mem) (z : Int32 × Mem) (h : fX11_isSmall N p0 p1 μ = some z) : Mi wM l yX11_isSmall cX11_isSmall 4 .boolean (rmo 3 70) (fun ad adK => [.ref (ad 0), .int p0, .int p1]) μ z := Mi.of h (by decide +kernel) (fun _ _ => Nat.le_of_ble_eq_true rfl) (fun X hX hQ hl hcs => gX11_isSmall_E hX hQ hcs N p0 p1 μ)
/-! ===== DutyCaseModel.isNegligible(I)Z ===== -/
set_option maxHeartbeats 4000000 in
set_option maxRecDepth 100000 in
theorem gX11_isNegligible_71 {X : Ctx} {z : Int32 × Mem} (hX : Fx wM X cX11_isNegligible 5 RX11 (some .boolean) (rmo 4 93)) (hQ : Qx_i wM X z) (hcs : cx_cells X = 0 ∧ cx_slots X = 0) (N : Nat) (v1 : Int32) (v2 : Int32) (v3 : Int32) (μ : Mem) : G wM X z 71 [(0, .ref (cx_ad X 0)), (1, .int v1), (2, .int v2), (3, .int v3)] [] μ (fX11_isNegligible_71 N v1 v2 v3 μ) := by
  unfold fX11_isNegligible_71
  refine G_aload_n hX 0 rfl rfl dX11_isNegligible_71 ?_
  refine G_iload_n hX 1 rfl rfl dX11_isNegligible_72 ?_
  refine G_iload_n hX 2 rfl rfl dX11_isNegligible_73 ?_
  refine G_cVi hX 0 11 (fun ad adK => [.int v1, .int v2]) [] (fun z2 h2 => cX11_isSmall_ok (cx_l X) N v1 v2 μ z2 h2) ok_X11_isSmall lm_X11_482 atM0.1 atM0.2 rfl rfl (fun _ _ => rfl) (Nat.le_of_ble_eq_true rfl) ⟨rfl, rfl, by decide, by decide⟩ (cs0 hcs) dX11_isNegligible_74 (fun r12 μ => ?_)
  refine G_if_eq hX 95 (by decide) dX11_isNegligible_77 ?_ ?_
  · refine G_iconst hX (0 : Int32) rfl dX11_isNegligible_95 ?_
    exact G_zret hX hQ rfl dX11_isNegligible_96
  · refine G_bipush hX (100 : Int32) rfl dX11_isNegligible_80 ?_
    refine G_iload_n hX 3 rfl rfl dX11_isNegligible_82 ?_
    refine G_imul hX dX11_isNegligible_83 ?_
    refine G_bipush hX (7 : Int32) rfl dX11_isNegligible_84 ?_
    refine G_iload_n hX 2 rfl rfl dX11_isNegligible_86 ?_
    refine G_imul hX dX11_isNegligible_87 ?_
    refine G_icmp_gt hX 95 (by decide) dX11_isNegligible_88 ?_ ?_
    · refine G_iconst hX (0 : Int32) rfl dX11_isNegligible_95 ?_
      exact G_zret hX hQ rfl dX11_isNegligible_96
    · refine G_iconst hX (1 : Int32) rfl dX11_isNegligible_91 ?_
      refine G_goto hX 96 (by decide) dX11_isNegligible_92 ?_
      exact G_zret hX hQ rfl dX11_isNegligible_96
set_option maxHeartbeats 4000000 in
set_option maxRecDepth 100000 in
theorem gX11_isNegligible_32 {X : Ctx} {z : Int32 × Mem} (hX : Fx wM X cX11_isNegligible 5 RX11 (some .boolean) (rmo 4 93)) (hQ : Qx_i wM X z) (hcs : cx_cells X = 0 ∧ cx_slots X = 0) (N : Nat) : ∀ (n : Nat) (v1 : Int32) (v2 : Int32) (v3 : Int32) (v4 : Int32) (μ : Mem), G wM X z 32 [(0, .ref (cx_ad X 0)), (1, .int v1), (2, .int v2), (3, .int v3), (4, .int v4)] [] μ (fX11_isNegligible_32 N n v1 v2 v3 v4 μ) := by
  intro n
  induction n with
  | zero =>
    intro v1 v2 v3 v4 μ
    exact G_none
  | succ n ih =>
    intro v1 v2 v3 v4 μ
    unfold fX11_isNegligible_32
    refine G_iload hX 4 rfl dX11_isNegligible_32 ?_
    refine G_aload_n hX 0 rfl rfl dX11_isNegligible_34 ?_
    refine gf_X11_291_M0 hX dX11_isNegligible_35 ?_
    refine G_nmi (fun x5 => ?_)
    refine G_icmp_ge hX 71 (by decide) dX11_isNegligible_38 ?_ ?_
    · exact G_sub [0, 1, 2, 3] rfl (gX11_isNegligible_71 hX hQ hcs N v1 v2 v3 μ)
    · refine G_iload_n hX 3 rfl rfl dX11_isNegligible_41 ?_
      refine G_aload_n hX 0 rfl rfl dX11_isNegligible_42 ?_
      refine G_iload hX 4 rfl dX11_isNegligible_43 ?_
      refine G_iload_n hX 2 rfl rfl dX11_isNegligible_45 ?_
      refine G_cVi hX 0 11 (fun ad adK => [.int v4, .int v2]) [.int v3] (fun z2 h2 => cX11_isSmall_ok (cx_l X) N v4 v2 μ z2 h2) ok_X11_isSmall lm_X11_482 atM0.1 atM0.2 rfl rfl (fun _ _ => rfl) (Nat.le_of_ble_eq_true rfl) ⟨rfl, rfl, by decide, by decide⟩ (cs0 hcs) dX11_isNegligible_46 (fun r6 μ => ?_)
      refine G_if_eq hX 62 (by decide) dX11_isNegligible_49 ?_ ?_
      · refine G_iconst hX (0 : Int32) rfl dX11_isNegligible_62 ?_
        refine G_iadd hX dX11_isNegligible_63 ?_
        refine G_nmi (fun x7 => ?_)
        refine G_istore_n hX [(3, .int x7), (0, .ref (cx_ad X 0)), (1, .int v1), (2, .int v2), (4, .int v4)] rfl (by decide) rfl dX11_isNegligible_64 ?_
        refine G_iincN hX 4 (fun x8 => [(4, .int x8), (3, .int x7), (0, .ref (cx_ad X 0)), (1, .int v1), (2, .int v2)]) rfl rfl (by decide) (fun _ => rfl) dX11_isNegligible_65 (fun x8 => ?_)
        refine G_goto hX 32 (by decide) dX11_isNegligible_68 ?_
        exact G_sub [2, 3, 4, 1, 0] rfl (ih v1 v2 x7 x8 μ)
      · refine G_aload_n hX 0 rfl rfl dX11_isNegligible_52 ?_
        refine G_iload hX 4 rfl dX11_isNegligible_53 ?_
        refine G_iconst hX (1 : Int32) rfl dX11_isNegligible_55 ?_
        refine G_cVi hX 0 11 (fun ad adK => [.int v4, .int (1 : Int32)]) [.int v3] (fun z2 h2 => cX11_manyIn_ok (cx_l X) N v4 (1 : Int32) μ z2 h2) ok_X11_manyIn lm_X11_344 atM0.1 atM0.2 rfl rfl (fun _ _ => rfl) (Nat.le_of_ble_eq_true rfl) ⟨rfl, rfl, by decide, by decide⟩ (cs0 hcs) dX11_isNegligible_56 (fun r9 μ => ?_)
        refine G_goto hX 63 (by decide) dX11_isNegligible_59 ?_
        refine G_iadd hX dX11_isNegligible_63 ?_
        refine G_nmi (fun x10 => ?_)
        refine G_istore_n hX [(3, .int x10), (0, .ref (cx_ad X 0)), (1, .int v1), (2, .int v2), (4, .int v4)] rfl (by decide) rfl dX11_isNegligible_64 ?_
        refine G_iincN hX 4 (fun x11 => [(4, .int x11), (3, .int x10), (0, .ref (cx_ad X 0)), (1, .int v1), (2, .int v2)]) rfl rfl (by decide) (fun _ => rfl) dX11_isNegligible_65 (fun x11 => ?_)
        refine G_goto hX 32 (by decide) dX11_isNegligible_68 ?_
        exact G_sub [2, 3, 4, 1, 0] rfl (ih v1 v2 x10 x11 μ)
set_option maxHeartbeats 4000000 in
set_option maxRecDepth 100000 in
theorem gX11_isNegligible_27 {X : Ctx} {z : Int32 × Mem} (hX : Fx wM X cX11_isNegligible 5 RX11 (some .boolean) (rmo 4 93)) (hQ : Qx_i wM X z) (hcs : cx_cells X = 0 ∧ cx_slots X = 0) (N : Nat) (v1 : Int32) (v2 : Int32) (μ : Mem) : G wM X z 27 [(0, .ref (cx_ad X 0)), (1, .int v1), (2, .int v2)] [] μ (fX11_isNegligible_27 N v1 v2 μ) := by
  unfold fX11_isNegligible_27
  refine G_iconst hX (0 : Int32) rfl dX11_isNegligible_27 ?_
  refine G_istore_n hX [(3, .int (0 : Int32)), (0, .ref (cx_ad X 0)), (1, .int v1), (2, .int v2)] rfl (by decide) rfl dX11_isNegligible_28 ?_
  refine G_iconst hX (0 : Int32) rfl dX11_isNegligible_29 ?_
  refine G_istore hX [(4, .int (0 : Int32)), (3, .int (0 : Int32)), (0, .ref (cx_ad X 0)), (1, .int v1), (2, .int v2)] (by decide) rfl dX11_isNegligible_30 ?_
  exact G_sub [2, 3, 4, 1, 0] rfl (gX11_isNegligible_32 hX hQ hcs N N v1 v2 (0 : Int32) (0 : Int32) μ)
set_option maxHeartbeats 4000000 in
set_option maxRecDepth 100000 in
theorem gX11_isNegligible_4 {X : Ctx} {z : Int32 × Mem} (hX : Fx wM X cX11_isNegligible 5 RX11 (some .boolean) (rmo 4 93)) (hQ : Qx_i wM X z) (hcs : cx_cells X = 0 ∧ cx_slots X = 0) (N : Nat) : ∀ (n : Nat) (v1 : Int32) (v2 : Int32) (v3 : Int32) (μ : Mem), G wM X z 4 [(0, .ref (cx_ad X 0)), (1, .int v1), (2, .int v2), (3, .int v3)] [] μ (fX11_isNegligible_4 N n v1 v2 v3 μ) := by
  intro n
  induction n with
  | zero =>
    intro v1 v2 v3 μ
    exact G_none
  | succ n ih =>
    intro v1 v2 v3 μ
    unfold fX11_isNegligible_4
    refine G_iload_n hX 3 rfl rfl dX11_isNegligible_4 ?_
    refine G_aload_n hX 0 rfl rfl dX11_isNegligible_5 ?_
    refine gf_X11_291_M0 hX dX11_isNegligible_6 ?_
    refine G_nmi (fun x1 => ?_)
    refine G_icmp_ge hX 27 (by decide) dX11_isNegligible_9 ?_ ?_
    · exact G_sub [0, 1, 2] rfl (gX11_isNegligible_27 hX hQ hcs N v1 v2 μ)
    · refine G_iload_n hX 2 rfl rfl dX11_isNegligible_12 ?_
      refine G_aload_n hX 0 rfl rfl dX11_isNegligible_13 ?_
      refine G_iload_n hX 3 rfl rfl dX11_isNegligible_14 ?_
      refine G_iconst hX (1 : Int32) rfl dX11_isNegligible_15 ?_
      refine G_cVi hX 0 11 (fun ad adK => [.int v3, .int (1 : Int32)]) [.int v2] (fun z2 h2 => cX11_manyIn_ok (cx_l X) N v3 (1 : Int32) μ z2 h2) ok_X11_manyIn lm_X11_344 atM0.1 atM0.2 rfl rfl (fun _ _ => rfl) (Nat.le_of_ble_eq_true rfl) ⟨rfl, rfl, by decide, by decide⟩ (cs0 hcs) dX11_isNegligible_16 (fun r2 μ => ?_)
      refine G_iadd hX dX11_isNegligible_19 ?_
      refine G_nmi (fun x3 => ?_)
      refine G_istore_n hX [(2, .int x3), (0, .ref (cx_ad X 0)), (1, .int v1), (3, .int v3)] rfl (by decide) rfl dX11_isNegligible_20 ?_
      refine G_iincN hX 3 (fun x4 => [(3, .int x4), (2, .int x3), (0, .ref (cx_ad X 0)), (1, .int v1)]) rfl rfl (by decide) (fun _ => rfl) dX11_isNegligible_21 (fun x4 => ?_)
      refine G_goto hX 4 (by decide) dX11_isNegligible_24 ?_
      exact G_sub [2, 3, 1, 0] rfl (ih v1 x3 x4 μ)
set_option maxHeartbeats 4000000 in
set_option maxRecDepth 100000 in
theorem gX11_isNegligible_E {X : Ctx} {z : Int32 × Mem} (hX : Fx wM X cX11_isNegligible 5 RX11 (some .boolean) (rmo 4 93)) (hQ : Qx_i wM X z) (hcs : cx_cells X = 0 ∧ cx_slots X = 0) (N : Nat) (p0 : Int32) (μ : Mem) : G wM X z 0 [(0, .ref (cx_ad X 0)), (1, .int p0)] [] μ (fX11_isNegligible N p0 μ) := by
  unfold fX11_isNegligible
  refine G_iconst hX (0 : Int32) rfl dX11_isNegligible_0 ?_
  refine G_istore_n hX [(2, .int (0 : Int32)), (0, .ref (cx_ad X 0)), (1, .int p0)] rfl (by decide) rfl dX11_isNegligible_1 ?_
  refine G_iconst hX (0 : Int32) rfl dX11_isNegligible_2 ?_
  refine G_istore_n hX [(3, .int (0 : Int32)), (2, .int (0 : Int32)), (0, .ref (cx_ad X 0)), (1, .int p0)] rfl (by decide) rfl dX11_isNegligible_3 ?_
  exact G_sub [2, 3, 1, 0] rfl (gX11_isNegligible_4 hX hQ hcs N N p0 (0 : Int32) (0 : Int32) μ)
theorem cX11_isNegligible_ok (l : Launch) (N : Nat) (p0 : Int32) (μ : Mem) (z : Int32 × Mem) (h : fX11_isNegligible N p0 μ = some z) : Mi wM l yX11_isNegligible cX11_isNegligible 5 .boolean (rmo 4 93) (fun ad adK => [.ref (ad 0), .int p0]) μ z := Mi.of h (by decide +kernel) (fun _ _ => Nat.le_of_ble_eq_true rfl) (fun X hX hQ hl hcs => gX11_isNegligible_E hX hQ hcs N p0 μ)
/-! ===== DutyCaseModel.negligible(I)Z ===== -/
set_option maxHeartbeats 4000000 in
set_option maxRecDepth 100000 in
theorem gX11_negligible_14 {X : Ctx} {z : Int32 × Mem} (hX : Fx wM X cX11_negligible 2 RX11 (some .boolean) (rmo 5 117)) (hQ : Qx_i wM X z) (hcs : cx_cells X = 0 ∧ cx_slots X = 0) (N : Nat) (v1 : Int32) (s0 : Int32) (μ : Mem) : G wM X z 14 [(0, .ref (cx_ad X 0)), (1, .int v1)] [.int s0, .ref (cx_ad X 0)] μ (fX11_negligible_14 N v1 s0 μ) := by
  unfold fX11_negligible_14
  refine pf_X11_104_M0 hX dX11_negligible_14 (fun μ => ?_)
  refine G_aload_n hX 0 rfl rfl dX11_negligible_17 ?_
  refine gf_X11_104_M0 hX dX11_negligible_18 ?_
  refine G_nmi (fun x2 => ?_)
  refine G_if_ne hX 36 (by decide) dX11_negligible_21 ?_ ?_
  · refine G_iconst hX (0 : Int32) rfl dX11_negligible_36 ?_
    exact G_zret hX hQ rfl dX11_negligible_37
  · refine G_aload_n hX 0 rfl rfl dX11_negligible_24 ?_
    refine G_iload_n hX 1 rfl rfl dX11_negligible_25 ?_
    refine G_cVi hX 0 11 (fun ad adK => [.int v1]) [] (fun z2 h2 => cX11_isNegligible_ok (cx_l X) N v1 μ z2 h2) ok_X11_isNegligible lm_X11_485 atM0.1 atM0.2 rfl rfl (fun _ _ => rfl) (Nat.le_of_ble_eq_true rfl) ⟨rfl, rfl, by decide, by decide⟩ (cs0 hcs) dX11_negligible_26 (fun r3 μ => ?_)
    refine G_if_eq hX 36 (by decide) dX11_negligible_29 ?_ ?_
    · refine G_iconst hX (0 : Int32) rfl dX11_negligible_36 ?_
      exact G_zret hX hQ rfl dX11_negligible_37
    · refine G_iconst hX (1 : Int32) rfl dX11_negligible_32 ?_
      refine G_goto hX 37 (by decide) dX11_negligible_33 ?_
      exact G_zret hX hQ rfl dX11_negligible_37
set_option maxHeartbeats 4000000 in
set_option maxRecDepth 100000 in
theorem gX11_negligible_E {X : Ctx} {z : Int32 × Mem} (hX : Fx wM X cX11_negligible 2 RX11 (some .boolean) (rmo 5 117)) (hQ : Qx_i wM X z) (hcs : cx_cells X = 0 ∧ cx_slots X = 0) (N : Nat) (p0 : Int32) (μ : Mem) : G wM X z 0 [(0, .ref (cx_ad X 0)), (1, .int p0)] [] μ (fX11_negligible N p0 μ) := by
  unfold fX11_negligible
  refine G_aload_n hX 0 rfl rfl dX11_negligible_0 ?_
  refine G_aload_n hX 0 rfl rfl dX11_negligible_1 ?_
  refine G_iload_n hX 1 rfl rfl dX11_negligible_2 ?_
  refine G_cVi hX 0 11 (fun ad adK => [.int p0]) [.ref (cx_ad X 0)] (fun z2 h2 => cX11_isFirm_ok (cx_l X) N p0 μ z2 h2) ok_X11_isFirm lm_X11_311 atM0.1 atM0.2 rfl rfl (fun _ _ => rfl) (Nat.le_of_ble_eq_true rfl) ⟨rfl, rfl, by decide, by decide⟩ (cs0 hcs) dX11_negligible_3 (fun r1 μ => ?_)
  refine G_if_eq hX 13 (by decide) dX11_negligible_6 ?_ ?_
  · refine G_iconst hX (1 : Int32) rfl dX11_negligible_13 ?_
    exact G_sub [0, 1] rfl (gX11_negligible_14 hX hQ hcs N p0 (1 : Int32) μ)
  · refine G_iconst hX (0 : Int32) rfl dX11_negligible_9 ?_
    refine G_goto hX 14 (by decide) dX11_negligible_10 ?_
    exact G_sub [0, 1] rfl (gX11_negligible_14 hX hQ hcs N p0 (0 : Int32) μ)
theorem cX11_negligible_ok (l : Launch) (N : Nat) (p0 : Int32) (μ : Mem) (z : Int32 × Mem) (h : fX11_negligible N p0 μ = some z) : Mi wM l yX11_negligible cX11_negligible 2 .boolean (rmo 5 117) (fun ad adK => [.ref (ad 0), .int p0]) μ z := Mi.of h (by decide +kernel) (fun _ _ => Nat.le_of_ble_eq_true rfl) (fun X hX hQ hl hcs => gX11_negligible_E hX hQ hcs N p0 μ)
/-! ===== DutyCaseModel.toldMargin(I)I ===== -/
set_option maxHeartbeats 4000000 in
set_option maxRecDepth 100000 in
theorem gX11_toldMargin_E {X : Ctx} {z : Int32 × Mem} (hX : Fx wM X cX11_toldMargin 2 RX11 (some .int) (rmo 13 311)) (hQ : Qx_i wM X z) (hcs : cx_cells X = 0 ∧ cx_slots X = 0) (N : Nat) (p0 : Int32) (μ : Mem) : G wM X z 0 [(0, .ref (cx_ad X 0)), (1, .int p0)] [] μ (fX11_toldMargin N p0 μ) := by
  unfold fX11_toldMargin
  refine G_aload_n hX 0 rfl rfl dX11_toldMargin_0 ?_
  refine G_iload_n hX 1 rfl rfl dX11_toldMargin_1 ?_
  refine G_aload_n hX 0 rfl rfl dX11_toldMargin_2 ?_
  refine gf_X11_7_M0 hX dX11_toldMargin_3 ?_
  refine G_bipush hX (28 : Int32) rfl dX11_toldMargin_6 ?_
  refine G_aI hX atM1 dX11_toldMargin_8 (fun x1 => ?_)
  refine G_aload_n hX 0 rfl rfl dX11_toldMargin_9 ?_
  refine G_cVi hX 0 11 (fun ad adK => []) [.int x1, .int p0, .ref (cx_ad X 0)] (fun z2 h2 => cX11_isZeroing_ok (cx_l X) N μ z2 h2) ok_X11_isZeroing lm_X11_488 atM0.1 atM0.2 rfl rfl (fun _ _ => rfl) (Nat.le_of_ble_eq_true rfl) ⟨rfl, rfl, by decide, by decide⟩ (cs0 hcs) dX11_toldMargin_10 (fun r2 μ => ?_)
  refine G_cVi hX 0 11 (fun ad adK => [.int p0, .int x1, .int r2]) [] (fun z2 h2 => cX11_marginOf_ok (cx_l X) N p0 x1 r2 μ z2 h2) ok_X11_marginOf lm_X11_479 atM0.1 atM0.2 rfl rfl (fun _ _ => rfl) (Nat.le_of_ble_eq_true rfl) ⟨rfl, rfl, by decide, by decide⟩ (cs0 hcs) dX11_toldMargin_13 (fun r3 μ => ?_)
  exact G_iret hX hQ dX11_toldMargin_16
theorem cX11_toldMargin_ok (l : Launch) (N : Nat) (p0 : Int32) (μ : Mem) (z : Int32 × Mem) (h : fX11_toldMargin N p0 μ = some z) : Mi wM l yX11_toldMargin cX11_toldMargin 2 .int (rmo 13 311) (fun ad adK => [.ref (ad 0), .int p0]) μ z := Mi.of h (by decide +kernel) (fun _ _ => Nat.le_of_ble_eq_true rfl) (fun X hX hQ hl hcs => gX11_toldMargin_E hX hQ hcs N p0 μ)
/-! ===== DutyCaseModel.rateOf(I)I ===== -/
set_option maxHeartbeats 4000000 in
set_option maxRecDepth 100000 in
theorem gX11_rateOf_E {X : Ctx} {z : Int32 × Mem} (hX : Fx wM X cX11_rateOf 3 RX11 (some .int) (rmo 14 332)) (hQ : Qx_i wM X z) (hcs : cx_cells X = 0 ∧ cx_slots X = 0) (N : Nat) (p0 : Int32) (μ : Mem) : G wM X z 0 [(0, .ref (cx_ad X 0)), (1, .int p0)] [] μ (fX11_rateOf N p0 μ) := by
  unfold fX11_rateOf
  refine G_aload_n hX 0 rfl rfl dX11_rateOf_0 ?_
  refine G_iload_n hX 1 rfl rfl dX11_rateOf_1 ?_
  refine G_cVi hX 0 11 (fun ad adK => [.int p0]) [] (fun z2 h2 => cX11_isNegligible_ok (cx_l X) N p0 μ z2 h2) ok_X11_isNegligible lm_X11_485 atM0.1 atM0.2 rfl rfl (fun _ _ => rfl) (Nat.le_of_ble_eq_true rfl) ⟨rfl, rfl, by decide, by decide⟩ (cs0 hcs) dX11_rateOf_2 (fun r1 μ => ?_)
  refine G_if_ne hX 17 (by decide) dX11_rateOf_5 ?_ ?_
  · refine G_iconst hX (0 : Int32) rfl dX11_rateOf_17 ?_
    exact G_iret hX hQ dX11_rateOf_18
  · refine G_aload_n hX 0 rfl rfl dX11_rateOf_8 ?_
    refine G_iload_n hX 1 rfl rfl dX11_rateOf_9 ?_
    refine G_iconst hX (1 : Int32) rfl dX11_rateOf_10 ?_
    refine G_cVi hX 0 11 (fun ad adK => [.int p0, .int (1 : Int32)]) [] (fun z2 h2 => cX11_manyIn_ok (cx_l X) N p0 (1 : Int32) μ z2 h2) ok_X11_manyIn lm_X11_344 atM0.1 atM0.2 rfl rfl (fun _ _ => rfl) (Nat.le_of_ble_eq_true rfl) ⟨rfl, rfl, by decide, by decide⟩ (cs0 hcs) dX11_rateOf_11 (fun r2 μ => ?_)
    refine G_if_ne hX 19 (by decide) dX11_rateOf_14 ?_ ?_
    · refine G_aload_n hX 0 rfl rfl dX11_rateOf_19 ?_
      refine G_iload_n hX 1 rfl rfl dX11_rateOf_20 ?_
      refine G_cVi hX 0 11 (fun ad adK => [.int p0]) [] (fun z2 h2 => cX11_toldMargin_ok (cx_l X) N p0 μ z2 h2) ok_X11_toldMargin lm_X11_491 atM0.1 atM0.2 rfl rfl (fun _ _ => rfl) (Nat.le_of_ble_eq_true rfl) ⟨rfl, rfl, by decide, by decide⟩ (cs0 hcs) dX11_rateOf_21 (fun r3 μ => ?_)
      refine G_istore_n hX [(2, .int r3), (0, .ref (cx_ad X 0)), (1, .int p0)] rfl (by decide) rfl dX11_rateOf_24 ?_
      refine G_iload_n hX 0 rfl rfl dX11_rateOf_25 ?_
      refine G_sipush hX (200 : Int32) rfl dX11_rateOf_26 ?_
      refine G_icmp_ge hX 36 (by decide) dX11_rateOf_29 ?_ ?_
      · refine G_iload_n hX 0 rfl rfl dX11_rateOf_36 ?_
        exact G_iret hX hQ dX11_rateOf_37
      · refine G_iconst hX (0 : Int32) rfl dX11_rateOf_32 ?_
        refine G_goto hX 37 (by decide) dX11_rateOf_33 ?_
        exact G_iret hX hQ dX11_rateOf_37
    · refine G_iconst hX (0 : Int32) rfl dX11_rateOf_17 ?_
      exact G_iret hX hQ dX11_rateOf_18
theorem cX11_rateOf_ok (l : Launch) (N : Nat) (p0 : Int32) (μ : Mem) (z : Int32 × Mem) (h : fX11_rateOf N p0 μ = some z) : Mi wM l yX11_rateOf cX11_rateOf 3 .int (rmo 14 332) (fun ad adK => [.ref (ad 0), .int p0]) μ z := Mi.of h (by decide +kernel) (fun _ _ => Nat.le_of_ble_eq_true rfl) (fun X hX hQ hl hcs => gX11_rateOf_E hX hQ hcs N p0 μ)
/-! ===== DutyCaseModel.isTargeted(II)Z ===== -/
set_option maxHeartbeats 4000000 in
set_option maxRecDepth 100000 in
theorem gX11_isTargeted_E {X : Ctx} {z : Int32 × Mem} (hX : Fx wM X cX11_isTargeted 3 RX11 (some .boolean) (rmo 3 67)) (hQ : Qx_i wM X z) (hcs : cx_cells X = 0 ∧ cx_slots X = 0) (N : Nat) (p0 : Int32) (p1 : Int32) (μ : Mem) : G wM X z 0 [(0, .ref (cx_ad X 0)), (1, .int p0), (2, .int p1)] [] μ (fX11_isTargeted N p0 p1 μ) := by
  unfold fX11_isTargeted
  refine G_aload_n hX 0 rfl rfl dX11_isTargeted_0 ?_
  refine G_iload_n hX 1 rfl rfl dX11_isTargeted_1 ?_
  refine G_cVi hX 0 11 (fun ad adK => [.int p0]) [] (fun z2 h2 => cX11_isExport_ok (cx_l X) N p0 μ z2 h2) ok_X11_isExport lm_X11_425 atM0.1 atM0.2 rfl rfl (fun _ _ => rfl) (Nat.le_of_ble_eq_true rfl) ⟨rfl, rfl, by decide, by decide⟩ (cs0 hcs) dX11_isTargeted_2 (fun r1 μ => ?_)
  refine G_if_eq hX 40 (by decide) dX11_isTargeted_5 ?_ ?_
  · refine G_iconst hX (0 : Int32) rfl dX11_isTargeted_40 ?_
    exact G_zret hX hQ rfl dX11_isTargeted_41
  · refine G_aload_n hX 0 rfl rfl dX11_isTargeted_8 ?_
    refine G_iload_n hX 1 rfl rfl dX11_isTargeted_9 ?_
    refine G_iconst hX (1 : Int32) rfl dX11_isTargeted_10 ?_
    refine G_cVi hX 0 11 (fun ad adK => [.int p0, .int (1 : Int32)]) [] (fun z2 h2 => cX11_of_ok (cx_l X) N p0 (1 : Int32) μ z2 h2) ok_X11_of lm_X11_305 atM0.1 atM0.2 rfl rfl (fun _ _ => rfl) (Nat.le_of_ble_eq_true rfl) ⟨rfl, rfl, by decide, by decide⟩ (cs0 hcs) dX11_isTargeted_11 (fun r2 μ => ?_)
    refine G_iload_n hX 2 rfl rfl dX11_isTargeted_14 ?_
    refine G_icmp_ne hX 40 (by decide) dX11_isTargeted_15 ?_ ?_
    · refine G_iconst hX (0 : Int32) rfl dX11_isTargeted_40 ?_
      exact G_zret hX hQ rfl dX11_isTargeted_41
    · refine G_aload_n hX 0 rfl rfl dX11_isTargeted_18 ?_
      refine gf_X11_25_M0 hX dX11_isTargeted_19 ?_
      refine G_iconst hX (3 : Int32) rfl dX11_isTargeted_22 ?_
      refine G_aload_n hX 0 rfl rfl dX11_isTargeted_23 ?_
      refine G_iload_n hX 1 rfl rfl dX11_isTargeted_24 ?_
      refine G_iconst hX (2 : Int32) rfl dX11_isTargeted_25 ?_
      refine G_cVi hX 0 11 (fun ad adK => [.int p0, .int (2 : Int32)]) [.int (3 : Int32), .ref (cx_ad X 6)] (fun z2 h2 => cX11_of_ok (cx_l X) N p0 (2 : Int32) μ z2 h2) ok_X11_of lm_X11_305 atM0.1 atM0.2 rfl rfl (fun _ _ => rfl) (Nat.le_of_ble_eq_true rfl) ⟨rfl, rfl, by decide, by decide⟩ (cs0 hcs) dX11_isTargeted_26 (fun r3 μ => ?_)
      refine G_imul hX dX11_isTargeted_29 ?_
      refine G_iconst hX (2 : Int32) rfl dX11_isTargeted_30 ?_
      refine G_iadd hX dX11_isTargeted_31 ?_
      refine G_aI hX atM6 dX11_isTargeted_32 (fun x4 => ?_)
      refine G_if_le hX 40 (by decide) dX11_isTargeted_33 ?_ ?_
      · refine G_iconst hX (0 : Int32) rfl dX11_isTargeted_40 ?_
        exact G_zret hX hQ rfl dX11_isTargeted_41
      · refine G_iconst hX (1 : Int32) rfl dX11_isTargeted_36 ?_
        refine G_goto hX 41 (by decide) dX11_isTargeted_37 ?_
        exact G_zret hX hQ rfl dX11_isTargeted_41
theorem cX11_isTargeted_ok (l : Launch) (N : Nat) (p0 : Int32) (p1 : Int32) (μ : Mem) (z : Int32 × Mem) (h : fX11_isTargeted N p0 p1 μ = some z) : Mi wM l yX11_isTargeted cX11_isTargeted 3 .boolean (rmo 3 67) (fun ad adK => [.ref (ad 0), .int p0, .int p1]) μ z := Mi.of h (by decide +kernel) (fun _ _ => Nat.le_of_ble_eq_true rfl) (fun X hX hQ hl hcs => gX11_isTargeted_E hX hQ hcs N p0 p1 μ)
/-! ===== DutyCaseModel.injuryOf(I)I ===== -/
set_option maxHeartbeats 4000000 in
set_option maxRecDepth 100000 in
theorem gX11_injuryOf_110 {X : Ctx} {z : Int32 × Mem} (hX : Fx wM X cX11_injuryOf 7 RX11 (some .int) (rmo 6 138)) (hQ : Qx_i wM X z) (hcs : cx_cells X = 0 ∧ cx_slots X = 0) (N : Nat) (v2 : Int64) (v4 : Int64) (μ : Mem) : G wM X z 110 [(2, .long v2), (4, .long v4)] [] μ (fX11_injuryOf_110 N v2 v4 μ) := by
  unfold fX11_injuryOf_110
  refine G_lload_n hX 0 rfl rfl dX11_injuryOf_110 ?_
  refine G_lload hX 1 rfl dX11_injuryOf_111 ?_
  refine G_cSi hX (fun ad adK => [.long v2, .long v4]) [] (fun z2 h2 => cX11_shareOf_ok (cx_l X) N v2 v4 μ z2 h2) ok_X11_shareOf lm_X11_469 rfl (fun _ _ => rfl) (Nat.le_of_ble_eq_true rfl) ⟨rfl, rfl, by decide, by decide⟩ (cs0 hcs) dX11_injuryOf_113 (fun r13 μ => ?_)
  exact G_iret hX hQ dX11_injuryOf_116
set_option maxHeartbeats 4000000 in
set_option maxRecDepth 100000 in
theorem gX11_injuryOf_12 {X : Ctx} {z : Int32 × Mem} (hX : Fx wM X cX11_injuryOf 7 RX11 (some .int) (rmo 6 138)) (hQ : Qx_i wM X z) (hcs : cx_cells X = 0 ∧ cx_slots X = 0) (N : Nat) : ∀ (n : Nat) (v1 : Int32) (v2 : Int64) (v4 : Int64) (v6 : Int32) (μ : Mem), G wM X z 12 [(0, .ref (cx_ad X 0)), (1, .int v1), (2, .long v2), (4, .long v4), (6, .int v6)] [] μ (fX11_injuryOf_12 N n v1 v2 v4 v6 μ) := by
  intro n
  induction n with
  | zero =>
    intro v1 v2 v4 v6 μ
    exact G_none
  | succ n ih =>
    intro v1 v2 v4 v6 μ
    unfold fX11_injuryOf_12
    refine G_iload hX 4 rfl dX11_injuryOf_12 ?_
    refine G_aload_n hX 0 rfl rfl dX11_injuryOf_14 ?_
    refine gf_X11_7_M0 hX dX11_injuryOf_15 ?_
    refine G_bipush hX (34 : Int32) rfl dX11_injuryOf_18 ?_
    refine G_aI hX atM1 dX11_injuryOf_20 (fun x1 => ?_)
    refine G_icmp_ge hX 110 (by decide) dX11_injuryOf_21 ?_ ?_
    · exact G_sub [2, 3] rfl (gX11_injuryOf_110 hX hQ hcs N v2 v4 μ)
    · refine G_aload_n hX 0 rfl rfl dX11_injuryOf_24 ?_
      refine G_iload hX 4 rfl dX11_injuryOf_25 ?_
      refine G_iload_n hX 1 rfl rfl dX11_injuryOf_27 ?_
      refine G_cVi hX 0 11 (fun ad adK => [.int v6, .int v1]) [] (fun z2 h2 => cX11_isTargeted_ok (cx_l X) N v6 v1 μ z2 h2) ok_X11_isTargeted lm_X11_494 atM0.1 atM0.2 rfl rfl (fun _ _ => rfl) (Nat.le_of_ble_eq_true rfl) ⟨rfl, rfl, by decide, by decide⟩ (cs0 hcs) dX11_injuryOf_28 (fun r2 μ => ?_)
      refine G_if_ne hX 37 (by decide) dX11_injuryOf_31 ?_ ?_
      · refine G_lload_n hX 2 rfl rfl dX11_injuryOf_37 ?_
        refine G_ldc2 hX lc_X11_409 dX11_injuryOf_38 ?_
        refine G_aload_n hX 0 rfl rfl dX11_injuryOf_41 ?_
        refine gf_X11_25_M0 hX dX11_injuryOf_42 ?_
        refine G_iconst hX (3 : Int32) rfl dX11_injuryOf_45 ?_
        refine G_aload_n hX 0 rfl rfl dX11_injuryOf_46 ?_
        refine G_iload hX 4 rfl dX11_injuryOf_47 ?_
        refine G_iconst hX (2 : Int32) rfl dX11_injuryOf_49 ?_
        refine G_cVi hX 0 11 (fun ad adK => [.int v6, .int (2 : Int32)]) [.int (3 : Int32), .ref (cx_ad X 6), .long (1000 : Int64), .long v2] (fun z2 h2 => cX11_of_ok (cx_l X) N v6 (2 : Int32) μ z2 h2) ok_X11_of lm_X11_305 atM0.1 atM0.2 rfl rfl (fun _ _ => rfl) (Nat.le_of_ble_eq_true rfl) ⟨rfl, rfl, by decide, by decide⟩ (cs0 hcs) dX11_injuryOf_50 (fun r3 μ => ?_)
        refine G_imul hX dX11_injuryOf_53 ?_
        refine G_iconst hX (2 : Int32) rfl dX11_injuryOf_54 ?_
        refine G_iadd hX dX11_injuryOf_55 ?_
        refine G_aI hX atM6 dX11_injuryOf_56 (fun x4 => ?_)
        refine G_aload_n hX 0 rfl rfl dX11_injuryOf_57 ?_
        refine gf_X11_69_M0 hX dX11_injuryOf_58 ?_
        refine G_iload hX 4 rfl dX11_injuryOf_61 ?_
        refine G_aI hX atM19 dX11_injuryOf_63 (fun x5 => ?_)
        refine G_isub hX dX11_injuryOf_64 ?_
        refine G_i2l hX dX11_injuryOf_65 ?_
        refine G_lmul hX dX11_injuryOf_66 ?_
        refine G_aload_n hX 0 rfl rfl dX11_injuryOf_67 ?_
        refine G_iload hX 4 rfl dX11_injuryOf_68 ?_
        refine G_iconst hX (5 : Int32) rfl dX11_injuryOf_70 ?_
        refine G_cVi hX 0 11 (fun ad adK => [.int v6, .int (5 : Int32)]) [.long ((1000 : Int64) * ((x4 - x5).toInt64)), .long v2] (fun z2 h2 => cX11_of_ok (cx_l X) N v6 (5 : Int32) μ z2 h2) ok_X11_of lm_X11_305 atM0.1 atM0.2 rfl rfl (fun _ _ => rfl) (Nat.le_of_ble_eq_true rfl) ⟨rfl, rfl, by decide, by decide⟩ (cs0 hcs) dX11_injuryOf_71 (fun r6 μ => ?_)
        refine G_i2l hX dX11_injuryOf_74 ?_
        refine G_lmul hX dX11_injuryOf_75 ?_
        refine G_ladd hX dX11_injuryOf_76 ?_
        refine G_nml (fun x7 => ?_)
        refine G_lstore_n hX [(2, .long x7), (0, .ref (cx_ad X 0)), (1, .int v1), (4, .long v4), (6, .int v6)] rfl (by decide) rfl dX11_injuryOf_77 ?_
        refine G_lload hX 3 rfl dX11_injuryOf_78 ?_
        refine G_ldc2 hX lc_X11_409 dX11_injuryOf_80 ?_
        refine G_aload_n hX 1 rfl rfl dX11_injuryOf_83 ?_
        refine gf_X11_69_M0 hX dX11_injuryOf_84 ?_
        refine G_iload hX 4 rfl dX11_injuryOf_87 ?_
        refine G_aI hX atM19 dX11_injuryOf_89 (fun x8 => ?_)
        refine G_i2l hX dX11_injuryOf_90 ?_
        refine G_lmul hX dX11_injuryOf_91 ?_
        refine G_aload_n hX 1 rfl rfl dX11_injuryOf_92 ?_
        refine G_iload hX 4 rfl dX11_injuryOf_93 ?_
        refine G_iconst hX (5 : Int32) rfl dX11_injuryOf_95 ?_
        refine G_cVi hX 0 11 (fun ad adK => [.int v6, .int (5 : Int32)]) [.long ((1000 : Int64) * x8.toInt64), .long v4] (fun z2 h2 => cX11_of_ok (cx_l X) N v6 (5 : Int32) μ z2 h2) ok_X11_of lm_X11_305 atM0.1 atM0.2 rfl rfl (fun _ _ => rfl) (Nat.le_of_ble_eq_true rfl) ⟨rfl, rfl, by decide, by decide⟩ (cs0 hcs) dX11_injuryOf_96 (fun r9 μ => ?_)
        refine G_i2l hX dX11_injuryOf_99 ?_
        refine G_lmul hX dX11_injuryOf_100 ?_
        refine G_ladd hX dX11_injuryOf_101 ?_
        refine G_nml (fun x10 => ?_)
        refine G_lstore hX [(4, .long x10), (2, .long x7), (0, .ref (cx_ad X 0)), (1, .int v1), (6, .int v6)] (by decide) rfl dX11_injuryOf_102 ?_
        refine G_iincN hX 4 (fun x11 => [(6, .int x11), (4, .long x10), (2, .long x7), (0, .ref (cx_ad X 0)), (1, .int v1)]) rfl rfl (by decide) (fun _ => rfl) dX11_injuryOf_104 (fun x11 => ?_)
        refine G_goto hX 12 (by decide) dX11_injuryOf_107 ?_
        exact G_sub [3, 4, 2, 1, 0] rfl (ih v1 x7 x10 x11 μ)
      · refine G_goto hX 104 (by decide) dX11_injuryOf_34 ?_
        refine G_iincN hX 4 (fun x12 => [(6, .int x12), (0, .ref (cx_ad X 0)), (1, .int v1), (2, .long v2), (4, .long v4)]) rfl rfl (by decide) (fun _ => rfl) dX11_injuryOf_104 (fun x12 => ?_)
        refine G_goto hX 12 (by decide) dX11_injuryOf_107 ?_
        exact G_sub [1, 2, 3, 4, 0] rfl (ih v1 v2 v4 x12 μ)
set_option maxHeartbeats 4000000 in
set_option maxRecDepth 100000 in
theorem gX11_injuryOf_E {X : Ctx} {z : Int32 × Mem} (hX : Fx wM X cX11_injuryOf 7 RX11 (some .int) (rmo 6 138)) (hQ : Qx_i wM X z) (hcs : cx_cells X = 0 ∧ cx_slots X = 0) (N : Nat) (p0 : Int32) (μ : Mem) : G wM X z 0 [(0, .ref (cx_ad X 0)), (1, .int p0)] [] μ (fX11_injuryOf N p0 μ) := by
  unfold fX11_injuryOf
  refine G_aload_n hX 0 rfl rfl dX11_injuryOf_0 ?_
  refine G_cVv hX 0 11 (fun ad adK => []) [] (fun z2 h2 => cX11_lays_ok (cx_l X) N μ z2 h2) ok_X11_lays lm_X11_367 atM0.1 atM0.2 rfl rfl (fun _ _ => rfl) (Nat.le_of_ble_eq_true rfl) ⟨rfl, rfl, by decide, by decide⟩ (cs0 hcs) dX11_injuryOf_1 (fun μ => ?_)
  refine G_lconst hX (0 : Int64) rfl dX11_injuryOf_4 ?_
  refine G_lstore_n hX [(2, .long (0 : Int64)), (0, .ref (cx_ad X 0)), (1, .int p0)] rfl (by decide) rfl dX11_injuryOf_5 ?_
  refine G_lconst hX (0 : Int64) rfl dX11_injuryOf_6 ?_
  refine G_lstore hX [(4, .long (0 : Int64)), (2, .long (0 : Int64)), (0, .ref (cx_ad X 0)), (1, .int p0)] (by decide) rfl dX11_injuryOf_7 ?_
  refine G_iconst hX (0 : Int32) rfl dX11_injuryOf_9 ?_
  refine G_istore hX [(6, .int (0 : Int32)), (4, .long (0 : Int64)), (2, .long (0 : Int64)), (0, .ref (cx_ad X 0)), (1, .int p0)] (by decide) rfl dX11_injuryOf_10 ?_
  exact G_sub [3, 4, 2, 1, 0] rfl (gX11_injuryOf_12 hX hQ hcs N N p0 (0 : Int64) (0 : Int64) (0 : Int32) μ)
theorem cX11_injuryOf_ok (l : Launch) (N : Nat) (p0 : Int32) (μ : Mem) (z : Int32 × Mem) (h : fX11_injuryOf N p0 μ = some z) : Mi wM l yX11_injuryOf cX11_injuryOf 7 .int (rmo 6 138) (fun ad adK => [.ref (ad 0), .int p0]) μ z := Mi.of h (by decide +kernel) (fun _ _ => Nat.le_of_ble_eq_true rfl) (fun X hX hQ hl hcs => gX11_injuryOf_E hX hQ hcs N p0 μ)
/-! ===== DutyCaseModel.hasTarget(I)Z ===== -/
set_option maxHeartbeats 4000000 in
set_option maxRecDepth 100000 in
theorem gX11_hasTarget_2 {X : Ctx} {z : Int32 × Mem} (hX : Fx wM X cX11_hasTarget 3 RX11 (some .boolean) (rmo 4 89)) (hQ : Qx_i wM X z) (hcs : cx_cells X = 0 ∧ cx_slots X = 0) (N : Nat) : ∀ (n : Nat) (v1 : Int32) (v2 : Int32) (μ : Mem), G wM X z 2 [(0, .ref (cx_ad X 0)), (1, .int v1), (2, .int v2)] [] μ (fX11_hasTarget_2 N n v1 v2 μ) := by
  intro n
  induction n with
  | zero =>
    intro v1 v2 μ
    exact G_none
  | succ n ih =>
    intro v1 v2 μ
    unfold fX11_hasTarget_2
    refine G_iload_n hX 2 rfl rfl dX11_hasTarget_2 ?_
    refine G_aload_n hX 0 rfl rfl dX11_hasTarget_3 ?_
    refine gf_X11_7_M0 hX dX11_hasTarget_4 ?_
    refine G_bipush hX (34 : Int32) rfl dX11_hasTarget_7 ?_
    refine G_aI hX atM1 dX11_hasTarget_9 (fun x1 => ?_)
    refine G_icmp_ge hX 30 (by decide) dX11_hasTarget_10 ?_ ?_
    · refine G_iconst hX (0 : Int32) rfl dX11_hasTarget_30 ?_
      exact G_zret hX hQ rfl dX11_hasTarget_31
    · refine G_aload_n hX 0 rfl rfl dX11_hasTarget_13 ?_
      refine G_iload_n hX 2 rfl rfl dX11_hasTarget_14 ?_
      refine G_iload_n hX 1 rfl rfl dX11_hasTarget_15 ?_
      refine G_cVi hX 0 11 (fun ad adK => [.int v2, .int v1]) [] (fun z2 h2 => cX11_isTargeted_ok (cx_l X) N v2 v1 μ z2 h2) ok_X11_isTargeted lm_X11_494 atM0.1 atM0.2 rfl rfl (fun _ _ => rfl) (Nat.le_of_ble_eq_true rfl) ⟨rfl, rfl, by decide, by decide⟩ (cs0 hcs) dX11_hasTarget_16 (fun r2 μ => ?_)
      refine G_if_eq hX 24 (by decide) dX11_hasTarget_19 ?_ ?_
      · refine G_iincN hX 2 (fun x3 => [(2, .int x3), (0, .ref (cx_ad X 0)), (1, .int v1)]) rfl rfl (by decide) (fun _ => rfl) dX11_hasTarget_24 (fun x3 => ?_)
        refine G_goto hX 2 (by decide) dX11_hasTarget_27 ?_
        exact G_sub [1, 2, 0] rfl (ih v1 x3 μ)
      · refine G_iconst hX (1 : Int32) rfl dX11_hasTarget_22 ?_
        exact G_zret hX hQ rfl dX11_hasTarget_23
set_option maxHeartbeats 4000000 in
set_option maxRecDepth 100000 in
theorem gX11_hasTarget_E {X : Ctx} {z : Int32 × Mem} (hX : Fx wM X cX11_hasTarget 3 RX11 (some .boolean) (rmo 4 89)) (hQ : Qx_i wM X z) (hcs : cx_cells X = 0 ∧ cx_slots X = 0) (N : Nat) (p0 : Int32) (μ : Mem) : G wM X z 0 [(0, .ref (cx_ad X 0)), (1, .int p0)] [] μ (fX11_hasTarget N p0 μ) := by
  unfold fX11_hasTarget
  refine G_iconst hX (0 : Int32) rfl dX11_hasTarget_0 ?_
  refine G_istore_n hX [(2, .int (0 : Int32)), (0, .ref (cx_ad X 0)), (1, .int p0)] rfl (by decide) rfl dX11_hasTarget_1 ?_
  exact G_sub [1, 2, 0] rfl (gX11_hasTarget_2 hX hQ hcs N N p0 (0 : Int32) μ)
theorem cX11_hasTarget_ok (l : Launch) (N : Nat) (p0 : Int32) (μ : Mem) (z : Int32 × Mem) (h : fX11_hasTarget N p0 μ = some z) : Mi wM l yX11_hasTarget cX11_hasTarget 3 .boolean (rmo 4 89) (fun ad adK => [.ref (ad 0), .int p0]) μ z := Mi.of h (by decide +kernel) (fun _ _ => Nat.le_of_ble_eq_true rfl) (fun X hX hQ hl hcs => gX11_hasTarget_E hX hQ hcs N p0 μ)
/-! ===== DutyCaseModel.dutyOf(I)I ===== -/
set_option maxHeartbeats 4000000 in
set_option maxRecDepth 100000 in
theorem gX11_dutyOf_E {X : Ctx} {z : Int32 × Mem} (hX : Fx wM X cX11_dutyOf 4 RX11 (some .int) (rmo 15 354)) (hQ : Qx_i wM X z) (hcs : cx_cells X = 0 ∧ cx_slots X = 0) (N : Nat) (p0 : Int32) (μ : Mem) : G wM X z 0 [(0, .ref (cx_ad X 0)), (1, .int p0)] [] μ (fX11_dutyOf N p0 μ) := by
  unfold fX11_dutyOf
  refine G_aload_n hX 0 rfl rfl dX11_dutyOf_0 ?_
  refine G_iload_n hX 1 rfl rfl dX11_dutyOf_1 ?_
  refine G_cVi hX 0 11 (fun ad adK => [.int p0]) [] (fun z2 h2 => cX11_rateOf_ok (cx_l X) N p0 μ z2 h2) ok_X11_rateOf lm_X11_497 atM0.1 atM0.2 rfl rfl (fun _ _ => rfl) (Nat.le_of_ble_eq_true rfl) ⟨rfl, rfl, by decide, by decide⟩ (cs0 hcs) dX11_dutyOf_2 (fun r1 μ => ?_)
  refine G_istore_n hX [(2, .int r1), (0, .ref (cx_ad X 0)), (1, .int p0)] rfl (by decide) rfl dX11_dutyOf_5 ?_
  refine G_aload_n hX 1 rfl rfl dX11_dutyOf_6 ?_
  refine gf_X11_7_M0 hX dX11_dutyOf_7 ?_
  refine G_bipush hX (30 : Int32) rfl dX11_dutyOf_10 ?_
  refine G_aI hX atM1 dX11_dutyOf_12 (fun x2 => ?_)
  refine G_if_eq hX 24 (by decide) dX11_dutyOf_13 ?_ ?_
  · refine G_iload_n hX 0 rfl rfl dX11_dutyOf_24 ?_
    exact G_iret hX hQ dX11_dutyOf_25
  · refine G_aload_n hX 1 rfl rfl dX11_dutyOf_16 ?_
    refine G_iload_n hX 2 rfl rfl dX11_dutyOf_17 ?_
    refine G_cVi hX 0 11 (fun ad adK => [.int p0]) [] (fun z2 h2 => cX11_hasTarget_ok (cx_l X) N p0 μ z2 h2) ok_X11_hasTarget lm_X11_500 atM0.1 atM0.2 rfl rfl (fun _ _ => rfl) (Nat.le_of_ble_eq_true rfl) ⟨rfl, rfl, by decide, by decide⟩ (cs0 hcs) dX11_dutyOf_18 (fun r3 μ => ?_)
    refine G_if_ne hX 26 (by decide) dX11_dutyOf_21 ?_ ?_
    · refine G_aload_n hX 1 rfl rfl dX11_dutyOf_26 ?_
      refine G_iload_n hX 2 rfl rfl dX11_dutyOf_27 ?_
      refine G_cVi hX 0 11 (fun ad adK => [.int p0]) [] (fun z2 h2 => cX11_injuryOf_ok (cx_l X) N p0 μ z2 h2) ok_X11_injuryOf lm_X11_503 atM0.1 atM0.2 rfl rfl (fun _ _ => rfl) (Nat.le_of_ble_eq_true rfl) ⟨rfl, rfl, by decide, by decide⟩ (cs0 hcs) dX11_dutyOf_28 (fun r4 μ => ?_)
      refine G_istore_n hX [(3, .int r4), (2, .int r1), (0, .ref (cx_ad X 0)), (1, .int p0)] rfl (by decide) rfl dX11_dutyOf_31 ?_
      refine G_iload_n hX 0 rfl rfl dX11_dutyOf_32 ?_
      refine G_iload_n hX 1 rfl rfl dX11_dutyOf_33 ?_
      refine G_icmp_ge hX 41 (by decide) dX11_dutyOf_34 ?_ ?_
      · refine G_iload_n hX 1 rfl rfl dX11_dutyOf_41 ?_
        exact G_iret hX hQ dX11_dutyOf_42
      · refine G_iload_n hX 0 rfl rfl dX11_dutyOf_37 ?_
        refine G_goto hX 42 (by decide) dX11_dutyOf_38 ?_
        exact G_iret hX hQ dX11_dutyOf_42
    · refine G_iload_n hX 0 rfl rfl dX11_dutyOf_24 ?_
      exact G_iret hX hQ dX11_dutyOf_25
theorem cX11_dutyOf_ok (l : Launch) (N : Nat) (p0 : Int32) (μ : Mem) (z : Int32 × Mem) (h : fX11_dutyOf N p0 μ = some z) : Mi wM l yX11_dutyOf cX11_dutyOf 4 .int (rmo 15 354) (fun ad adK => [.ref (ad 0), .int p0]) μ z := Mi.of h (by decide +kernel) (fun _ _ => Nat.le_of_ble_eq_true rfl) (fun X hX hQ hl hcs => gX11_dutyOf_E hX hQ hcs N p0 μ)
/-! ===== DutyCaseModel.duty(II)I ===== -/
set_option maxHeartbeats 4000000 in
set_option maxRecDepth 100000 in
theorem gX11_duty_30 {X : Ctx} {z : Int32 × Mem} (hX : Fx wM X cX11_duty 3 RX11 (some .int) (rmo 16 377)) (hQ : Qx_i wM X z) (hcs : cx_cells X = 0 ∧ cx_slots X = 0) (N : Nat) (v1 : Int32) (v2 : Int32) (s0 : Int32) (μ : Mem) : G wM X z 30 [(0, .ref (cx_ad X 0)), (1, .int v1), (2, .int v2)] [.int s0, .ref (cx_ad X 0)] μ (fX11_duty_30 N v1 v2 s0 μ) := by
  unfold fX11_duty_30
  refine pf_X11_104_M0 hX dX11_duty_30 (fun μ => ?_)
  refine G_aload_n hX 0 rfl rfl dX11_duty_33 ?_
  refine gf_X11_104_M0 hX dX11_duty_34 ?_
  refine G_nmi (fun x3 => ?_)
  refine G_if_le hX 42 (by decide) dX11_duty_37 ?_ ?_
  · refine G_iload_n hX 2 rfl rfl dX11_duty_42 ?_
    refine G_if_ne hX 54 (by decide) dX11_duty_43 ?_ ?_
    · refine G_iload_n hX 2 rfl rfl dX11_duty_54 ?_
      refine G_iconst hX (1 : Int32) rfl dX11_duty_55 ?_
      refine G_icmp_ne hX 67 (by decide) dX11_duty_56 ?_ ?_
      · refine G_iload_n hX 2 rfl rfl dX11_duty_67 ?_
        refine G_iconst hX (2 : Int32) rfl dX11_duty_68 ?_
        refine G_icmp_ne hX 80 (by decide) dX11_duty_69 ?_ ?_
        · refine G_aload_n hX 0 rfl rfl dX11_duty_80 ?_
          refine G_iload_n hX 1 rfl rfl dX11_duty_81 ?_
          refine G_cVi hX 0 11 (fun ad adK => [.int v1]) [] (fun z2 h2 => cX11_dutyOf_ok (cx_l X) N v1 μ z2 h2) ok_X11_dutyOf lm_X11_506 atM0.1 atM0.2 rfl rfl (fun _ _ => rfl) (Nat.le_of_ble_eq_true rfl) ⟨rfl, rfl, by decide, by decide⟩ (cs0 hcs) dX11_duty_82 (fun r4 μ => ?_)
          exact G_iret hX hQ dX11_duty_85
        · refine G_aload_n hX 0 rfl rfl dX11_duty_72 ?_
          refine G_iload_n hX 1 rfl rfl dX11_duty_73 ?_
          refine G_cVi hX 0 11 (fun ad adK => [.int v1]) [] (fun z2 h2 => cX11_injuryOf_ok (cx_l X) N v1 μ z2 h2) ok_X11_injuryOf lm_X11_503 atM0.1 atM0.2 rfl rfl (fun _ _ => rfl) (Nat.le_of_ble_eq_true rfl) ⟨rfl, rfl, by decide, by decide⟩ (cs0 hcs) dX11_duty_74 (fun r5 μ => ?_)
          refine G_goto hX 85 (by decide) dX11_duty_77 ?_
          exact G_iret hX hQ dX11_duty_85
      · refine G_aload_n hX 0 rfl rfl dX11_duty_59 ?_
        refine G_iload_n hX 1 rfl rfl dX11_duty_60 ?_
        refine G_cVi hX 0 11 (fun ad adK => [.int v1]) [] (fun z2 h2 => cX11_rateOf_ok (cx_l X) N v1 μ z2 h2) ok_X11_rateOf lm_X11_497 atM0.1 atM0.2 rfl rfl (fun _ _ => rfl) (Nat.le_of_ble_eq_true rfl) ⟨rfl, rfl, by decide, by decide⟩ (cs0 hcs) dX11_duty_61 (fun r6 μ => ?_)
        refine G_goto hX 85 (by decide) dX11_duty_64 ?_
        exact G_iret hX hQ dX11_duty_85
    · refine G_aload_n hX 0 rfl rfl dX11_duty_46 ?_
      refine G_iload_n hX 1 rfl rfl dX11_duty_47 ?_
      refine G_cVi hX 0 11 (fun ad adK => [.int v1]) [] (fun z2 h2 => cX11_toldMargin_ok (cx_l X) N v1 μ z2 h2) ok_X11_toldMargin lm_X11_491 atM0.1 atM0.2 rfl rfl (fun _ _ => rfl) (Nat.le_of_ble_eq_true rfl) ⟨rfl, rfl, by decide, by decide⟩ (cs0 hcs) dX11_duty_48 (fun r7 μ => ?_)
      refine G_goto hX 85 (by decide) dX11_duty_51 ?_
      exact G_iret hX hQ dX11_duty_85
  · refine G_iconst hX (0 : Int32) rfl dX11_duty_40 ?_
    exact G_iret hX hQ dX11_duty_41
set_option maxHeartbeats 4000000 in
set_option maxRecDepth 100000 in
theorem gX11_duty_E {X : Ctx} {z : Int32 × Mem} (hX : Fx wM X cX11_duty 3 RX11 (some .int) (rmo 16 377)) (hQ : Qx_i wM X z) (hcs : cx_cells X = 0 ∧ cx_slots X = 0) (N : Nat) (p0 : Int32) (p1 : Int32) (μ : Mem) : G wM X z 0 [(0, .ref (cx_ad X 0)), (1, .int p0), (2, .int p1)] [] μ (fX11_duty N p0 p1 μ) := by
  unfold fX11_duty
  refine G_aload_n hX 0 rfl rfl dX11_duty_0 ?_
  refine G_aload_n hX 0 rfl rfl dX11_duty_1 ?_
  refine G_iload_n hX 1 rfl rfl dX11_duty_2 ?_
  refine G_cVi hX 0 11 (fun ad adK => [.int p0]) [.ref (cx_ad X 0)] (fun z2 h2 => cX11_isFirm_ok (cx_l X) N p0 μ z2 h2) ok_X11_isFirm lm_X11_311 atM0.1 atM0.2 rfl rfl (fun _ _ => rfl) (Nat.le_of_ble_eq_true rfl) ⟨rfl, rfl, by decide, by decide⟩ (cs0 hcs) dX11_duty_3 (fun r1 μ => ?_)
  refine G_if_ne hX 13 (by decide) dX11_duty_6 ?_ ?_
  · refine G_iload_n hX 2 rfl rfl dX11_duty_13 ?_
    refine G_i2l hX dX11_duty_14 ?_
    refine G_lconst hX (0 : Int64) rfl dX11_duty_15 ?_
    refine G_ldc2 hX lc_X11_370 dX11_duty_16 ?_
    refine G_cSi hX (fun ad adK => [.long p1.toInt64, .long (0 : Int64), .long (3 : Int64)]) [.ref (cx_ad X 0)] (fun z2 h2 => cX11_isIn_ok (cx_l X) N p1.toInt64 (0 : Int64) (3 : Int64) μ z2 h2) ok_X11_isIn lm_X11_301 rfl (fun _ _ => rfl) (Nat.le_of_ble_eq_true rfl) ⟨rfl, rfl, by decide, by decide⟩ (cs0 hcs) dX11_duty_19 (fun r2 μ => ?_)
    refine G_if_eq hX 29 (by decide) dX11_duty_22 ?_ ?_
    · refine G_iconst hX (2 : Int32) rfl dX11_duty_29 ?_
      exact G_sub [0, 1, 2] rfl (gX11_duty_30 hX hQ hcs N p0 p1 (2 : Int32) μ)
    · refine G_iconst hX (0 : Int32) rfl dX11_duty_25 ?_
      refine G_goto hX 30 (by decide) dX11_duty_26 ?_
      exact G_sub [0, 1, 2] rfl (gX11_duty_30 hX hQ hcs N p0 p1 (0 : Int32) μ)
  · refine G_iconst hX (1 : Int32) rfl dX11_duty_9 ?_
    refine G_goto hX 30 (by decide) dX11_duty_10 ?_
    exact G_sub [0, 1, 2] rfl (gX11_duty_30 hX hQ hcs N p0 p1 (1 : Int32) μ)
theorem cX11_duty_ok (l : Launch) (N : Nat) (p0 : Int32) (p1 : Int32) (μ : Mem) (z : Int32 × Mem) (h : fX11_duty N p0 p1 μ = some z) : Mi wM l yX11_duty cX11_duty 3 .int (rmo 16 377) (fun ad adK => [.ref (ad 0), .int p0, .int p1]) μ z := Mi.of h (by decide +kernel) (fun _ _ => Nat.le_of_ble_eq_true rfl) (fun X hX hQ hl hcs => gX11_duty_E hX hQ hcs N p0 p1 μ)
/-! ===== DutyCaseModel.others()I ===== -/
set_option maxHeartbeats 4000000 in
set_option maxRecDepth 100000 in
theorem gX11_others_90 {X : Ctx} {z : Int32 × Mem} (hX : Fx wM X cX11_others 7 RX11 (some .int) (rmo 15 354)) (hQ : Qx_i wM X z) (hcs : cx_cells X = 0 ∧ cx_slots X = 0) (N : Nat) (v1 : Int64) (v3 : Int64) (μ : Mem) : G wM X z 90 [(1, .long v1), (3, .long v3)] [] μ (fX11_others_90 N v1 v3 μ) := by
  unfold fX11_others_90
  refine G_lload_n hX 1 rfl rfl dX11_others_90 ?_
  refine G_lconst hX (0 : Int64) rfl dX11_others_91 ?_
  refine G_lcmp hX dX11_others_92 ?_
  refine G_if_ne hX 100 (by decide) dX11_others_93 ?_ ?_
  · refine G_lload_n hX 0 rfl rfl dX11_others_100 ?_
    refine G_lload_n hX 1 rfl rfl dX11_others_101 ?_
    refine G_ldv hX dX11_others_102 ?_
    refine G_l2i hX dX11_others_103 ?_
    exact G_iret hX hQ dX11_others_104
  · refine G_iconst hX (0 : Int32) rfl dX11_others_96 ?_
    refine G_goto hX 104 (by decide) dX11_others_97 ?_
    exact G_iret hX hQ dX11_others_104
set_option maxHeartbeats 4000000 in
set_option maxRecDepth 100000 in
theorem gX11_others_63 {X : Ctx} {z : Int32 × Mem} (hX : Fx wM X cX11_others 7 RX11 (some .int) (rmo 15 354)) (hQ : Qx_i wM X z) (hcs : cx_cells X = 0 ∧ cx_slots X = 0) (N : Nat) (k12 : Int64 → Int64 → Int32 → Mem → Option (Int32 × Mem)) (hk12 : ∀ (v1 : Int64) (v3 : Int64) (v5 : Int32) (μ : Mem), G wM X z 12 [(0, .ref (cx_ad X 0)), (1, .long v1), (3, .long v3), (5, .int v5)] [] μ (k12 v1 v3 v5 μ)) (v3 : Int64) (v5 : Int32) (v6 : Int32) (s0 : Int64) (s1 : Int64) (μ : Mem) : G wM X z 63 [(0, .ref (cx_ad X 0)), (3, .long v3), (5, .int v5), (6, .int v6)] [.long s0, .long s1] μ (fX11_others_63 N k12 v3 v5 v6 s0 s1 μ) := by
  unfold fX11_others_63
  refine G_ladd hX dX11_others_63 ?_
  refine G_nml (fun x5 => ?_)
  refine G_lstore_n hX [(1, .long x5), (0, .ref (cx_ad X 0)), (3, .long v3), (5, .int v5), (6, .int v6)] rfl (by decide) rfl dX11_others_64 ?_
  refine G_lload_n hX 2 rfl rfl dX11_others_65 ?_
  refine G_iload hX 4 rfl dX11_others_66 ?_
  refine G_if_ne hX 75 (by decide) dX11_others_68 ?_ ?_
  · refine G_aload_n hX 1 rfl rfl dX11_others_75 ?_
    refine G_iload hX 3 rfl dX11_others_76 ?_
    refine G_lconst hX (0 : Int64) rfl dX11_others_78 ?_
    refine G_cVl hX 0 11 (fun ad adK => [.int v5, .long (0 : Int64)]) [.long v3] (fun z2 h2 => cX11_valueBy_ok (cx_l X) N v5 (0 : Int64) μ z2 h2) ok_X11_valueBy lm_X11_461 atM0.1 atM0.2 rfl rfl (fun _ _ => rfl) (Nat.le_of_ble_eq_true rfl) ⟨rfl, rfl, by decide, by decide⟩ (cs0 hcs) dX11_others_79 (fun r6 μ => ?_)
    refine G_ladd hX dX11_others_82 ?_
    refine G_nml (fun x7 => ?_)
    refine G_lstore_n hX [(3, .long x7), (1, .long x5), (0, .ref (cx_ad X 0)), (5, .int v5), (6, .int v6)] rfl (by decide) rfl dX11_others_83 ?_
    refine G_iincN hX 3 (fun x8 => [(5, .int x8), (3, .long x7), (1, .long x5), (0, .ref (cx_ad X 0)), (6, .int v6)]) rfl rfl (by decide) (fun _ => rfl) dX11_others_84 (fun x8 => ?_)
    refine G_goto hX 12 (by decide) dX11_others_87 ?_
    exact G_sub [3, 2, 1, 0] rfl (hk12 x5 x7 x8 μ)
  · refine G_lconst hX (0 : Int64) rfl dX11_others_71 ?_
    refine G_goto hX 82 (by decide) dX11_others_72 ?_
    refine G_ladd hX dX11_others_82 ?_
    refine G_nml (fun x9 => ?_)
    refine G_lstore_n hX [(3, .long x9), (1, .long x5), (0, .ref (cx_ad X 0)), (5, .int v5), (6, .int v6)] rfl (by decide) rfl dX11_others_83 ?_
    refine G_iincN hX 3 (fun x10 => [(5, .int x10), (3, .long x9), (1, .long x5), (0, .ref (cx_ad X 0)), (6, .int v6)]) rfl rfl (by decide) (fun _ => rfl) dX11_others_84 (fun x10 => ?_)
    refine G_goto hX 12 (by decide) dX11_others_87 ?_
    exact G_sub [3, 2, 1, 0] rfl (hk12 x5 x9 x10 μ)
set_option maxHeartbeats 4000000 in
set_option maxRecDepth 100000 in
theorem gX11_others_40 {X : Ctx} {z : Int32 × Mem} (hX : Fx wM X cX11_others 7 RX11 (some .int) (rmo 15 354)) (hQ : Qx_i wM X z) (hcs : cx_cells X = 0 ∧ cx_slots X = 0) (N : Nat) (k12 : Int64 → Int64 → Int32 → Mem → Option (Int32 × Mem)) (hk12 : ∀ (v1 : Int64) (v3 : Int64) (v5 : Int32) (μ : Mem), G wM X z 12 [(0, .ref (cx_ad X 0)), (1, .long v1), (3, .long v3), (5, .int v5)] [] μ (k12 v1 v3 v5 μ)) (v1 : Int64) (v3 : Int64) (v5 : Int32) (s0 : Int32) (μ : Mem) : G wM X z 40 [(0, .ref (cx_ad X 0)), (1, .long v1), (3, .long v3), (5, .int v5)] [.int s0] μ (fX11_others_40 N k12 v1 v3 v5 s0 μ) := by
  unfold fX11_others_40
  refine G_istore hX [(6, .int s0), (0, .ref (cx_ad X 0)), (1, .long v1), (3, .long v3), (5, .int v5)] (by decide) rfl dX11_others_40 ?_
  refine G_lload_n hX 2 rfl rfl dX11_others_42 ?_
  refine G_iload hX 0 rfl dX11_others_43 ?_
  refine G_if_ne hX 52 (by decide) dX11_others_45 ?_ ?_
  · refine G_iload hX 0 rfl dX11_others_52 ?_
    refine G_i2l hX dX11_others_54 ?_
    refine G_aload_n hX 1 rfl rfl dX11_others_55 ?_
    refine G_iload hX 4 rfl dX11_others_56 ?_
    refine G_lconst hX (0 : Int64) rfl dX11_others_58 ?_
    refine G_cVl hX 0 11 (fun ad adK => [.int v5, .long (0 : Int64)]) [.long s0.toInt64, .long v1] (fun z2 h2 => cX11_valueBy_ok (cx_l X) N v5 (0 : Int64) μ z2 h2) ok_X11_valueBy lm_X11_461 atM0.1 atM0.2 rfl rfl (fun _ _ => rfl) (Nat.le_of_ble_eq_true rfl) ⟨rfl, rfl, by decide, by decide⟩ (cs0 hcs) dX11_others_59 (fun r4 μ => ?_)
    refine G_lmul hX dX11_others_62 ?_
    exact G_sub [1, 3, 4, 0] rfl (gX11_others_63 hX hQ hcs N k12 hk12 v3 v5 s0 (s0.toInt64 * r4) v1 μ)
  · refine G_lconst hX (0 : Int64) rfl dX11_others_48 ?_
    refine G_goto hX 63 (by decide) dX11_others_49 ?_
    exact G_sub [1, 3, 4, 0] rfl (gX11_others_63 hX hQ hcs N k12 hk12 v3 v5 s0 (0 : Int64) v1 μ)
set_option maxHeartbeats 4000000 in
set_option maxRecDepth 100000 in
theorem gX11_others_12 {X : Ctx} {z : Int32 × Mem} (hX : Fx wM X cX11_others 7 RX11 (some .int) (rmo 15 354)) (hQ : Qx_i wM X z) (hcs : cx_cells X = 0 ∧ cx_slots X = 0) (N : Nat) : ∀ (n : Nat) (v1 : Int64) (v3 : Int64) (v5 : Int32) (μ : Mem), G wM X z 12 [(0, .ref (cx_ad X 0)), (1, .long v1), (3, .long v3), (5, .int v5)] [] μ (fX11_others_12 N n v1 v3 v5 μ) := by
  intro n
  induction n with
  | zero =>
    intro v1 v3 v5 μ
    exact G_none
  | succ n ih =>
    intro v1 v3 v5 μ
    unfold fX11_others_12
    refine G_iload hX 3 rfl dX11_others_12 ?_
    refine G_aload_n hX 0 rfl rfl dX11_others_14 ?_
    refine gf_X11_291_M0 hX dX11_others_15 ?_
    refine G_nmi (fun x1 => ?_)
    refine G_icmp_ge hX 90 (by decide) dX11_others_18 ?_ ?_
    · exact G_sub [1, 2] rfl (gX11_others_90 hX hQ hcs N v1 v3 μ)
    · refine G_aload_n hX 0 rfl rfl dX11_others_21 ?_
      refine G_iload hX 3 rfl dX11_others_22 ?_
      refine G_cVi hX 0 11 (fun ad adK => [.int v5]) [] (fun z2 h2 => cX11_isSilent_ok (cx_l X) N v5 μ z2 h2) ok_X11_isSilent lm_X11_473 atM0.1 atM0.2 rfl rfl (fun _ _ => rfl) (Nat.le_of_ble_eq_true rfl) ⟨rfl, rfl, by decide, by decide⟩ (cs0 hcs) dX11_others_24 (fun r2 μ => ?_)
      refine G_if_eq hX 34 (by decide) dX11_others_27 ?_ ?_
      · refine G_aload_n hX 0 rfl rfl dX11_others_34 ?_
        refine G_iload hX 3 rfl dX11_others_35 ?_
        refine G_cVi hX 0 11 (fun ad adK => [.int v5]) [] (fun z2 h2 => cX11_rateOf_ok (cx_l X) N v5 μ z2 h2) ok_X11_rateOf lm_X11_497 atM0.1 atM0.2 rfl rfl (fun _ _ => rfl) (Nat.le_of_ble_eq_true rfl) ⟨rfl, rfl, by decide, by decide⟩ (cs0 hcs) dX11_others_37 (fun r3 μ => ?_)
        exact G_sub [0, 1, 2, 3] rfl (gX11_others_40 hX hQ hcs N (fun v1 v3 v5 μ => fX11_others_12 N n v1 v3 v5 μ) (fun v1 v3 v5  μ => ih v1 v3 v5  μ) v1 v3 v5 r3 μ)
      · refine G_iconst hX (0 : Int32) rfl dX11_others_30 ?_
        refine G_goto hX 40 (by decide) dX11_others_31 ?_
        exact G_sub [0, 1, 2, 3] rfl (gX11_others_40 hX hQ hcs N (fun v1 v3 v5 μ => fX11_others_12 N n v1 v3 v5 μ) (fun v1 v3 v5  μ => ih v1 v3 v5  μ) v1 v3 v5 (0 : Int32) μ)
set_option maxHeartbeats 4000000 in
set_option maxRecDepth 100000 in
theorem gX11_others_E {X : Ctx} {z : Int32 × Mem} (hX : Fx wM X cX11_others 7 RX11 (some .int) (rmo 15 354)) (hQ : Qx_i wM X z) (hcs : cx_cells X = 0 ∧ cx_slots X = 0) (N : Nat) (μ : Mem) : G wM X z 0 [(0, .ref (cx_ad X 0))] [] μ (fX11_others N μ) := by
  unfold fX11_others
  refine G_aload_n hX 0 rfl rfl dX11_others_0 ?_
  refine G_iconst hX (0 : Int32) rfl dX11_others_1 ?_
  refine pf_X11_104_M0 hX dX11_others_2 (fun μ => ?_)
  refine G_lconst hX (0 : Int64) rfl dX11_others_5 ?_
  refine G_lstore_n hX [(1, .long (0 : Int64)), (0, .ref (cx_ad X 0))] rfl (by decide) rfl dX11_others_6 ?_
  refine G_lconst hX (0 : Int64) rfl dX11_others_7 ?_
  refine G_lstore_n hX [(3, .long (0 : Int64)), (1, .long (0 : Int64)), (0, .ref (cx_ad X 0))] rfl (by decide) rfl dX11_others_8 ?_
  refine G_iconst hX (0 : Int32) rfl dX11_others_9 ?_
  refine G_istore hX [(5, .int (0 : Int32)), (3, .long (0 : Int64)), (1, .long (0 : Int64)), (0, .ref (cx_ad X 0))] (by decide) rfl dX11_others_10 ?_
  exact G_sub [3, 2, 1, 0] rfl (gX11_others_12 hX hQ hcs N N (0 : Int64) (0 : Int64) (0 : Int32) μ)
theorem cX11_others_ok (l : Launch) (N : Nat) (μ : Mem) (z : Int32 × Mem) (h : fX11_others N μ = some z) : Mi wM l yX11_others cX11_others 7 .int (rmo 15 354) (fun ad adK => [.ref (ad 0)]) μ z := Mi.of h (by decide +kernel) (fun _ _ => Nat.le_of_ble_eq_true rfl) (fun X hX hQ hl hcs => gX11_others_E hX hQ hcs N μ)
/-! ===== DutyCaseModel.method(II)I ===== -/
set_option maxHeartbeats 4000000 in
set_option maxRecDepth 100000 in
theorem gX11_method_57 {X : Ctx} {z : Int32 × Mem} (hX : Fx wM X cX11_method 7 RX11 (some .int) (rmo 13 311)) (hQ : Qx_i wM X z) (hcs : cx_cells X = 0 ∧ cx_slots X = 0) (N : Nat) : ∀ (n : Nat) (v1 : Int32) (v2 : Int32) (v3 : Int32) (v4 : Int32) (v5 : Int32) (μ : Mem), G wM X z 57 [(0, .ref (cx_ad X 0)), (1, .int v1), (2, .int v2), (3, .int v3), (4, .int v4), (5, .int v5)] [] μ (fX11_method_57 N n v1 v2 v3 v4 v5 μ) := by
  intro n
  induction n with
  | zero =>
    intro v1 v2 v3 v4 v5 μ
    exact G_none
  | succ n ih =>
    intro v1 v2 v3 v4 v5 μ
    unfold fX11_method_57
    refine G_iload hX 5 rfl dX11_method_57 ?_
    refine G_iconst hX (3 : Int32) rfl dX11_method_59 ?_
    refine G_icmp_ge hX 110 (by decide) dX11_method_60 ?_ ?_
    · refine G_iload_n hX 3 rfl rfl dX11_method_110 ?_
      exact G_iret hX hQ dX11_method_111
    · refine G_aload_n hX 0 rfl rfl dX11_method_63 ?_
      refine G_iload_n hX 1 rfl rfl dX11_method_64 ?_
      refine G_iload hX 5 rfl dX11_method_65 ?_
      refine G_aload_n hX 0 rfl rfl dX11_method_67 ?_
      refine G_cVi hX 0 11 (fun ad adK => []) [.int v5, .int v1, .ref (cx_ad X 0)] (fun z2 h2 => cX11_isZeroing_ok (cx_l X) N μ z2 h2) ok_X11_isZeroing lm_X11_488 atM0.1 atM0.2 rfl rfl (fun _ _ => rfl) (Nat.le_of_ble_eq_true rfl) ⟨rfl, rfl, by decide, by decide⟩ (cs0 hcs) dX11_method_68 (fun r6 μ => ?_)
      refine G_cVi hX 0 11 (fun ad adK => [.int v1, .int v5, .int r6]) [] (fun z2 h2 => cX11_marginOf_ok (cx_l X) N v1 v5 r6 μ z2 h2) ok_X11_marginOf lm_X11_479 atM0.1 atM0.2 rfl rfl (fun _ _ => rfl) (Nat.le_of_ble_eq_true rfl) ⟨rfl, rfl, by decide, by decide⟩ (cs0 hcs) dX11_method_71 (fun r7 μ => ?_)
      refine G_istore hX [(6, .int r7), (0, .ref (cx_ad X 0)), (1, .int v1), (2, .int v2), (3, .int v3), (4, .int v4), (5, .int v5)] (by decide) rfl dX11_method_74 ?_
      refine G_iload_n hX 3 rfl rfl dX11_method_76 ?_
      refine G_if_ne hX 90 (by decide) dX11_method_77 ?_ ?_
      · refine G_iload hX 0 rfl dX11_method_90 ?_
        refine G_iload hX 5 rfl dX11_method_92 ?_
        refine G_icmp_ge hX 104 (by decide) dX11_method_94 ?_ ?_
        · refine G_iincN hX 6 (fun x8 => [(5, .int x8), (6, .int r7), (0, .ref (cx_ad X 0)), (1, .int v1), (2, .int v2), (3, .int v3), (4, .int v4)]) rfl rfl (by decide) (fun _ => rfl) dX11_method_104 (fun x8 => ?_)
          refine G_goto hX 57 (by decide) dX11_method_107 ?_
          exact G_sub [2, 3, 4, 5, 6, 0] rfl (ih v1 v2 v3 v4 x8 μ)
        · refine G_iload hX 6 rfl dX11_method_97 ?_
          refine G_istore_n hX [(3, .int v5), (6, .int r7), (0, .ref (cx_ad X 0)), (1, .int v1), (2, .int v2), (4, .int v4), (5, .int v5)] rfl (by decide) rfl dX11_method_99 ?_
          refine G_iload hX 1 rfl dX11_method_100 ?_
          refine G_istore hX [(4, .int r7), (3, .int v5), (6, .int r7), (0, .ref (cx_ad X 0)), (1, .int v1), (2, .int v2), (5, .int v5)] (by decide) rfl dX11_method_102 ?_
          refine G_iincN hX 6 (fun x9 => [(5, .int x9), (4, .int r7), (3, .int v5), (6, .int r7), (0, .ref (cx_ad X 0)), (1, .int v1), (2, .int v2)]) rfl rfl (by decide) (fun _ => rfl) dX11_method_104 (fun x9 => ?_)
          refine G_goto hX 57 (by decide) dX11_method_107 ?_
          exact G_sub [4, 5, 6, 2, 1, 0] rfl (ih v1 v2 v5 r7 x9 μ)
      · refine G_iload hX 0 rfl dX11_method_80 ?_
        refine G_iload hX 5 rfl dX11_method_82 ?_
        refine G_icmp_le hX 104 (by decide) dX11_method_84 ?_ ?_
        · refine G_iincN hX 6 (fun x10 => [(5, .int x10), (6, .int r7), (0, .ref (cx_ad X 0)), (1, .int v1), (2, .int v2), (3, .int v3), (4, .int v4)]) rfl rfl (by decide) (fun _ => rfl) dX11_method_104 (fun x10 => ?_)
          refine G_goto hX 57 (by decide) dX11_method_107 ?_
          exact G_sub [2, 3, 4, 5, 6, 0] rfl (ih v1 v2 v3 v4 x10 μ)
        · refine G_goto hX 97 (by decide) dX11_method_87 ?_
          refine G_iload hX 6 rfl dX11_method_97 ?_
          refine G_istore_n hX [(3, .int v5), (6, .int r7), (0, .ref (cx_ad X 0)), (1, .int v1), (2, .int v2), (4, .int v4), (5, .int v5)] rfl (by decide) rfl dX11_method_99 ?_
          refine G_iload hX 1 rfl dX11_method_100 ?_
          refine G_istore hX [(4, .int r7), (3, .int v5), (6, .int r7), (0, .ref (cx_ad X 0)), (1, .int v1), (2, .int v2), (5, .int v5)] (by decide) rfl dX11_method_102 ?_
          refine G_iincN hX 6 (fun x11 => [(5, .int x11), (4, .int r7), (3, .int v5), (6, .int r7), (0, .ref (cx_ad X 0)), (1, .int v1), (2, .int v2)]) rfl rfl (by decide) (fun _ => rfl) dX11_method_104 (fun x11 => ?_)
          refine G_goto hX 57 (by decide) dX11_method_107 ?_
          exact G_sub [4, 5, 6, 2, 1, 0] rfl (ih v1 v2 v5 r7 x11 μ)
set_option maxHeartbeats 4000000 in
set_option maxRecDepth 100000 in
theorem gX11_method_28 {X : Ctx} {z : Int32 × Mem} (hX : Fx wM X cX11_method 7 RX11 (some .int) (rmo 13 311)) (hQ : Qx_i wM X z) (hcs : cx_cells X = 0 ∧ cx_slots X = 0) (N : Nat) (v1 : Int32) (v2 : Int32) (s0 : Int32) (μ : Mem) : G wM X z 28 [(0, .ref (cx_ad X 0)), (1, .int v1), (2, .int v2)] [.int s0, .ref (cx_ad X 0)] μ (fX11_method_28 N v1 v2 s0 μ) := by
  unfold fX11_method_28
  refine pf_X11_104_M0 hX dX11_method_28 (fun μ => ?_)
  refine G_aload_n hX 0 rfl rfl dX11_method_31 ?_
  refine gf_X11_104_M0 hX dX11_method_32 ?_
  refine G_nmi (fun x3 => ?_)
  refine G_if_le hX 40 (by decide) dX11_method_35 ?_ ?_
  · refine G_iconst hX (0 : Int32) rfl dX11_method_40 ?_
    refine G_istore_n hX [(3, .int (0 : Int32)), (0, .ref (cx_ad X 0)), (1, .int v1), (2, .int v2)] rfl (by decide) rfl dX11_method_41 ?_
    refine G_aload_n hX 1 rfl rfl dX11_method_42 ?_
    refine G_iload_n hX 2 rfl rfl dX11_method_43 ?_
    refine G_iconst hX (0 : Int32) rfl dX11_method_44 ?_
    refine G_aload_n hX 1 rfl rfl dX11_method_45 ?_
    refine G_cVi hX 0 11 (fun ad adK => []) [.int (0 : Int32), .int v1, .ref (cx_ad X 0)] (fun z2 h2 => cX11_isZeroing_ok (cx_l X) N μ z2 h2) ok_X11_isZeroing lm_X11_488 atM0.1 atM0.2 rfl rfl (fun _ _ => rfl) (Nat.le_of_ble_eq_true rfl) ⟨rfl, rfl, by decide, by decide⟩ (cs0 hcs) dX11_method_46 (fun r4 μ => ?_)
    refine G_cVi hX 0 11 (fun ad adK => [.int v1, .int (0 : Int32), .int r4]) [] (fun z2 h2 => cX11_marginOf_ok (cx_l X) N v1 (0 : Int32) r4 μ z2 h2) ok_X11_marginOf lm_X11_479 atM0.1 atM0.2 rfl rfl (fun _ _ => rfl) (Nat.le_of_ble_eq_true rfl) ⟨rfl, rfl, by decide, by decide⟩ (cs0 hcs) dX11_method_49 (fun r5 μ => ?_)
    refine G_istore hX [(4, .int r5), (3, .int (0 : Int32)), (0, .ref (cx_ad X 0)), (1, .int v1), (2, .int v2)] (by decide) rfl dX11_method_52 ?_
    refine G_iconst hX (1 : Int32) rfl dX11_method_54 ?_
    refine G_istore hX [(5, .int (1 : Int32)), (4, .int r5), (3, .int (0 : Int32)), (0, .ref (cx_ad X 0)), (1, .int v1), (2, .int v2)] (by decide) rfl dX11_method_55 ?_
    exact G_sub [3, 4, 5, 2, 1, 0] rfl (gX11_method_57 hX hQ hcs N N v1 v2 (0 : Int32) r5 (1 : Int32) μ)
  · refine G_iconst hX (0 : Int32) rfl dX11_method_38 ?_
    exact G_iret hX hQ dX11_method_39
set_option maxHeartbeats 4000000 in
set_option maxRecDepth 100000 in
theorem gX11_method_E {X : Ctx} {z : Int32 × Mem} (hX : Fx wM X cX11_method 7 RX11 (some .int) (rmo 13 311)) (hQ : Qx_i wM X z) (hcs : cx_cells X = 0 ∧ cx_slots X = 0) (N : Nat) (p0 : Int32) (p1 : Int32) (μ : Mem) : G wM X z 0 [(0, .ref (cx_ad X 0)), (1, .int p0), (2, .int p1)] [] μ (fX11_method N p0 p1 μ) := by
  unfold fX11_method
  refine G_aload_n hX 0 rfl rfl dX11_method_0 ?_
  refine G_aload_n hX 0 rfl rfl dX11_method_1 ?_
  refine G_iload_n hX 1 rfl rfl dX11_method_2 ?_
  refine G_cVi hX 0 11 (fun ad adK => [.int p0]) [.ref (cx_ad X 0)] (fun z2 h2 => cX11_isFirm_ok (cx_l X) N p0 μ z2 h2) ok_X11_isFirm lm_X11_311 atM0.1 atM0.2 rfl rfl (fun _ _ => rfl) (Nat.le_of_ble_eq_true rfl) ⟨rfl, rfl, by decide, by decide⟩ (cs0 hcs) dX11_method_3 (fun r1 μ => ?_)
  refine G_if_ne hX 13 (by decide) dX11_method_6 ?_ ?_
  · refine G_iload_n hX 2 rfl rfl dX11_method_13 ?_
    refine G_i2l hX dX11_method_14 ?_
    refine G_lconst hX (0 : Int64) rfl dX11_method_15 ?_
    refine G_lconst hX (1 : Int64) rfl dX11_method_16 ?_
    refine G_cSi hX (fun ad adK => [.long p1.toInt64, .long (0 : Int64), .long (1 : Int64)]) [.ref (cx_ad X 0)] (fun z2 h2 => cX11_isIn_ok (cx_l X) N p1.toInt64 (0 : Int64) (1 : Int64) μ z2 h2) ok_X11_isIn lm_X11_301 rfl (fun _ _ => rfl) (Nat.le_of_ble_eq_true rfl) ⟨rfl, rfl, by decide, by decide⟩ (cs0 hcs) dX11_method_17 (fun r2 μ => ?_)
    refine G_if_eq hX 27 (by decide) dX11_method_20 ?_ ?_
    · refine G_iconst hX (2 : Int32) rfl dX11_method_27 ?_
      exact G_sub [0, 1, 2] rfl (gX11_method_28 hX hQ hcs N p0 p1 (2 : Int32) μ)
    · refine G_iconst hX (0 : Int32) rfl dX11_method_23 ?_
      refine G_goto hX 28 (by decide) dX11_method_24 ?_
      exact G_sub [0, 1, 2] rfl (gX11_method_28 hX hQ hcs N p0 p1 (0 : Int32) μ)
  · refine G_iconst hX (1 : Int32) rfl dX11_method_9 ?_
    refine G_goto hX 28 (by decide) dX11_method_10 ?_
    exact G_sub [0, 1, 2] rfl (gX11_method_28 hX hQ hcs N p0 p1 (1 : Int32) μ)
theorem cX11_method_ok (l : Launch) (N : Nat) (p0 : Int32) (p1 : Int32) (μ : Mem) (z : Int32 × Mem) (h : fX11_method N p0 p1 μ = some z) : Mi wM l yX11_method cX11_method 7 .int (rmo 13 311) (fun ad adK => [.ref (ad 0), .int p0, .int p1]) μ z := Mi.of h (by decide +kernel) (fun _ _ => Nat.le_of_ble_eq_true rfl) (fun X hX hQ hl hcs => gX11_method_E hX hQ hcs N p0 p1 μ)
/-! ===== DutyCaseModel.undertaking(I)I ===== -/
set_option maxHeartbeats 4000000 in
set_option maxRecDepth 100000 in
theorem gX11_undertaking_53 {X : Ctx} {z : Int32 × Mem} (hX : Fx wM X cX11_undertaking 3 RX11 (some .int) (rmo 11 262)) (hQ : Qx_i wM X z) (hcs : cx_cells X = 0 ∧ cx_slots X = 0) (N : Nat) : ∀ (n : Nat) (v1 : Int32) (v2 : Int32) (μ : Mem), G wM X z 53 [(0, .ref (cx_ad X 0)), (1, .int v1), (2, .int v2)] [] μ (fX11_undertaking_53 N n v1 v2 μ) := by
  intro n
  induction n with
  | zero =>
    intro v1 v2 μ
    exact G_none
  | succ n ih =>
    intro v1 v2 μ
    unfold fX11_undertaking_53
    refine G_iload_n hX 2 rfl rfl dX11_undertaking_53 ?_
    refine G_sipush hX (10000 : Int32) rfl dX11_undertaking_54 ?_
    refine G_icmp_ge hX 94 (by decide) dX11_undertaking_57 ?_ ?_
    · refine G_iconst hX (-1 : Int32) rfl dX11_undertaking_94 ?_
      exact G_iret hX hQ dX11_undertaking_95
    · refine G_aload_n hX 0 rfl rfl dX11_undertaking_60 ?_
      refine G_aload_n hX 0 rfl rfl dX11_undertaking_61 ?_
      refine G_cVi hX 0 11 (fun ad adK => []) [.ref (cx_ad X 0)] (fun z2 h2 => cX11_isZeroing_ok (cx_l X) N μ z2 h2) ok_X11_isZeroing lm_X11_488 atM0.1 atM0.2 rfl rfl (fun _ _ => rfl) (Nat.le_of_ble_eq_true rfl) ⟨rfl, rfl, by decide, by decide⟩ (cs0 hcs) dX11_undertaking_62 (fun r5 μ => ?_)
      refine G_iload_n hX 2 rfl rfl dX11_undertaking_65 ?_
      refine G_i2l hX dX11_undertaking_66 ?_
      refine G_cVl hX 0 11 (fun ad adK => [.int r5, .long v2.toInt64]) [] (fun z2 h2 => cX11_sumBy_ok (cx_l X) N r5 v2.toInt64 μ z2 h2) ok_X11_sumBy lm_X11_457 atM0.1 atM0.2 rfl rfl (fun _ _ => rfl) (Nat.le_of_ble_eq_true rfl) ⟨rfl, rfl, by decide, by decide⟩ (cs0 hcs) dX11_undertaking_67 (fun r6 μ => ?_)
      refine G_aload_n hX 0 rfl rfl dX11_undertaking_70 ?_
      refine G_iload_n hX 1 rfl rfl dX11_undertaking_71 ?_
      refine G_iload_n hX 2 rfl rfl dX11_undertaking_72 ?_
      refine G_i2l hX dX11_undertaking_73 ?_
      refine G_cVl hX 0 11 (fun ad adK => [.int v1, .long v2.toInt64]) [.long r6] (fun z2 h2 => cX11_valueBy_ok (cx_l X) N v1 v2.toInt64 μ z2 h2) ok_X11_valueBy lm_X11_461 atM0.1 atM0.2 rfl rfl (fun _ _ => rfl) (Nat.le_of_ble_eq_true rfl) ⟨rfl, rfl, by decide, by decide⟩ (cs0 hcs) dX11_undertaking_74 (fun r7 μ => ?_)
      refine G_cSi hX (fun ad adK => [.long r6, .long r7]) [] (fun z2 h2 => cX11_shareOf_ok (cx_l X) N r6 r7 μ z2 h2) ok_X11_shareOf lm_X11_469 rfl (fun _ _ => rfl) (Nat.le_of_ble_eq_true rfl) ⟨rfl, rfl, by decide, by decide⟩ (cs0 hcs) dX11_undertaking_77 (fun r8 μ => ?_)
      refine G_sipush hX (200 : Int32) rfl dX11_undertaking_80 ?_
      refine G_icmp_ge hX 88 (by decide) dX11_undertaking_83 ?_ ?_
      · refine G_iincN hX 2 (fun x9 => [(2, .int x9), (0, .ref (cx_ad X 0)), (1, .int v1)]) rfl rfl (by decide) (fun _ => rfl) dX11_undertaking_88 (fun x9 => ?_)
        refine G_goto hX 53 (by decide) dX11_undertaking_91 ?_
        exact G_sub [1, 2, 0] rfl (ih v1 x9 μ)
      · refine G_iload_n hX 2 rfl rfl dX11_undertaking_86 ?_
        exact G_iret hX hQ dX11_undertaking_87
set_option maxHeartbeats 4000000 in
set_option maxRecDepth 100000 in
theorem gX11_undertaking_27 {X : Ctx} {z : Int32 × Mem} (hX : Fx wM X cX11_undertaking 3 RX11 (some .int) (rmo 11 262)) (hQ : Qx_i wM X z) (hcs : cx_cells X = 0 ∧ cx_slots X = 0) (N : Nat) (v1 : Int32) (s0 : Int32) (μ : Mem) : G wM X z 27 [(0, .ref (cx_ad X 0)), (1, .int v1)] [.int s0, .ref (cx_ad X 0)] μ (fX11_undertaking_27 N v1 s0 μ) := by
  unfold fX11_undertaking_27
  refine pf_X11_104_M0 hX dX11_undertaking_27 (fun μ => ?_)
  refine G_aload_n hX 0 rfl rfl dX11_undertaking_30 ?_
  refine gf_X11_104_M0 hX dX11_undertaking_31 ?_
  refine G_nmi (fun x3 => ?_)
  refine G_if_le hX 39 (by decide) dX11_undertaking_34 ?_ ?_
  · refine G_aload_n hX 0 rfl rfl dX11_undertaking_39 ?_
    refine G_iload_n hX 1 rfl rfl dX11_undertaking_40 ?_
    refine G_aload_n hX 0 rfl rfl dX11_undertaking_41 ?_
    refine gf_X11_7_M0 hX dX11_undertaking_42 ?_
    refine G_bipush hX (28 : Int32) rfl dX11_undertaking_45 ?_
    refine G_aI hX atM1 dX11_undertaking_47 (fun x4 => ?_)
    refine G_cVv hX 0 11 (fun ad adK => [.int v1, .int x4]) [] (fun z2 h2 => cX11_laysParts_ok (cx_l X) N v1 x4 μ z2 h2) ok_X11_laysParts lm_X11_454 atM0.1 atM0.2 rfl rfl (fun _ _ => rfl) (Nat.le_of_ble_eq_true rfl) ⟨rfl, rfl, by decide, by decide⟩ (cs0 hcs) dX11_undertaking_48 (fun μ => ?_)
    refine G_iconst hX (0 : Int32) rfl dX11_undertaking_51 ?_
    refine G_istore_n hX [(2, .int (0 : Int32)), (0, .ref (cx_ad X 0)), (1, .int v1)] rfl (by decide) rfl dX11_undertaking_52 ?_
    exact G_sub [1, 2, 0] rfl (gX11_undertaking_53 hX hQ hcs N N v1 (0 : Int32) μ)
  · refine G_iconst hX (0 : Int32) rfl dX11_undertaking_37 ?_
    exact G_iret hX hQ dX11_undertaking_38
set_option maxHeartbeats 4000000 in
set_option maxRecDepth 100000 in
theorem gX11_undertaking_E {X : Ctx} {z : Int32 × Mem} (hX : Fx wM X cX11_undertaking 3 RX11 (some .int) (rmo 11 262)) (hQ : Qx_i wM X z) (hcs : cx_cells X = 0 ∧ cx_slots X = 0) (N : Nat) (p0 : Int32) (μ : Mem) : G wM X z 0 [(0, .ref (cx_ad X 0)), (1, .int p0)] [] μ (fX11_undertaking N p0 μ) := by
  unfold fX11_undertaking
  refine G_aload_n hX 0 rfl rfl dX11_undertaking_0 ?_
  refine G_aload_n hX 0 rfl rfl dX11_undertaking_1 ?_
  refine G_iload_n hX 1 rfl rfl dX11_undertaking_2 ?_
  refine G_cVi hX 0 11 (fun ad adK => [.int p0]) [.ref (cx_ad X 0)] (fun z2 h2 => cX11_isFirm_ok (cx_l X) N p0 μ z2 h2) ok_X11_isFirm lm_X11_311 atM0.1 atM0.2 rfl rfl (fun _ _ => rfl) (Nat.le_of_ble_eq_true rfl) ⟨rfl, rfl, by decide, by decide⟩ (cs0 hcs) dX11_undertaking_3 (fun r1 μ => ?_)
  refine G_if_ne hX 13 (by decide) dX11_undertaking_6 ?_ ?_
  · refine G_aload_n hX 0 rfl rfl dX11_undertaking_13 ?_
    refine G_iload_n hX 1 rfl rfl dX11_undertaking_14 ?_
    refine G_iconst hX (1 : Int32) rfl dX11_undertaking_15 ?_
    refine G_cVi hX 0 11 (fun ad adK => [.int p0, .int (1 : Int32)]) [.ref (cx_ad X 0)] (fun z2 h2 => cX11_manyIn_ok (cx_l X) N p0 (1 : Int32) μ z2 h2) ok_X11_manyIn lm_X11_344 atM0.1 atM0.2 rfl rfl (fun _ _ => rfl) (Nat.le_of_ble_eq_true rfl) ⟨rfl, rfl, by decide, by decide⟩ (cs0 hcs) dX11_undertaking_16 (fun r2 μ => ?_)
    refine G_if_le hX 26 (by decide) dX11_undertaking_19 ?_ ?_
    · refine G_iconst hX (2 : Int32) rfl dX11_undertaking_26 ?_
      exact G_sub [0, 1] rfl (gX11_undertaking_27 hX hQ hcs N p0 (2 : Int32) μ)
    · refine G_iconst hX (0 : Int32) rfl dX11_undertaking_22 ?_
      refine G_goto hX 27 (by decide) dX11_undertaking_23 ?_
      exact G_sub [0, 1] rfl (gX11_undertaking_27 hX hQ hcs N p0 (0 : Int32) μ)
  · refine G_iconst hX (1 : Int32) rfl dX11_undertaking_9 ?_
    refine G_goto hX 27 (by decide) dX11_undertaking_10 ?_
    exact G_sub [0, 1] rfl (gX11_undertaking_27 hX hQ hcs N p0 (1 : Int32) μ)
theorem cX11_undertaking_ok (l : Launch) (N : Nat) (p0 : Int32) (μ : Mem) (z : Int32 × Mem) (h : fX11_undertaking N p0 μ = some z) : Mi wM l yX11_undertaking cX11_undertaking 3 .int (rmo 11 262) (fun ad adK => [.ref (ad 0), .int p0]) μ z := Mi.of h (by decide +kernel) (fun _ _ => Nat.le_of_ble_eq_true rfl) (fun X hX hQ hl hcs => gX11_undertaking_E hX hQ hcs N p0 μ)
/-! ===== DutyCaseModel.isPicked(II)Z ===== -/
set_option maxHeartbeats 4000000 in
set_option maxRecDepth 100000 in
theorem gX11_isPicked_166 {X : Ctx} {z : Int32 × Mem} (hX : Fx wM X cX11_isPicked 15 RX11 (some .boolean) (rmo 3 67)) (hQ : Qx_i wM X z) (hcs : cx_cells X = 0 ∧ cx_slots X = 0) (N : Nat) (v3 : Int64) (v5 : Int64) (v7 : Int64) (v9 : Int64) (μ : Mem) : G wM X z 166 [(3, .long v3), (5, .long v5), (7, .long v7), (9, .long v9)] [] μ (fX11_isPicked_166 N v3 v5 v7 v9 μ) := by
  unfold fX11_isPicked_166
  refine G_lload hX 1 rfl dX11_isPicked_166 ?_
  refine G_lconst hX (0 : Int64) rfl dX11_isPicked_168 ?_
  refine G_lcmp hX dX11_isPicked_169 ?_
  refine G_if_le hX 213 (by decide) dX11_isPicked_170 ?_ ?_
  · refine G_iconst hX (0 : Int32) rfl dX11_isPicked_213 ?_
    exact G_zret hX hQ rfl dX11_isPicked_214
  · refine G_lload hX 3 rfl dX11_isPicked_173 ?_
    refine G_lconst hX (0 : Int64) rfl dX11_isPicked_175 ?_
    refine G_lcmp hX dX11_isPicked_176 ?_
    refine G_if_le hX 213 (by decide) dX11_isPicked_177 ?_ ?_
    · refine G_iconst hX (0 : Int32) rfl dX11_isPicked_213 ?_
      exact G_zret hX hQ rfl dX11_isPicked_214
    · refine G_ldc2 hX lc_X11_512 dX11_isPicked_180 ?_
      refine G_ldc2 hX lc_X11_409 dX11_isPicked_183 ?_
      refine G_lload_n hX 0 rfl rfl dX11_isPicked_186 ?_
      refine G_lmul hX dX11_isPicked_187 ?_
      refine G_lload hX 1 rfl dX11_isPicked_188 ?_
      refine G_ldv hX dX11_isPicked_190 ?_
      refine G_lmul hX dX11_isPicked_191 ?_
      refine G_ldc2 hX lc_X11_514 dX11_isPicked_192 ?_
      refine G_ldc2 hX lc_X11_409 dX11_isPicked_195 ?_
      refine G_lload hX 2 rfl dX11_isPicked_198 ?_
      refine G_lmul hX dX11_isPicked_200 ?_
      refine G_lload hX 3 rfl dX11_isPicked_201 ?_
      refine G_ldv hX dX11_isPicked_203 ?_
      refine G_lmul hX dX11_isPicked_204 ?_
      refine G_lcmp hX dX11_isPicked_205 ?_
      refine G_if_ge hX 213 (by decide) dX11_isPicked_206 ?_ ?_
      · refine G_iconst hX (0 : Int32) rfl dX11_isPicked_213 ?_
        exact G_zret hX hQ rfl dX11_isPicked_214
      · refine G_iconst hX (1 : Int32) rfl dX11_isPicked_209 ?_
        refine G_goto hX 214 (by decide) dX11_isPicked_210 ?_
        exact G_zret hX hQ rfl dX11_isPicked_214
set_option maxHeartbeats 4000000 in
set_option maxRecDepth 100000 in
theorem gX11_isPicked_135 {X : Ctx} {z : Int32 × Mem} (hX : Fx wM X cX11_isPicked 15 RX11 (some .boolean) (rmo 3 67)) (hQ : Qx_i wM X z) (hcs : cx_cells X = 0 ∧ cx_slots X = 0) (N : Nat) (k14 : Int32 → Int32 → Int64 → Int64 → Int64 → Int64 → Int32 → Mem → Option (Int32 × Mem)) (hk14 : ∀ (v1 : Int32) (v2 : Int32) (v3 : Int64) (v5 : Int64) (v7 : Int64) (v9 : Int64) (v11 : Int32) (μ : Mem), G wM X z 14 [(0, .ref (cx_ad X 0)), (1, .int v1), (2, .int v2), (3, .long v3), (5, .long v5), (7, .long v7), (9, .long v9), (11, .int v11)] [] μ (k14 v1 v2 v3 v5 v7 v9 v11 μ)) (v1 : Int32) (v2 : Int32) (v3 : Int64) (v5 : Int64) (v9 : Int64) (v11 : Int32) (v12 : Int32) (s0 : Int64) (s1 : Int64) (μ : Mem) : G wM X z 135 [(0, .ref (cx_ad X 0)), (1, .int v1), (2, .int v2), (3, .long v3), (5, .long v5), (9, .long v9), (11, .int v11), (12, .int v12)] [.long s0, .long s1] μ (fX11_isPicked_135 N k14 v1 v2 v3 v5 v9 v11 v12 s0 s1 μ) := by
  unfold fX11_isPicked_135
  refine G_ladd hX dX11_isPicked_135 ?_
  refine G_nml (fun x13 => ?_)
  refine G_lstore hX [(7, .long x13), (0, .ref (cx_ad X 0)), (1, .int v1), (2, .int v2), (3, .long v3), (5, .long v5), (9, .long v9), (11, .int v11), (12, .int v12)] (by decide) rfl dX11_isPicked_136 ?_
  refine G_lload hX 6 rfl dX11_isPicked_138 ?_
  refine G_iload hX 8 rfl dX11_isPicked_140 ?_
  refine G_if_eq hX 149 (by decide) dX11_isPicked_142 ?_ ?_
  · refine G_aload_n hX 1 rfl rfl dX11_isPicked_149 ?_
    refine G_iload hX 7 rfl dX11_isPicked_150 ?_
    refine G_iconst hX (5 : Int32) rfl dX11_isPicked_152 ?_
    refine G_cVi hX 0 11 (fun ad adK => [.int v11, .int (5 : Int32)]) [.long v9] (fun z2 h2 => cX11_of_ok (cx_l X) N v11 (5 : Int32) μ z2 h2) ok_X11_of lm_X11_305 atM0.1 atM0.2 rfl rfl (fun _ _ => rfl) (Nat.le_of_ble_eq_true rfl) ⟨rfl, rfl, by decide, by decide⟩ (cs0 hcs) dX11_isPicked_153 (fun r14 μ => ?_)
    refine G_i2l hX dX11_isPicked_156 ?_
    refine G_ladd hX dX11_isPicked_157 ?_
    refine G_nml (fun x15 => ?_)
    refine G_lstore hX [(9, .long x15), (7, .long x13), (0, .ref (cx_ad X 0)), (1, .int v1), (2, .int v2), (3, .long v3), (5, .long v5), (11, .int v11), (12, .int v12)] (by decide) rfl dX11_isPicked_158 ?_
    refine G_iincN hX 7 (fun x16 => [(11, .int x16), (9, .long x15), (7, .long x13), (0, .ref (cx_ad X 0)), (1, .int v1), (2, .int v2), (3, .long v3), (5, .long v5), (12, .int v12)]) rfl rfl (by decide) (fun _ => rfl) dX11_isPicked_160 (fun x16 => ?_)
    refine G_goto hX 14 (by decide) dX11_isPicked_163 ?_
    exact G_sub [3, 4, 5, 6, 7, 2, 1, 0] rfl (hk14 v1 v2 v3 v5 x13 x15 x16 μ)
  · refine G_lconst hX (0 : Int64) rfl dX11_isPicked_145 ?_
    refine G_goto hX 157 (by decide) dX11_isPicked_146 ?_
    refine G_ladd hX dX11_isPicked_157 ?_
    refine G_nml (fun x17 => ?_)
    refine G_lstore hX [(9, .long x17), (7, .long x13), (0, .ref (cx_ad X 0)), (1, .int v1), (2, .int v2), (3, .long v3), (5, .long v5), (11, .int v11), (12, .int v12)] (by decide) rfl dX11_isPicked_158 ?_
    refine G_iincN hX 7 (fun x18 => [(11, .int x18), (9, .long x17), (7, .long x13), (0, .ref (cx_ad X 0)), (1, .int v1), (2, .int v2), (3, .long v3), (5, .long v5), (12, .int v12)]) rfl rfl (by decide) (fun _ => rfl) dX11_isPicked_160 (fun x18 => ?_)
    refine G_goto hX 14 (by decide) dX11_isPicked_163 ?_
    exact G_sub [3, 4, 5, 6, 7, 2, 1, 0] rfl (hk14 v1 v2 v3 v5 x13 x17 x18 μ)
set_option maxHeartbeats 4000000 in
set_option maxRecDepth 100000 in
theorem gX11_isPicked_119 {X : Ctx} {z : Int32 × Mem} (hX : Fx wM X cX11_isPicked 15 RX11 (some .boolean) (rmo 3 67)) (hQ : Qx_i wM X z) (hcs : cx_cells X = 0 ∧ cx_slots X = 0) (N : Nat) (k14 : Int32 → Int32 → Int64 → Int64 → Int64 → Int64 → Int32 → Mem → Option (Int32 × Mem)) (hk14 : ∀ (v1 : Int32) (v2 : Int32) (v3 : Int64) (v5 : Int64) (v7 : Int64) (v9 : Int64) (v11 : Int32) (μ : Mem), G wM X z 14 [(0, .ref (cx_ad X 0)), (1, .int v1), (2, .int v2), (3, .long v3), (5, .long v5), (7, .long v7), (9, .long v9), (11, .int v11)] [] μ (k14 v1 v2 v3 v5 v7 v9 v11 μ)) (v1 : Int32) (v2 : Int32) (v3 : Int64) (v7 : Int64) (v9 : Int64) (v11 : Int32) (v12 : Int32) (v13 : Int64) (s0 : Int64) (s1 : Int64) (μ : Mem) : G wM X z 119 [(0, .ref (cx_ad X 0)), (1, .int v1), (2, .int v2), (3, .long v3), (7, .long v7), (9, .long v9), (11, .int v11), (12, .int v12), (13, .long v13)] [.long s0, .long s1] μ (fX11_isPicked_119 N k14 v1 v2 v3 v7 v9 v11 v12 v13 s0 s1 μ) := by
  unfold fX11_isPicked_119
  refine G_ladd hX dX11_isPicked_119 ?_
  refine G_nml (fun x12 => ?_)
  refine G_lstore hX [(5, .long x12), (0, .ref (cx_ad X 0)), (1, .int v1), (2, .int v2), (3, .long v3), (7, .long v7), (9, .long v9), (11, .int v11), (12, .int v12), (13, .long v13)] (by decide) rfl dX11_isPicked_120 ?_
  refine G_lload hX 5 rfl dX11_isPicked_122 ?_
  refine G_iload hX 8 rfl dX11_isPicked_124 ?_
  refine G_if_eq hX 133 (by decide) dX11_isPicked_126 ?_ ?_
  · refine G_lload hX 9 rfl dX11_isPicked_133 ?_
    exact G_sub [1, 2, 3, 4, 0, 6, 7, 8] rfl (gX11_isPicked_135 hX hQ hcs N k14 hk14 v1 v2 v3 x12 v9 v11 v12 v13 v7 μ)
  · refine G_lconst hX (0 : Int64) rfl dX11_isPicked_129 ?_
    refine G_goto hX 135 (by decide) dX11_isPicked_130 ?_
    exact G_sub [1, 2, 3, 4, 0, 6, 7, 8] rfl (gX11_isPicked_135 hX hQ hcs N k14 hk14 v1 v2 v3 x12 v9 v11 v12 (0 : Int64) v7 μ)
set_option maxHeartbeats 4000000 in
set_option maxRecDepth 100000 in
theorem gX11_isPicked_98 {X : Ctx} {z : Int32 × Mem} (hX : Fx wM X cX11_isPicked 15 RX11 (some .boolean) (rmo 3 67)) (hQ : Qx_i wM X z) (hcs : cx_cells X = 0 ∧ cx_slots X = 0) (N : Nat) (k14 : Int32 → Int32 → Int64 → Int64 → Int64 → Int64 → Int32 → Mem → Option (Int32 × Mem)) (hk14 : ∀ (v1 : Int32) (v2 : Int32) (v3 : Int64) (v5 : Int64) (v7 : Int64) (v9 : Int64) (v11 : Int32) (μ : Mem), G wM X z 14 [(0, .ref (cx_ad X 0)), (1, .int v1), (2, .int v2), (3, .long v3), (5, .long v5), (7, .long v7), (9, .long v9), (11, .int v11)] [] μ (k14 v1 v2 v3 v5 v7 v9 v11 μ)) (v1 : Int32) (v2 : Int32) (v5 : Int64) (v7 : Int64) (v9 : Int64) (v11 : Int32) (v12 : Int32) (v13 : Int64) (s0 : Int64) (s1 : Int64) (μ : Mem) : G wM X z 98 [(0, .ref (cx_ad X 0)), (1, .int v1), (2, .int v2), (5, .long v5), (7, .long v7), (9, .long v9), (11, .int v11), (12, .int v12), (13, .long v13)] [.long s0, .long s1] μ (fX11_isPicked_98 N k14 v1 v2 v5 v7 v9 v11 v12 v13 s0 s1 μ) := by
  unfold fX11_isPicked_98
  refine G_ladd hX dX11_isPicked_98 ?_
  refine G_nml (fun x10 => ?_)
  refine G_lstore_n hX [(3, .long x10), (0, .ref (cx_ad X 0)), (1, .int v1), (2, .int v2), (5, .long v5), (7, .long v7), (9, .long v9), (11, .int v11), (12, .int v12), (13, .long v13)] rfl (by decide) rfl dX11_isPicked_99 ?_
  refine G_lload hX 4 rfl dX11_isPicked_100 ?_
  refine G_iload hX 8 rfl dX11_isPicked_102 ?_
  refine G_if_eq hX 118 (by decide) dX11_isPicked_104 ?_ ?_
  · refine G_lconst hX (0 : Int64) rfl dX11_isPicked_118 ?_
    exact G_sub [1, 2, 3, 0, 5, 6, 7, 8, 9] rfl (gX11_isPicked_119 hX hQ hcs N k14 hk14 v1 v2 x10 v7 v9 v11 v12 v13 (0 : Int64) v5 μ)
  · refine G_aload_n hX 1 rfl rfl dX11_isPicked_107 ?_
    refine G_iload hX 7 rfl dX11_isPicked_108 ?_
    refine G_iconst hX (5 : Int32) rfl dX11_isPicked_110 ?_
    refine G_cVi hX 0 11 (fun ad adK => [.int v11, .int (5 : Int32)]) [.long v5] (fun z2 h2 => cX11_of_ok (cx_l X) N v11 (5 : Int32) μ z2 h2) ok_X11_of lm_X11_305 atM0.1 atM0.2 rfl rfl (fun _ _ => rfl) (Nat.le_of_ble_eq_true rfl) ⟨rfl, rfl, by decide, by decide⟩ (cs0 hcs) dX11_isPicked_111 (fun r11 μ => ?_)
    refine G_i2l hX dX11_isPicked_114 ?_
    refine G_goto hX 119 (by decide) dX11_isPicked_115 ?_
    exact G_sub [1, 2, 3, 0, 5, 6, 7, 8, 9] rfl (gX11_isPicked_119 hX hQ hcs N k14 hk14 v1 v2 x10 v7 v9 v11 v12 v13 r11.toInt64 v5 μ)
set_option maxHeartbeats 4000000 in
set_option maxRecDepth 100000 in
theorem gX11_isPicked_65 {X : Ctx} {z : Int32 × Mem} (hX : Fx wM X cX11_isPicked 15 RX11 (some .boolean) (rmo 3 67)) (hQ : Qx_i wM X z) (hcs : cx_cells X = 0 ∧ cx_slots X = 0) (N : Nat) (k14 : Int32 → Int32 → Int64 → Int64 → Int64 → Int64 → Int32 → Mem → Option (Int32 × Mem)) (hk14 : ∀ (v1 : Int32) (v2 : Int32) (v3 : Int64) (v5 : Int64) (v7 : Int64) (v9 : Int64) (v11 : Int32) (μ : Mem), G wM X z 14 [(0, .ref (cx_ad X 0)), (1, .int v1), (2, .int v2), (3, .long v3), (5, .long v5), (7, .long v7), (9, .long v9), (11, .int v11)] [] μ (k14 v1 v2 v3 v5 v7 v9 v11 μ)) (v1 : Int32) (v2 : Int32) (v3 : Int64) (v5 : Int64) (v7 : Int64) (v9 : Int64) (v11 : Int32) (s0 : Int32) (μ : Mem) : G wM X z 65 [(0, .ref (cx_ad X 0)), (1, .int v1), (2, .int v2), (3, .long v3), (5, .long v5), (7, .long v7), (9, .long v9), (11, .int v11)] [.int s0] μ (fX11_isPicked_65 N k14 v1 v2 v3 v5 v7 v9 v11 s0 μ) := by
  unfold fX11_isPicked_65
  refine G_istore hX [(12, .int s0), (0, .ref (cx_ad X 0)), (1, .int v1), (2, .int v2), (3, .long v3), (5, .long v5), (7, .long v7), (9, .long v9), (11, .int v11)] (by decide) rfl dX11_isPicked_65 ?_
  refine G_aload_n hX 1 rfl rfl dX11_isPicked_67 ?_
  refine gf_X11_69_M0 hX dX11_isPicked_68 ?_
  refine G_iload hX 8 rfl dX11_isPicked_71 ?_
  refine G_aI hX atM19 dX11_isPicked_73 (fun x7 => ?_)
  refine G_i2l hX dX11_isPicked_74 ?_
  refine G_aload_n hX 1 rfl rfl dX11_isPicked_75 ?_
  refine G_iload hX 8 rfl dX11_isPicked_76 ?_
  refine G_iconst hX (5 : Int32) rfl dX11_isPicked_78 ?_
  refine G_cVi hX 0 11 (fun ad adK => [.int v11, .int (5 : Int32)]) [.long x7.toInt64] (fun z2 h2 => cX11_of_ok (cx_l X) N v11 (5 : Int32) μ z2 h2) ok_X11_of lm_X11_305 atM0.1 atM0.2 rfl rfl (fun _ _ => rfl) (Nat.le_of_ble_eq_true rfl) ⟨rfl, rfl, by decide, by decide⟩ (cs0 hcs) dX11_isPicked_79 (fun r8 μ => ?_)
  refine G_i2l hX dX11_isPicked_82 ?_
  refine G_lmul hX dX11_isPicked_83 ?_
  refine G_nml (fun x9 => ?_)
  refine G_lstore hX [(13, .long x9), (12, .int s0), (0, .ref (cx_ad X 0)), (1, .int v1), (2, .int v2), (3, .long v3), (5, .long v5), (7, .long v7), (9, .long v9), (11, .int v11)] (by decide) rfl dX11_isPicked_84 ?_
  refine G_lload_n hX 5 rfl rfl dX11_isPicked_86 ?_
  refine G_iload hX 1 rfl dX11_isPicked_87 ?_
  refine G_if_eq hX 97 (by decide) dX11_isPicked_89 ?_ ?_
  · refine G_lconst hX (0 : Int64) rfl dX11_isPicked_97 ?_
    exact G_sub [2, 3, 4, 6, 7, 8, 9, 1, 0] rfl (gX11_isPicked_98 hX hQ hcs N k14 hk14 v1 v2 v5 v7 v9 v11 s0 x9 (0 : Int64) v3 μ)
  · refine G_lload hX 0 rfl dX11_isPicked_92 ?_
    refine G_goto hX 98 (by decide) dX11_isPicked_94 ?_
    exact G_sub [2, 3, 4, 6, 7, 8, 9, 1, 0] rfl (gX11_isPicked_98 hX hQ hcs N k14 hk14 v1 v2 v5 v7 v9 v11 s0 x9 x9 v3 μ)
set_option maxHeartbeats 4000000 in
set_option maxRecDepth 100000 in
theorem gX11_isPicked_14 {X : Ctx} {z : Int32 × Mem} (hX : Fx wM X cX11_isPicked 15 RX11 (some .boolean) (rmo 3 67)) (hQ : Qx_i wM X z) (hcs : cx_cells X = 0 ∧ cx_slots X = 0) (N : Nat) : ∀ (n : Nat) (v1 : Int32) (v2 : Int32) (v3 : Int64) (v5 : Int64) (v7 : Int64) (v9 : Int64) (v11 : Int32) (μ : Mem), G wM X z 14 [(0, .ref (cx_ad X 0)), (1, .int v1), (2, .int v2), (3, .long v3), (5, .long v5), (7, .long v7), (9, .long v9), (11, .int v11)] [] μ (fX11_isPicked_14 N n v1 v2 v3 v5 v7 v9 v11 μ) := by
  intro n
  induction n with
  | zero =>
    intro v1 v2 v3 v5 v7 v9 v11 μ
    exact G_none
  | succ n ih =>
    intro v1 v2 v3 v5 v7 v9 v11 μ
    unfold fX11_isPicked_14
    refine G_iload hX 7 rfl dX11_isPicked_14 ?_
    refine G_aload_n hX 0 rfl rfl dX11_isPicked_16 ?_
    refine gf_X11_7_M0 hX dX11_isPicked_17 ?_
    refine G_bipush hX (34 : Int32) rfl dX11_isPicked_20 ?_
    refine G_aI hX atM1 dX11_isPicked_22 (fun x1 => ?_)
    refine G_icmp_ge hX 166 (by decide) dX11_isPicked_23 ?_ ?_
    · exact G_sub [3, 4, 5, 6] rfl (gX11_isPicked_166 hX hQ hcs N v3 v5 v7 v9 μ)
    · refine G_aload_n hX 0 rfl rfl dX11_isPicked_26 ?_
      refine G_iload hX 7 rfl dX11_isPicked_27 ?_
      refine G_cVi hX 0 11 (fun ad adK => [.int v11]) [] (fun z2 h2 => cX11_isExport_ok (cx_l X) N v11 μ z2 h2) ok_X11_isExport lm_X11_425 atM0.1 atM0.2 rfl rfl (fun _ _ => rfl) (Nat.le_of_ble_eq_true rfl) ⟨rfl, rfl, by decide, by decide⟩ (cs0 hcs) dX11_isPicked_29 (fun r2 μ => ?_)
      refine G_if_eq hX 160 (by decide) dX11_isPicked_32 ?_ ?_
      · refine G_iincN hX 7 (fun x3 => [(11, .int x3), (0, .ref (cx_ad X 0)), (1, .int v1), (2, .int v2), (3, .long v3), (5, .long v5), (7, .long v7), (9, .long v9)]) rfl rfl (by decide) (fun _ => rfl) dX11_isPicked_160 (fun x3 => ?_)
        refine G_goto hX 14 (by decide) dX11_isPicked_163 ?_
        exact G_sub [1, 2, 3, 4, 5, 6, 7, 0] rfl (ih v1 v2 v3 v5 v7 v9 x3 μ)
      · refine G_aload_n hX 0 rfl rfl dX11_isPicked_35 ?_
        refine G_iload hX 7 rfl dX11_isPicked_36 ?_
        refine G_iconst hX (1 : Int32) rfl dX11_isPicked_38 ?_
        refine G_cVi hX 0 11 (fun ad adK => [.int v11, .int (1 : Int32)]) [] (fun z2 h2 => cX11_of_ok (cx_l X) N v11 (1 : Int32) μ z2 h2) ok_X11_of lm_X11_305 atM0.1 atM0.2 rfl rfl (fun _ _ => rfl) (Nat.le_of_ble_eq_true rfl) ⟨rfl, rfl, by decide, by decide⟩ (cs0 hcs) dX11_isPicked_39 (fun r4 μ => ?_)
        refine G_iload_n hX 1 rfl rfl dX11_isPicked_42 ?_
        refine G_icmp_eq hX 49 (by decide) dX11_isPicked_43 ?_ ?_
        · refine G_aload_n hX 0 rfl rfl dX11_isPicked_49 ?_
          refine G_iload hX 7 rfl dX11_isPicked_50 ?_
          refine G_iconst hX (4 : Int32) rfl dX11_isPicked_52 ?_
          refine G_cVi hX 0 11 (fun ad adK => [.int v11, .int (4 : Int32)]) [] (fun z2 h2 => cX11_of_ok (cx_l X) N v11 (4 : Int32) μ z2 h2) ok_X11_of lm_X11_305 atM0.1 atM0.2 rfl rfl (fun _ _ => rfl) (Nat.le_of_ble_eq_true rfl) ⟨rfl, rfl, by decide, by decide⟩ (cs0 hcs) dX11_isPicked_53 (fun r5 μ => ?_)
          refine G_iload_n hX 2 rfl rfl dX11_isPicked_56 ?_
          refine G_icmp_ne hX 64 (by decide) dX11_isPicked_57 ?_ ?_
          · refine G_iconst hX (0 : Int32) rfl dX11_isPicked_64 ?_
            exact G_sub [0, 1, 2, 3, 4, 5, 6, 7] rfl (gX11_isPicked_65 hX hQ hcs N (fun v1 v2 v3 v5 v7 v9 v11 μ => fX11_isPicked_14 N n v1 v2 v3 v5 v7 v9 v11 μ) (fun v1 v2 v3 v5 v7 v9 v11  μ => ih v1 v2 v3 v5 v7 v9 v11  μ) v1 v2 v3 v5 v7 v9 v11 (0 : Int32) μ)
          · refine G_iconst hX (1 : Int32) rfl dX11_isPicked_60 ?_
            refine G_goto hX 65 (by decide) dX11_isPicked_61 ?_
            exact G_sub [0, 1, 2, 3, 4, 5, 6, 7] rfl (gX11_isPicked_65 hX hQ hcs N (fun v1 v2 v3 v5 v7 v9 v11 μ => fX11_isPicked_14 N n v1 v2 v3 v5 v7 v9 v11 μ) (fun v1 v2 v3 v5 v7 v9 v11  μ => ih v1 v2 v3 v5 v7 v9 v11  μ) v1 v2 v3 v5 v7 v9 v11 (1 : Int32) μ)
        · refine G_goto hX 160 (by decide) dX11_isPicked_46 ?_
          refine G_iincN hX 7 (fun x6 => [(11, .int x6), (0, .ref (cx_ad X 0)), (1, .int v1), (2, .int v2), (3, .long v3), (5, .long v5), (7, .long v7), (9, .long v9)]) rfl rfl (by decide) (fun _ => rfl) dX11_isPicked_160 (fun x6 => ?_)
          refine G_goto hX 14 (by decide) dX11_isPicked_163 ?_
          exact G_sub [1, 2, 3, 4, 5, 6, 7, 0] rfl (ih v1 v2 v3 v5 v7 v9 x6 μ)
set_option maxHeartbeats 4000000 in
set_option maxRecDepth 100000 in
theorem gX11_isPicked_E {X : Ctx} {z : Int32 × Mem} (hX : Fx wM X cX11_isPicked 15 RX11 (some .boolean) (rmo 3 67)) (hQ : Qx_i wM X z) (hcs : cx_cells X = 0 ∧ cx_slots X = 0) (N : Nat) (p0 : Int32) (p1 : Int32) (μ : Mem) : G wM X z 0 [(0, .ref (cx_ad X 0)), (1, .int p0), (2, .int p1)] [] μ (fX11_isPicked N p0 p1 μ) := by
  unfold fX11_isPicked
  refine G_lconst hX (0 : Int64) rfl dX11_isPicked_0 ?_
  refine G_lstore_n hX [(3, .long (0 : Int64)), (0, .ref (cx_ad X 0)), (1, .int p0), (2, .int p1)] rfl (by decide) rfl dX11_isPicked_1 ?_
  refine G_lconst hX (0 : Int64) rfl dX11_isPicked_2 ?_
  refine G_lstore hX [(5, .long (0 : Int64)), (3, .long (0 : Int64)), (0, .ref (cx_ad X 0)), (1, .int p0), (2, .int p1)] (by decide) rfl dX11_isPicked_3 ?_
  refine G_lconst hX (0 : Int64) rfl dX11_isPicked_5 ?_
  refine G_lstore hX [(7, .long (0 : Int64)), (5, .long (0 : Int64)), (3, .long (0 : Int64)), (0, .ref (cx_ad X 0)), (1, .int p0), (2, .int p1)] (by decide) rfl dX11_isPicked_6 ?_
  refine G_lconst hX (0 : Int64) rfl dX11_isPicked_8 ?_
  refine G_lstore hX [(9, .long (0 : Int64)), (7, .long (0 : Int64)), (5, .long (0 : Int64)), (3, .long (0 : Int64)), (0, .ref (cx_ad X 0)), (1, .int p0), (2, .int p1)] (by decide) rfl dX11_isPicked_9 ?_
  refine G_iconst hX (0 : Int32) rfl dX11_isPicked_11 ?_
  refine G_istore hX [(11, .int (0 : Int32)), (9, .long (0 : Int64)), (7, .long (0 : Int64)), (5, .long (0 : Int64)), (3, .long (0 : Int64)), (0, .ref (cx_ad X 0)), (1, .int p0), (2, .int p1)] (by decide) rfl dX11_isPicked_12 ?_
  exact G_sub [5, 6, 7, 4, 3, 2, 1, 0] rfl (gX11_isPicked_14 hX hQ hcs N N p0 p1 (0 : Int64) (0 : Int64) (0 : Int64) (0 : Int64) (0 : Int32) μ)
theorem cX11_isPicked_ok (l : Launch) (N : Nat) (p0 : Int32) (p1 : Int32) (μ : Mem) (z : Int32 × Mem) (h : fX11_isPicked N p0 p1 μ = some z) : Mi wM l yX11_isPicked cX11_isPicked 15 .boolean (rmo 3 67) (fun ad adK => [.ref (ad 0), .int p0, .int p1]) μ z := Mi.of h (by decide +kernel) (fun _ _ => Nat.le_of_ble_eq_true rfl) (fun X hX hQ hl hcs => gX11_isPicked_E hX hQ hcs N p0 p1 μ)
/-! ===== DutyCaseModel.picked(I)I ===== -/
set_option maxHeartbeats 4000000 in
set_option maxRecDepth 100000 in
theorem gX11_picked_34 {X : Ctx} {z : Int32 × Mem} (hX : Fx wM X cX11_picked 4 RX11 (some .int) (rmo 6 138)) (hQ : Qx_i wM X z) (hcs : cx_cells X = 0 ∧ cx_slots X = 0) (N : Nat) : ∀ (n : Nat) (v1 : Int32) (v2 : Int32) (v3 : Int32) (μ : Mem), G wM X z 34 [(0, .ref (cx_ad X 0)), (1, .int v1), (2, .int v2), (3, .int v3)] [] μ (fX11_picked_34 N n v1 v2 v3 μ) := by
  intro n
  induction n with
  | zero =>
    intro v1 v2 v3 μ
    exact G_none
  | succ n ih =>
    intro v1 v2 v3 μ
    unfold fX11_picked_34
    refine G_iload_n hX 3 rfl rfl dX11_picked_34 ?_
    refine G_bipush hX (12 : Int32) rfl dX11_picked_35 ?_
    refine G_icmp_ge hX 65 (by decide) dX11_picked_37 ?_ ?_
    · refine G_iload_n hX 2 rfl rfl dX11_picked_65 ?_
      exact G_iret hX hQ dX11_picked_66
    · refine G_iload_n hX 2 rfl rfl dX11_picked_40 ?_
      refine G_aload_n hX 0 rfl rfl dX11_picked_41 ?_
      refine G_iload_n hX 1 rfl rfl dX11_picked_42 ?_
      refine G_iload_n hX 3 rfl rfl dX11_picked_43 ?_
      refine G_cVi hX 0 11 (fun ad adK => [.int v1, .int v3]) [.int v2] (fun z2 h2 => cX11_isPicked_ok (cx_l X) N v1 v3 μ z2 h2) ok_X11_isPicked lm_X11_509 atM0.1 atM0.2 rfl rfl (fun _ _ => rfl) (Nat.le_of_ble_eq_true rfl) ⟨rfl, rfl, by decide, by decide⟩ (cs0 hcs) dX11_picked_44 (fun r3 μ => ?_)
      refine G_if_eq hX 56 (by decide) dX11_picked_47 ?_ ?_
      · refine G_iconst hX (0 : Int32) rfl dX11_picked_56 ?_
        refine G_ior hX dX11_picked_57 ?_
        refine G_nmi (fun x4 => ?_)
        refine G_istore_n hX [(2, .int x4), (0, .ref (cx_ad X 0)), (1, .int v1), (3, .int v3)] rfl (by decide) rfl dX11_picked_58 ?_
        refine G_iincN hX 3 (fun x5 => [(3, .int x5), (2, .int x4), (0, .ref (cx_ad X 0)), (1, .int v1)]) rfl rfl (by decide) (fun _ => rfl) dX11_picked_59 (fun x5 => ?_)
        refine G_goto hX 34 (by decide) dX11_picked_62 ?_
        exact G_sub [2, 3, 1, 0] rfl (ih v1 x4 x5 μ)
      · refine G_iconst hX (1 : Int32) rfl dX11_picked_50 ?_
        refine G_iload_n hX 3 rfl rfl dX11_picked_51 ?_
        refine G_ishl hX dX11_picked_52 ?_
        refine G_goto hX 57 (by decide) dX11_picked_53 ?_
        refine G_ior hX dX11_picked_57 ?_
        refine G_nmi (fun x6 => ?_)
        refine G_istore_n hX [(2, .int x6), (0, .ref (cx_ad X 0)), (1, .int v1), (3, .int v3)] rfl (by decide) rfl dX11_picked_58 ?_
        refine G_iincN hX 3 (fun x7 => [(3, .int x7), (2, .int x6), (0, .ref (cx_ad X 0)), (1, .int v1)]) rfl rfl (by decide) (fun _ => rfl) dX11_picked_59 (fun x7 => ?_)
        refine G_goto hX 34 (by decide) dX11_picked_62 ?_
        exact G_sub [2, 3, 1, 0] rfl (ih v1 x6 x7 μ)
set_option maxHeartbeats 4000000 in
set_option maxRecDepth 100000 in
theorem gX11_picked_14 {X : Ctx} {z : Int32 × Mem} (hX : Fx wM X cX11_picked 4 RX11 (some .int) (rmo 6 138)) (hQ : Qx_i wM X z) (hcs : cx_cells X = 0 ∧ cx_slots X = 0) (N : Nat) (v1 : Int32) (s0 : Int32) (μ : Mem) : G wM X z 14 [(0, .ref (cx_ad X 0)), (1, .int v1)] [.int s0, .ref (cx_ad X 0)] μ (fX11_picked_14 N v1 s0 μ) := by
  unfold fX11_picked_14
  refine pf_X11_104_M0 hX dX11_picked_14 (fun μ => ?_)
  refine G_aload_n hX 0 rfl rfl dX11_picked_17 ?_
  refine gf_X11_104_M0 hX dX11_picked_18 ?_
  refine G_nmi (fun x2 => ?_)
  refine G_if_le hX 26 (by decide) dX11_picked_21 ?_ ?_
  · refine G_aload_n hX 0 rfl rfl dX11_picked_26 ?_
    refine G_cVv hX 0 11 (fun ad adK => []) [] (fun z2 h2 => cX11_lays_ok (cx_l X) N μ z2 h2) ok_X11_lays lm_X11_367 atM0.1 atM0.2 rfl rfl (fun _ _ => rfl) (Nat.le_of_ble_eq_true rfl) ⟨rfl, rfl, by decide, by decide⟩ (cs0 hcs) dX11_picked_27 (fun μ => ?_)
    refine G_iconst hX (0 : Int32) rfl dX11_picked_30 ?_
    refine G_istore_n hX [(2, .int (0 : Int32)), (0, .ref (cx_ad X 0)), (1, .int v1)] rfl (by decide) rfl dX11_picked_31 ?_
    refine G_iconst hX (0 : Int32) rfl dX11_picked_32 ?_
    refine G_istore_n hX [(3, .int (0 : Int32)), (2, .int (0 : Int32)), (0, .ref (cx_ad X 0)), (1, .int v1)] rfl (by decide) rfl dX11_picked_33 ?_
    exact G_sub [2, 3, 1, 0] rfl (gX11_picked_34 hX hQ hcs N N v1 (0 : Int32) (0 : Int32) μ)
  · refine G_iconst hX (0 : Int32) rfl dX11_picked_24 ?_
    exact G_iret hX hQ dX11_picked_25
set_option maxHeartbeats 4000000 in
set_option maxRecDepth 100000 in
theorem gX11_picked_E {X : Ctx} {z : Int32 × Mem} (hX : Fx wM X cX11_picked 4 RX11 (some .int) (rmo 6 138)) (hQ : Qx_i wM X z) (hcs : cx_cells X = 0 ∧ cx_slots X = 0) (N : Nat) (p0 : Int32) (μ : Mem) : G wM X z 0 [(0, .ref (cx_ad X 0)), (1, .int p0)] [] μ (fX11_picked N p0 μ) := by
  unfold fX11_picked
  refine G_aload_n hX 0 rfl rfl dX11_picked_0 ?_
  refine G_aload_n hX 0 rfl rfl dX11_picked_1 ?_
  refine G_iload_n hX 1 rfl rfl dX11_picked_2 ?_
  refine G_cVi hX 0 11 (fun ad adK => [.int p0]) [.ref (cx_ad X 0)] (fun z2 h2 => cX11_isFirm_ok (cx_l X) N p0 μ z2 h2) ok_X11_isFirm lm_X11_311 atM0.1 atM0.2 rfl rfl (fun _ _ => rfl) (Nat.le_of_ble_eq_true rfl) ⟨rfl, rfl, by decide, by decide⟩ (cs0 hcs) dX11_picked_3 (fun r1 μ => ?_)
  refine G_if_eq hX 13 (by decide) dX11_picked_6 ?_ ?_
  · refine G_iconst hX (1 : Int32) rfl dX11_picked_13 ?_
    exact G_sub [0, 1] rfl (gX11_picked_14 hX hQ hcs N p0 (1 : Int32) μ)
  · refine G_iconst hX (0 : Int32) rfl dX11_picked_9 ?_
    refine G_goto hX 14 (by decide) dX11_picked_10 ?_
    exact G_sub [0, 1] rfl (gX11_picked_14 hX hQ hcs N p0 (0 : Int32) μ)
theorem cX11_picked_ok (l : Launch) (N : Nat) (p0 : Int32) (μ : Mem) (z : Int32 × Mem) (h : fX11_picked N p0 μ = some z) : Mi wM l yX11_picked cX11_picked 4 .int (rmo 6 138) (fun ad adK => [.ref (ad 0), .int p0]) μ z := Mi.of h (by decide +kernel) (fun _ _ => Nat.le_of_ble_eq_true rfl) (fun X hX hQ hl hcs => gX11_picked_E hX hQ hcs N p0 μ)
/-! ===== DutyCaseModel.depositOf(I)J ===== -/
set_option maxHeartbeats 4000000 in
set_option maxRecDepth 100000 in
theorem gX11_depositOf_E {X : Ctx} {z : Int64 × Mem} (hX : Fx wM X cX11_depositOf 2 RX11 (some .long) (rmo 15 354)) (hQ : Qx_l wM X z) (hcs : cx_cells X = 0 ∧ cx_slots X = 0) (N : Nat) (p0 : Int32) (μ : Mem) : G wM X z 0 [(0, .ref (cx_ad X 0)), (1, .int p0)] [] μ (fX11_depositOf N p0 μ) := by
  unfold fX11_depositOf
  refine G_aload_n hX 0 rfl rfl dX11_depositOf_0 ?_
  refine G_cVv hX 0 11 (fun ad adK => []) [] (fun z2 h2 => cX11_lays_ok (cx_l X) N μ z2 h2) ok_X11_lays lm_X11_367 atM0.1 atM0.2 rfl rfl (fun _ _ => rfl) (Nat.le_of_ble_eq_true rfl) ⟨rfl, rfl, by decide, by decide⟩ (cs0 hcs) dX11_depositOf_1 (fun μ => ?_)
  refine G_aload_n hX 0 rfl rfl dX11_depositOf_4 ?_
  refine G_aload_n hX 0 rfl rfl dX11_depositOf_5 ?_
  refine G_iload_n hX 1 rfl rfl dX11_depositOf_6 ?_
  refine G_iconst hX (1 : Int32) rfl dX11_depositOf_7 ?_
  refine G_cVi hX 0 11 (fun ad adK => [.int p0, .int (1 : Int32)]) [.ref (cx_ad X 0)] (fun z2 h2 => cX11_of_ok (cx_l X) N p0 (1 : Int32) μ z2 h2) ok_X11_of lm_X11_305 atM0.1 atM0.2 rfl rfl (fun _ _ => rfl) (Nat.le_of_ble_eq_true rfl) ⟨rfl, rfl, by decide, by decide⟩ (cs0 hcs) dX11_depositOf_8 (fun r1 μ => ?_)
  refine G_cVi hX 0 11 (fun ad adK => [.int r1]) [] (fun z2 h2 => cX11_rateOf_ok (cx_l X) N r1 μ z2 h2) ok_X11_rateOf lm_X11_497 atM0.1 atM0.2 rfl rfl (fun _ _ => rfl) (Nat.le_of_ble_eq_true rfl) ⟨rfl, rfl, by decide, by decide⟩ (cs0 hcs) dX11_depositOf_11 (fun r2 μ => ?_)
  refine G_i2l hX dX11_depositOf_14 ?_
  refine G_aload_n hX 0 rfl rfl dX11_depositOf_15 ?_
  refine gf_X11_69_M0 hX dX11_depositOf_16 ?_
  refine G_iload_n hX 1 rfl rfl dX11_depositOf_19 ?_
  refine G_aI hX atM19 dX11_depositOf_20 (fun x3 => ?_)
  refine G_i2l hX dX11_depositOf_21 ?_
  refine G_lmul hX dX11_depositOf_22 ?_
  refine G_aload_n hX 0 rfl rfl dX11_depositOf_23 ?_
  refine G_iload_n hX 1 rfl rfl dX11_depositOf_24 ?_
  refine G_iconst hX (5 : Int32) rfl dX11_depositOf_25 ?_
  refine G_cVi hX 0 11 (fun ad adK => [.int p0, .int (5 : Int32)]) [.long (r2.toInt64 * x3.toInt64)] (fun z2 h2 => cX11_of_ok (cx_l X) N p0 (5 : Int32) μ z2 h2) ok_X11_of lm_X11_305 atM0.1 atM0.2 rfl rfl (fun _ _ => rfl) (Nat.le_of_ble_eq_true rfl) ⟨rfl, rfl, by decide, by decide⟩ (cs0 hcs) dX11_depositOf_26 (fun r4 μ => ?_)
  refine G_i2l hX dX11_depositOf_29 ?_
  refine G_lmul hX dX11_depositOf_30 ?_
  refine G_ldc2 hX lc_X11_365 dX11_depositOf_31 ?_
  refine G_ldiv0 hX (by decide) dX11_depositOf_34 ?_
  exact G_lret hX hQ dX11_depositOf_35
theorem cX11_depositOf_ok (l : Launch) (N : Nat) (p0 : Int32) (μ : Mem) (z : Int64 × Mem) (h : fX11_depositOf N p0 μ = some z) : Ml wM l yX11_depositOf cX11_depositOf 2 .long (rmo 15 354) (fun ad adK => [.ref (ad 0), .int p0]) μ z := Ml.of h (by decide +kernel) (fun _ _ => Nat.le_of_ble_eq_true rfl) (fun X hX hQ hl hcs => gX11_depositOf_E hX hQ hcs N p0 μ)
/-! ===== DutyCaseModel.owedOf(I)J ===== -/
set_option maxHeartbeats 4000000 in
set_option maxRecDepth 100000 in
theorem gX11_owedOf_18 {X : Ctx} {z : Int64 × Mem} (hX : Fx wM X cX11_owedOf 4 RX11 (some .long) (rmo 9 215)) (hQ : Qx_l wM X z) (hcs : cx_cells X = 0 ∧ cx_slots X = 0) (N : Nat) (s0 : Int32) (s1 : Int32) (μ : Mem) : G wM X z 18 [] [.int s0, .int s1, .ref (cx_ad X 0)] μ (fX11_owedOf_18 N s0 s1 μ) := by
  unfold fX11_owedOf_18
  refine G_cVl hX 0 11 (fun ad adK => [.int s1, .int s0]) [] (fun z2 h2 => cX11_differenceOf_ok (cx_l X) N s1 s0 μ z2 h2) ok_X11_differenceOf lm_X11_434 atM0.1 atM0.2 rfl rfl (fun _ _ => rfl) (Nat.le_of_ble_eq_true rfl) ⟨rfl, rfl, by decide, by decide⟩ (cs0 hcs) dX11_owedOf_18 (fun r2 μ => ?_)
  refine G_lstore_n hX [(2, .long r2)] rfl (by decide) rfl dX11_owedOf_21 ?_
  refine G_lload_n hX 0 rfl rfl dX11_owedOf_22 ?_
  refine G_lconst hX (0 : Int64) rfl dX11_owedOf_23 ?_
  refine G_lcmp hX dX11_owedOf_24 ?_
  refine G_if_ge hX 32 (by decide) dX11_owedOf_25 ?_ ?_
  · refine G_lload_n hX 0 rfl rfl dX11_owedOf_32 ?_
    exact G_lret hX hQ dX11_owedOf_33
  · refine G_lconst hX (0 : Int64) rfl dX11_owedOf_28 ?_
    refine G_goto hX 33 (by decide) dX11_owedOf_29 ?_
    exact G_lret hX hQ dX11_owedOf_33
set_option maxHeartbeats 4000000 in
set_option maxRecDepth 100000 in
theorem gX11_owedOf_E {X : Ctx} {z : Int64 × Mem} (hX : Fx wM X cX11_owedOf 4 RX11 (some .long) (rmo 9 215)) (hQ : Qx_l wM X z) (hcs : cx_cells X = 0 ∧ cx_slots X = 0) (N : Nat) (p0 : Int32) (μ : Mem) : G wM X z 0 [(0, .ref (cx_ad X 0)), (1, .int p0)] [] μ (fX11_owedOf N p0 μ) := by
  unfold fX11_owedOf
  refine G_aload_n hX 0 rfl rfl dX11_owedOf_0 ?_
  refine G_iload_n hX 1 rfl rfl dX11_owedOf_1 ?_
  refine G_aload_n hX 0 rfl rfl dX11_owedOf_2 ?_
  refine gf_X11_7_M0 hX dX11_owedOf_3 ?_
  refine G_bipush hX (28 : Int32) rfl dX11_owedOf_6 ?_
  refine G_aI hX atM1 dX11_owedOf_8 (fun x1 => ?_)
  refine G_iconst hX (2 : Int32) rfl dX11_owedOf_9 ?_
  refine G_icmp_ne hX 17 (by decide) dX11_owedOf_10 ?_ ?_
  · refine G_iconst hX (1 : Int32) rfl dX11_owedOf_17 ?_
    exact G_sub [] rfl (gX11_owedOf_18 hX hQ hcs N (1 : Int32) p0 μ)
  · refine G_iconst hX (2 : Int32) rfl dX11_owedOf_13 ?_
    refine G_goto hX 18 (by decide) dX11_owedOf_14 ?_
    exact G_sub [] rfl (gX11_owedOf_18 hX hQ hcs N (2 : Int32) p0 μ)
theorem cX11_owedOf_ok (l : Launch) (N : Nat) (p0 : Int32) (μ : Mem) (z : Int64 × Mem) (h : fX11_owedOf N p0 μ = some z) : Ml wM l yX11_owedOf cX11_owedOf 4 .long (rmo 9 215) (fun ad adK => [.ref (ad 0), .int p0]) μ z := Ml.of h (by decide +kernel) (fun _ _ => Nat.le_of_ble_eq_true rfl) (fun X hX hQ hl hcs => gX11_owedOf_E hX hQ hcs N p0 μ)
/-! ===== DutyCaseModel.collected(IZ)J ===== -/
set_option maxHeartbeats 4000000 in
set_option maxRecDepth 100000 in
theorem gX11_collected_26 {X : Ctx} {z : Int64 × Mem} (hX : Fx wM X cX11_collected 3 RX11 (some .long) (rmo 16 375)) (hQ : Qx_l wM X z) (hcs : cx_cells X = 0 ∧ cx_slots X = 0) (N : Nat) (v1 : Int32) (v2 : Int32) (s0 : Int32) (μ : Mem) : G wM X z 26 [(0, .ref (cx_ad X 0)), (1, .int v1), (2, .int v2)] [.int s0, .ref (cx_ad X 0)] μ (fX11_collected_26 N v1 v2 s0 μ) := by
  unfold fX11_collected_26
  refine pf_X11_104_M0 hX dX11_collected_26 (fun μ => ?_)
  refine G_aload_n hX 0 rfl rfl dX11_collected_29 ?_
  refine gf_X11_104_M0 hX dX11_collected_30 ?_
  refine G_nmi (fun x3 => ?_)
  refine G_if_le hX 40 (by decide) dX11_collected_33 ?_ ?_
  · refine G_iload_n hX 2 rfl rfl dX11_collected_40 ?_
    refine G_if_eq hX 52 (by decide) dX11_collected_41 ?_ ?_
    · refine G_aload_n hX 0 rfl rfl dX11_collected_52 ?_
      refine G_iload_n hX 1 rfl rfl dX11_collected_53 ?_
      refine G_cVl hX 0 11 (fun ad adK => [.int v1]) [] (fun z2 h2 => cX11_depositOf_ok (cx_l X) N v1 μ z2 h2) ok_X11_depositOf lm_X11_520 atM0.1 atM0.2 rfl rfl (fun _ _ => rfl) (Nat.le_of_ble_eq_true rfl) ⟨rfl, rfl, by decide, by decide⟩ (cs0 hcs) dX11_collected_54 (fun r4 μ => ?_)
      exact G_lret hX hQ dX11_collected_57
    · refine G_aload_n hX 0 rfl rfl dX11_collected_44 ?_
      refine G_iload_n hX 1 rfl rfl dX11_collected_45 ?_
      refine G_cVl hX 0 11 (fun ad adK => [.int v1]) [] (fun z2 h2 => cX11_owedOf_ok (cx_l X) N v1 μ z2 h2) ok_X11_owedOf lm_X11_516 atM0.1 atM0.2 rfl rfl (fun _ _ => rfl) (Nat.le_of_ble_eq_true rfl) ⟨rfl, rfl, by decide, by decide⟩ (cs0 hcs) dX11_collected_46 (fun r5 μ => ?_)
      refine G_goto hX 57 (by decide) dX11_collected_49 ?_
      exact G_lret hX hQ dX11_collected_57
  · refine G_lconst hX (0 : Int64) rfl dX11_collected_36 ?_
    refine G_goto hX 57 (by decide) dX11_collected_37 ?_
    exact G_lret hX hQ dX11_collected_57
set_option maxHeartbeats 4000000 in
set_option maxRecDepth 100000 in
theorem gX11_collected_E {X : Ctx} {z : Int64 × Mem} (hX : Fx wM X cX11_collected 3 RX11 (some .long) (rmo 16 375)) (hQ : Qx_l wM X z) (hcs : cx_cells X = 0 ∧ cx_slots X = 0) (N : Nat) (p0 : Int32) (p1 : Int32) (μ : Mem) : G wM X z 0 [(0, .ref (cx_ad X 0)), (1, .int p0), (2, .int p1)] [] μ (fX11_collected N p0 p1 μ) := by
  unfold fX11_collected
  refine G_aload_n hX 0 rfl rfl dX11_collected_0 ?_
  refine G_aload_n hX 0 rfl rfl dX11_collected_1 ?_
  refine G_iload_n hX 1 rfl rfl dX11_collected_2 ?_
  refine G_cVi hX 0 11 (fun ad adK => [.int p0]) [.ref (cx_ad X 0)] (fun z2 h2 => cX11_isSale_ok (cx_l X) N p0 μ z2 h2) ok_X11_isSale lm_X11_341 atM0.1 atM0.2 rfl rfl (fun _ _ => rfl) (Nat.le_of_ble_eq_true rfl) ⟨rfl, rfl, by decide, by decide⟩ (cs0 hcs) dX11_collected_3 (fun r1 μ => ?_)
  refine G_if_ne hX 13 (by decide) dX11_collected_6 ?_ ?_
  · refine G_aload_n hX 0 rfl rfl dX11_collected_13 ?_
    refine G_iload_n hX 1 rfl rfl dX11_collected_14 ?_
    refine G_cVi hX 0 11 (fun ad adK => [.int p0]) [.ref (cx_ad X 0)] (fun z2 h2 => cX11_isExport_ok (cx_l X) N p0 μ z2 h2) ok_X11_isExport lm_X11_425 atM0.1 atM0.2 rfl rfl (fun _ _ => rfl) (Nat.le_of_ble_eq_true rfl) ⟨rfl, rfl, by decide, by decide⟩ (cs0 hcs) dX11_collected_15 (fun r2 μ => ?_)
    refine G_if_eq hX 25 (by decide) dX11_collected_18 ?_ ?_
    · refine G_iconst hX (2 : Int32) rfl dX11_collected_25 ?_
      exact G_sub [0, 1, 2] rfl (gX11_collected_26 hX hQ hcs N p0 p1 (2 : Int32) μ)
    · refine G_iconst hX (0 : Int32) rfl dX11_collected_21 ?_
      refine G_goto hX 26 (by decide) dX11_collected_22 ?_
      exact G_sub [0, 1, 2] rfl (gX11_collected_26 hX hQ hcs N p0 p1 (0 : Int32) μ)
  · refine G_iconst hX (1 : Int32) rfl dX11_collected_9 ?_
    refine G_goto hX 26 (by decide) dX11_collected_10 ?_
    exact G_sub [0, 1, 2] rfl (gX11_collected_26 hX hQ hcs N p0 p1 (1 : Int32) μ)
theorem cX11_collected_ok (l : Launch) (N : Nat) (p0 : Int32) (p1 : Int32) (μ : Mem) (z : Int64 × Mem) (h : fX11_collected N p0 p1 μ = some z) : Ml wM l yX11_collected cX11_collected 3 .long (rmo 16 375) (fun ad adK => [.ref (ad 0), .int p0, .int p1]) μ z := Ml.of h (by decide +kernel) (fun _ _ => Nat.le_of_ble_eq_true rfl) (fun X hX hQ hl hcs => gX11_collected_E hX hQ hcs N p0 p1 μ)
/-! ===== DutyCaseModel.back(I)J ===== -/
set_option maxHeartbeats 4000000 in
set_option maxRecDepth 100000 in
theorem gX11_back_31 {X : Ctx} {z : Int64 × Mem} (hX : Fx wM X cX11_back 5 RX11 (some .long) (rmo 16 375)) (hQ : Qx_l wM X z) (hcs : cx_cells X = 0 ∧ cx_slots X = 0) (N : Nat) : ∀ (n : Nat) (v1 : Int32) (v2 : Int64) (v4 : Int32) (μ : Mem), G wM X z 31 [(0, .ref (cx_ad X 0)), (1, .int v1), (2, .long v2), (4, .int v4)] [] μ (fX11_back_31 N n v1 v2 v4 μ) := by
  intro n
  induction n with
  | zero =>
    intro v1 v2 v4 μ
    exact G_none
  | succ n ih =>
    intro v1 v2 v4 μ
    unfold fX11_back_31
    refine G_iload hX 3 rfl dX11_back_31 ?_
    refine G_aload_n hX 0 rfl rfl dX11_back_33 ?_
    refine gf_X11_7_M0 hX dX11_back_34 ?_
    refine G_bipush hX (34 : Int32) rfl dX11_back_37 ?_
    refine G_aI hX atM1 dX11_back_39 (fun x3 => ?_)
    refine G_icmp_ge hX 89 (by decide) dX11_back_40 ?_ ?_
    · refine G_lload_n hX 2 rfl rfl dX11_back_89 ?_
      exact G_lret hX hQ dX11_back_90
    · refine G_lload_n hX 2 rfl rfl dX11_back_43 ?_
      refine G_aload_n hX 0 rfl rfl dX11_back_44 ?_
      refine G_iload hX 3 rfl dX11_back_45 ?_
      refine G_cVi hX 0 11 (fun ad adK => [.int v4]) [.long v2] (fun z2 h2 => cX11_isExport_ok (cx_l X) N v4 μ z2 h2) ok_X11_isExport lm_X11_425 atM0.1 atM0.2 rfl rfl (fun _ _ => rfl) (Nat.le_of_ble_eq_true rfl) ⟨rfl, rfl, by decide, by decide⟩ (cs0 hcs) dX11_back_47 (fun r4 μ => ?_)
      refine G_if_eq hX 80 (by decide) dX11_back_50 ?_ ?_
      · refine G_lconst hX (0 : Int64) rfl dX11_back_80 ?_
        refine G_ladd hX dX11_back_81 ?_
        refine G_nml (fun x5 => ?_)
        refine G_lstore_n hX [(2, .long x5), (0, .ref (cx_ad X 0)), (1, .int v1), (4, .int v4)] rfl (by decide) rfl dX11_back_82 ?_
        refine G_iincN hX 3 (fun x6 => [(4, .int x6), (2, .long x5), (0, .ref (cx_ad X 0)), (1, .int v1)]) rfl rfl (by decide) (fun _ => rfl) dX11_back_83 (fun x6 => ?_)
        refine G_goto hX 31 (by decide) dX11_back_86 ?_
        exact G_sub [2, 3, 1, 0] rfl (ih v1 x5 x6 μ)
      · refine G_aload_n hX 0 rfl rfl dX11_back_53 ?_
        refine G_iload hX 3 rfl dX11_back_54 ?_
        refine G_iconst hX (1 : Int32) rfl dX11_back_56 ?_
        refine G_cVi hX 0 11 (fun ad adK => [.int v4, .int (1 : Int32)]) [.long v2] (fun z2 h2 => cX11_of_ok (cx_l X) N v4 (1 : Int32) μ z2 h2) ok_X11_of lm_X11_305 atM0.1 atM0.2 rfl rfl (fun _ _ => rfl) (Nat.le_of_ble_eq_true rfl) ⟨rfl, rfl, by decide, by decide⟩ (cs0 hcs) dX11_back_57 (fun r7 μ => ?_)
        refine G_iload_n hX 1 rfl rfl dX11_back_60 ?_
        refine G_icmp_ne hX 80 (by decide) dX11_back_61 ?_ ?_
        · refine G_lconst hX (0 : Int64) rfl dX11_back_80 ?_
          refine G_ladd hX dX11_back_81 ?_
          refine G_nml (fun x8 => ?_)
          refine G_lstore_n hX [(2, .long x8), (0, .ref (cx_ad X 0)), (1, .int v1), (4, .int v4)] rfl (by decide) rfl dX11_back_82 ?_
          refine G_iincN hX 3 (fun x9 => [(4, .int x9), (2, .long x8), (0, .ref (cx_ad X 0)), (1, .int v1)]) rfl rfl (by decide) (fun _ => rfl) dX11_back_83 (fun x9 => ?_)
          refine G_goto hX 31 (by decide) dX11_back_86 ?_
          exact G_sub [2, 3, 1, 0] rfl (ih v1 x8 x9 μ)
        · refine G_aload_n hX 0 rfl rfl dX11_back_64 ?_
          refine G_iload hX 3 rfl dX11_back_65 ?_
          refine G_cVl hX 0 11 (fun ad adK => [.int v4]) [.long v2] (fun z2 h2 => cX11_depositOf_ok (cx_l X) N v4 μ z2 h2) ok_X11_depositOf lm_X11_520 atM0.1 atM0.2 rfl rfl (fun _ _ => rfl) (Nat.le_of_ble_eq_true rfl) ⟨rfl, rfl, by decide, by decide⟩ (cs0 hcs) dX11_back_67 (fun r10 μ => ?_)
          refine G_aload_n hX 0 rfl rfl dX11_back_70 ?_
          refine G_iload hX 3 rfl dX11_back_71 ?_
          refine G_cVl hX 0 11 (fun ad adK => [.int v4]) [.long r10, .long v2] (fun z2 h2 => cX11_owedOf_ok (cx_l X) N v4 μ z2 h2) ok_X11_owedOf lm_X11_516 atM0.1 atM0.2 rfl rfl (fun _ _ => rfl) (Nat.le_of_ble_eq_true rfl) ⟨rfl, rfl, by decide, by decide⟩ (cs0 hcs) dX11_back_73 (fun r11 μ => ?_)
          refine G_lsub hX dX11_back_76 ?_
          refine G_goto hX 81 (by decide) dX11_back_77 ?_
          refine G_ladd hX dX11_back_81 ?_
          refine G_nml (fun x12 => ?_)
          refine G_lstore_n hX [(2, .long x12), (0, .ref (cx_ad X 0)), (1, .int v1), (4, .int v4)] rfl (by decide) rfl dX11_back_82 ?_
          refine G_iincN hX 3 (fun x13 => [(4, .int x13), (2, .long x12), (0, .ref (cx_ad X 0)), (1, .int v1)]) rfl rfl (by decide) (fun _ => rfl) dX11_back_83 (fun x13 => ?_)
          refine G_goto hX 31 (by decide) dX11_back_86 ?_
          exact G_sub [2, 3, 1, 0] rfl (ih v1 x12 x13 μ)
set_option maxHeartbeats 4000000 in
set_option maxRecDepth 100000 in
theorem gX11_back_14 {X : Ctx} {z : Int64 × Mem} (hX : Fx wM X cX11_back 5 RX11 (some .long) (rmo 16 375)) (hQ : Qx_l wM X z) (hcs : cx_cells X = 0 ∧ cx_slots X = 0) (N : Nat) (v1 : Int32) (s0 : Int32) (μ : Mem) : G wM X z 14 [(0, .ref (cx_ad X 0)), (1, .int v1)] [.int s0, .ref (cx_ad X 0)] μ (fX11_back_14 N v1 s0 μ) := by
  unfold fX11_back_14
  refine pf_X11_104_M0 hX dX11_back_14 (fun μ => ?_)
  refine G_aload_n hX 0 rfl rfl dX11_back_17 ?_
  refine gf_X11_104_M0 hX dX11_back_18 ?_
  refine G_nmi (fun x2 => ?_)
  refine G_if_le hX 26 (by decide) dX11_back_21 ?_ ?_
  · refine G_lconst hX (0 : Int64) rfl dX11_back_26 ?_
    refine G_lstore_n hX [(2, .long (0 : Int64)), (0, .ref (cx_ad X 0)), (1, .int v1)] rfl (by decide) rfl dX11_back_27 ?_
    refine G_iconst hX (0 : Int32) rfl dX11_back_28 ?_
    refine G_istore hX [(4, .int (0 : Int32)), (2, .long (0 : Int64)), (0, .ref (cx_ad X 0)), (1, .int v1)] (by decide) rfl dX11_back_29 ?_
    exact G_sub [2, 3, 1, 0] rfl (gX11_back_31 hX hQ hcs N N v1 (0 : Int64) (0 : Int32) μ)
  · refine G_lconst hX (0 : Int64) rfl dX11_back_24 ?_
    exact G_lret hX hQ dX11_back_25
set_option maxHeartbeats 4000000 in
set_option maxRecDepth 100000 in
theorem gX11_back_E {X : Ctx} {z : Int64 × Mem} (hX : Fx wM X cX11_back 5 RX11 (some .long) (rmo 16 375)) (hQ : Qx_l wM X z) (hcs : cx_cells X = 0 ∧ cx_slots X = 0) (N : Nat) (p0 : Int32) (μ : Mem) : G wM X z 0 [(0, .ref (cx_ad X 0)), (1, .int p0)] [] μ (fX11_back N p0 μ) := by
  unfold fX11_back
  refine G_aload_n hX 0 rfl rfl dX11_back_0 ?_
  refine G_aload_n hX 0 rfl rfl dX11_back_1 ?_
  refine G_iload_n hX 1 rfl rfl dX11_back_2 ?_
  refine G_cVi hX 0 11 (fun ad adK => [.int p0]) [.ref (cx_ad X 0)] (fun z2 h2 => cX11_isFirm_ok (cx_l X) N p0 μ z2 h2) ok_X11_isFirm lm_X11_311 atM0.1 atM0.2 rfl rfl (fun _ _ => rfl) (Nat.le_of_ble_eq_true rfl) ⟨rfl, rfl, by decide, by decide⟩ (cs0 hcs) dX11_back_3 (fun r1 μ => ?_)
  refine G_if_eq hX 13 (by decide) dX11_back_6 ?_ ?_
  · refine G_iconst hX (1 : Int32) rfl dX11_back_13 ?_
    exact G_sub [0, 1] rfl (gX11_back_14 hX hQ hcs N p0 (1 : Int32) μ)
  · refine G_iconst hX (0 : Int32) rfl dX11_back_9 ?_
    refine G_goto hX 14 (by decide) dX11_back_10 ?_
    exact G_sub [0, 1] rfl (gX11_back_14 hX hQ hcs N p0 (0 : Int32) μ)
theorem cX11_back_ok (l : Launch) (N : Nat) (p0 : Int32) (μ : Mem) (z : Int64 × Mem) (h : fX11_back N p0 μ = some z) : Ml wM l yX11_back cX11_back 5 .long (rmo 16 375) (fun ad adK => [.ref (ad 0), .int p0]) μ z := Ml.of h (by decide +kernel) (fun _ _ => Nat.le_of_ble_eq_true rfl) (fun X hX hQ hl hcs => gX11_back_E hX hQ hcs N p0 μ)
/-! ===== DutyCaseModel.weightOf(I)I ===== -/
set_option maxHeartbeats 4000000 in
set_option maxRecDepth 100000 in
theorem gX11_weightOf_E {X : Ctx} {z : Int32 × Mem} (hX : Fx wM X cX11_weightOf 5 RX11 (some .int) (rmo 12 285)) (hQ : Qx_i wM X z) (hcs : cx_cells X = 0 ∧ cx_slots X = 0) (N : Nat) (p0 : Int32) (μ : Mem) : G wM X z 0 [(0, .ref (cx_ad X 0)), (1, .int p0)] [] μ (fX11_weightOf N p0 μ) := by
  unfold fX11_weightOf
  refine G_aload_n hX 0 rfl rfl dX11_weightOf_0 ?_
  refine G_iload_n hX 1 rfl rfl dX11_weightOf_1 ?_
  refine G_iconst hX (1 : Int32) rfl dX11_weightOf_2 ?_
  refine G_cVi hX 0 11 (fun ad adK => [.int p0, .int (1 : Int32)]) [] (fun z2 h2 => cX11_of_ok (cx_l X) N p0 (1 : Int32) μ z2 h2) ok_X11_of lm_X11_305 atM0.1 atM0.2 rfl rfl (fun _ _ => rfl) (Nat.le_of_ble_eq_true rfl) ⟨rfl, rfl, by decide, by decide⟩ (cs0 hcs) dX11_weightOf_3 (fun r1 μ => ?_)
  refine G_istore_n hX [(2, .int r1), (0, .ref (cx_ad X 0)), (1, .int p0)] rfl (by decide) rfl dX11_weightOf_6 ?_
  refine G_aload_n hX 1 rfl rfl dX11_weightOf_7 ?_
  refine G_iload_n hX 0 rfl rfl dX11_weightOf_8 ?_
  refine G_aload_n hX 1 rfl rfl dX11_weightOf_9 ?_
  refine gf_X11_7_M0 hX dX11_weightOf_10 ?_
  refine G_bipush hX (28 : Int32) rfl dX11_weightOf_13 ?_
  refine G_aI hX atM1 dX11_weightOf_15 (fun x2 => ?_)
  refine G_aload_n hX 1 rfl rfl dX11_weightOf_16 ?_
  refine G_cVi hX 0 11 (fun ad adK => []) [.int x2, .int r1, .ref (cx_ad X 0)] (fun z2 h2 => cX11_isZeroing_ok (cx_l X) N μ z2 h2) ok_X11_isZeroing lm_X11_488 atM0.1 atM0.2 rfl rfl (fun _ _ => rfl) (Nat.le_of_ble_eq_true rfl) ⟨rfl, rfl, by decide, by decide⟩ (cs0 hcs) dX11_weightOf_17 (fun r3 μ => ?_)
  refine G_cVi hX 0 11 (fun ad adK => [.int r1, .int x2, .int r3]) [] (fun z2 h2 => cX11_ownMargin_ok (cx_l X) N r1 x2 r3 μ z2 h2) ok_X11_ownMargin lm_X11_476 atM0.1 atM0.2 rfl rfl (fun _ _ => rfl) (Nat.le_of_ble_eq_true rfl) ⟨rfl, rfl, by decide, by decide⟩ (cs0 hcs) dX11_weightOf_20 (fun r4 μ => ?_)
  refine G_istore_n hX [(3, .int r4), (2, .int r1), (0, .ref (cx_ad X 0)), (1, .int p0)] rfl (by decide) rfl dX11_weightOf_23 ?_
  refine G_aload_n hX 2 rfl rfl dX11_weightOf_24 ?_
  refine gf_X11_7_M0 hX dX11_weightOf_25 ?_
  refine G_bipush hX (35 : Int32) rfl dX11_weightOf_28 ?_
  refine G_bipush hX (8 : Int32) rfl dX11_weightOf_30 ?_
  refine G_iload_n hX 3 rfl rfl dX11_weightOf_32 ?_
  refine G_imul hX dX11_weightOf_33 ?_
  refine G_iadd hX dX11_weightOf_34 ?_
  refine G_bipush hX (7 : Int32) rfl dX11_weightOf_35 ?_
  refine G_iadd hX dX11_weightOf_37 ?_
  refine G_iconst hX (0 : Int32) rfl dX11_weightOf_38 ?_
  refine G_sI hX atM1 dX11_weightOf_39 (fun μ => ?_)
  refine G_aload_n hX 2 rfl rfl dX11_weightOf_40 ?_
  refine G_iconst hX (0 : Int32) rfl dX11_weightOf_41 ?_
  refine pf_X11_297_M0 hX ⟨rfl, rfl⟩ dX11_weightOf_42 (fun μ => ?_)
  refine G_aload_n hX 2 rfl rfl dX11_weightOf_45 ?_
  refine G_iload_n hX 1 rfl rfl dX11_weightOf_46 ?_
  refine G_aload_n hX 2 rfl rfl dX11_weightOf_47 ?_
  refine gf_X11_7_M0 hX dX11_weightOf_48 ?_
  refine G_bipush hX (28 : Int32) rfl dX11_weightOf_51 ?_
  refine G_aI hX atM1 dX11_weightOf_53 (fun x5 => ?_)
  refine G_aload_n hX 2 rfl rfl dX11_weightOf_54 ?_
  refine G_cVi hX 0 11 (fun ad adK => []) [.int x5, .int r1, .ref (cx_ad X 0)] (fun z2 h2 => cX11_isZeroing_ok (cx_l X) N μ z2 h2) ok_X11_isZeroing lm_X11_488 atM0.1 atM0.2 rfl rfl (fun _ _ => rfl) (Nat.le_of_ble_eq_true rfl) ⟨rfl, rfl, by decide, by decide⟩ (cs0 hcs) dX11_weightOf_55 (fun r6 μ => ?_)
  refine G_cVi hX 0 11 (fun ad adK => [.int r1, .int x5, .int r6]) [] (fun z2 h2 => cX11_ownMargin_ok (cx_l X) N r1 x5 r6 μ z2 h2) ok_X11_ownMargin lm_X11_476 atM0.1 atM0.2 rfl rfl (fun _ _ => rfl) (Nat.le_of_ble_eq_true rfl) ⟨rfl, rfl, by decide, by decide⟩ (cs0 hcs) dX11_weightOf_58 (fun r7 μ => ?_)
  refine G_istore hX [(4, .int r7), (3, .int r4), (2, .int r1), (0, .ref (cx_ad X 0)), (1, .int p0)] (by decide) rfl dX11_weightOf_61 ?_
  refine G_aload_n hX 3 rfl rfl dX11_weightOf_63 ?_
  refine gf_X11_7_M0 hX dX11_weightOf_64 ?_
  refine G_bipush hX (35 : Int32) rfl dX11_weightOf_67 ?_
  refine G_bipush hX (8 : Int32) rfl dX11_weightOf_69 ?_
  refine G_iload_n hX 4 rfl rfl dX11_weightOf_71 ?_
  refine G_imul hX dX11_weightOf_72 ?_
  refine G_iadd hX dX11_weightOf_73 ?_
  refine G_bipush hX (7 : Int32) rfl dX11_weightOf_74 ?_
  refine G_iadd hX dX11_weightOf_76 ?_
  refine G_iconst hX (1 : Int32) rfl dX11_weightOf_77 ?_
  refine G_sI hX atM1 dX11_weightOf_78 (fun μ => ?_)
  refine G_aload_n hX 3 rfl rfl dX11_weightOf_79 ?_
  refine G_iconst hX (0 : Int32) rfl dX11_weightOf_80 ?_
  refine pf_X11_297_M0 hX ⟨rfl, rfl⟩ dX11_weightOf_81 (fun μ => ?_)
  refine G_iload hX 0 rfl dX11_weightOf_84 ?_
  refine G_iload_n hX 1 rfl rfl dX11_weightOf_86 ?_
  refine G_isub hX dX11_weightOf_87 ?_
  exact G_iret hX hQ dX11_weightOf_88
theorem cX11_weightOf_ok (l : Launch) (N : Nat) (p0 : Int32) (μ : Mem) (z : Int32 × Mem) (h : fX11_weightOf N p0 μ = some z) : Mi wM l yX11_weightOf cX11_weightOf 5 .int (rmo 12 285) (fun ad adK => [.ref (ad 0), .int p0]) μ z := Mi.of h (by decide +kernel) (fun _ _ => Nat.le_of_ble_eq_true rfl) (fun X hX hQ hl hcs => gX11_weightOf_E hX hQ hcs N p0 μ)
/-! ===== DutyCaseModel.weight(I)I ===== -/
set_option maxHeartbeats 4000000 in
set_option maxRecDepth 100000 in
theorem gX11_weight_14 {X : Ctx} {z : Int32 × Mem} (hX : Fx wM X cX11_weight 2 RX11 (some .int) (rmo 13 309)) (hQ : Qx_i wM X z) (hcs : cx_cells X = 0 ∧ cx_slots X = 0) (N : Nat) (v1 : Int32) (s0 : Int32) (μ : Mem) : G wM X z 14 [(0, .ref (cx_ad X 0)), (1, .int v1)] [.int s0, .ref (cx_ad X 0)] μ (fX11_weight_14 N v1 s0 μ) := by
  unfold fX11_weight_14
  refine pf_X11_104_M0 hX dX11_weight_14 (fun μ => ?_)
  refine G_aload_n hX 0 rfl rfl dX11_weight_17 ?_
  refine gf_X11_104_M0 hX dX11_weight_18 ?_
  refine G_nmi (fun x2 => ?_)
  refine G_if_le hX 28 (by decide) dX11_weight_21 ?_ ?_
  · refine G_aload_n hX 0 rfl rfl dX11_weight_28 ?_
    refine G_iload_n hX 1 rfl rfl dX11_weight_29 ?_
    refine G_cVi hX 0 11 (fun ad adK => [.int v1]) [] (fun z2 h2 => cX11_weightOf_ok (cx_l X) N v1 μ z2 h2) ok_X11_weightOf lm_X11_523 atM0.1 atM0.2 rfl rfl (fun _ _ => rfl) (Nat.le_of_ble_eq_true rfl) ⟨rfl, rfl, by decide, by decide⟩ (cs0 hcs) dX11_weight_30 (fun r3 μ => ?_)
    exact G_iret hX hQ dX11_weight_33
  · refine G_iconst hX (0 : Int32) rfl dX11_weight_24 ?_
    refine G_goto hX 33 (by decide) dX11_weight_25 ?_
    exact G_iret hX hQ dX11_weight_33
set_option maxHeartbeats 4000000 in
set_option maxRecDepth 100000 in
theorem gX11_weight_E {X : Ctx} {z : Int32 × Mem} (hX : Fx wM X cX11_weight 2 RX11 (some .int) (rmo 13 309)) (hQ : Qx_i wM X z) (hcs : cx_cells X = 0 ∧ cx_slots X = 0) (N : Nat) (p0 : Int32) (μ : Mem) : G wM X z 0 [(0, .ref (cx_ad X 0)), (1, .int p0)] [] μ (fX11_weight N p0 μ) := by
  unfold fX11_weight
  refine G_aload_n hX 0 rfl rfl dX11_weight_0 ?_
  refine G_aload_n hX 0 rfl rfl dX11_weight_1 ?_
  refine G_iload_n hX 1 rfl rfl dX11_weight_2 ?_
  refine G_cVi hX 0 11 (fun ad adK => [.int p0]) [.ref (cx_ad X 0)] (fun z2 h2 => cX11_isSale_ok (cx_l X) N p0 μ z2 h2) ok_X11_isSale lm_X11_341 atM0.1 atM0.2 rfl rfl (fun _ _ => rfl) (Nat.le_of_ble_eq_true rfl) ⟨rfl, rfl, by decide, by decide⟩ (cs0 hcs) dX11_weight_3 (fun r1 μ => ?_)
  refine G_if_eq hX 13 (by decide) dX11_weight_6 ?_ ?_
  · refine G_iconst hX (1 : Int32) rfl dX11_weight_13 ?_
    exact G_sub [0, 1] rfl (gX11_weight_14 hX hQ hcs N p0 (1 : Int32) μ)
  · refine G_iconst hX (0 : Int32) rfl dX11_weight_9 ?_
    refine G_goto hX 14 (by decide) dX11_weight_10 ?_
    exact G_sub [0, 1] rfl (gX11_weight_14 hX hQ hcs N p0 (0 : Int32) μ)
theorem cX11_weight_ok (l : Launch) (N : Nat) (p0 : Int32) (μ : Mem) (z : Int32 × Mem) (h : fX11_weight N p0 μ = some z) : Mi wM l yX11_weight cX11_weight 2 .int (rmo 13 309) (fun ad adK => [.ref (ad 0), .int p0]) μ z := Mi.of h (by decide +kernel) (fun _ _ => Nat.le_of_ble_eq_true rfl) (fun X hX hQ hl hcs => gX11_weight_E hX hQ hcs N p0 μ)
/-! ===== DutyCaseModel.heaviest(IZ)I ===== -/
set_option maxHeartbeats 4000000 in
set_option maxRecDepth 100000 in
theorem gX11_heaviest_34 {X : Ctx} {z : Int32 × Mem} (hX : Fx wM X cX11_heaviest 7 RX11 (some .int) (rmo 13 309)) (hQ : Qx_i wM X z) (hcs : cx_cells X = 0 ∧ cx_slots X = 0) (N : Nat) : ∀ (n : Nat) (v1 : Int32) (v2 : Int32) (v3 : Int32) (v4 : Int32) (v5 : Int32) (μ : Mem), G wM X z 34 [(0, .ref (cx_ad X 0)), (1, .int v1), (2, .int v2), (3, .int v3), (4, .int v4), (5, .int v5)] [] μ (fX11_heaviest_34 N n v1 v2 v3 v4 v5 μ) := by
  intro n
  induction n with
  | zero =>
    intro v1 v2 v3 v4 v5 μ
    exact G_none
  | succ n ih =>
    intro v1 v2 v3 v4 v5 μ
    unfold fX11_heaviest_34
    refine G_iload hX 5 rfl dX11_heaviest_34 ?_
    refine G_aload_n hX 0 rfl rfl dX11_heaviest_36 ?_
    refine gf_X11_7_M0 hX dX11_heaviest_37 ?_
    refine G_bipush hX (34 : Int32) rfl dX11_heaviest_40 ?_
    refine G_aI hX atM1 dX11_heaviest_42 (fun x3 => ?_)
    refine G_icmp_ge hX 116 (by decide) dX11_heaviest_43 ?_ ?_
    · refine G_iload_n hX 3 rfl rfl dX11_heaviest_116 ?_
      exact G_iret hX hQ dX11_heaviest_117
    · refine G_aload_n hX 0 rfl rfl dX11_heaviest_46 ?_
      refine G_iload hX 5 rfl dX11_heaviest_47 ?_
      refine G_cVi hX 0 11 (fun ad adK => [.int v5]) [] (fun z2 h2 => cX11_isSale_ok (cx_l X) N v5 μ z2 h2) ok_X11_isSale lm_X11_341 atM0.1 atM0.2 rfl rfl (fun _ _ => rfl) (Nat.le_of_ble_eq_true rfl) ⟨rfl, rfl, by decide, by decide⟩ (cs0 hcs) dX11_heaviest_49 (fun r4 μ => ?_)
      refine G_if_eq hX 110 (by decide) dX11_heaviest_52 ?_ ?_
      · refine G_iincN hX 5 (fun x5 => [(5, .int x5), (0, .ref (cx_ad X 0)), (1, .int v1), (2, .int v2), (3, .int v3), (4, .int v4)]) rfl rfl (by decide) (fun _ => rfl) dX11_heaviest_110 (fun x5 => ?_)
        refine G_goto hX 34 (by decide) dX11_heaviest_113 ?_
        exact G_sub [1, 2, 3, 4, 5, 0] rfl (ih v1 v2 v3 v4 x5 μ)
      · refine G_aload_n hX 0 rfl rfl dX11_heaviest_55 ?_
        refine G_iload hX 5 rfl dX11_heaviest_56 ?_
        refine G_iconst hX (1 : Int32) rfl dX11_heaviest_58 ?_
        refine G_cVi hX 0 11 (fun ad adK => [.int v5, .int (1 : Int32)]) [] (fun z2 h2 => cX11_of_ok (cx_l X) N v5 (1 : Int32) μ z2 h2) ok_X11_of lm_X11_305 atM0.1 atM0.2 rfl rfl (fun _ _ => rfl) (Nat.le_of_ble_eq_true rfl) ⟨rfl, rfl, by decide, by decide⟩ (cs0 hcs) dX11_heaviest_59 (fun r6 μ => ?_)
        refine G_iload_n hX 1 rfl rfl dX11_heaviest_62 ?_
        refine G_icmp_eq hX 69 (by decide) dX11_heaviest_63 ?_ ?_
        · refine G_aload_n hX 0 rfl rfl dX11_heaviest_69 ?_
          refine G_iload hX 5 rfl dX11_heaviest_70 ?_
          refine G_cVi hX 0 11 (fun ad adK => [.int v5]) [] (fun z2 h2 => cX11_weightOf_ok (cx_l X) N v5 μ z2 h2) ok_X11_weightOf lm_X11_523 atM0.1 atM0.2 rfl rfl (fun _ _ => rfl) (Nat.le_of_ble_eq_true rfl) ⟨rfl, rfl, by decide, by decide⟩ (cs0 hcs) dX11_heaviest_72 (fun r7 μ => ?_)
          refine G_istore hX [(6, .int r7), (0, .ref (cx_ad X 0)), (1, .int v1), (2, .int v2), (3, .int v3), (4, .int v4), (5, .int v5)] (by decide) rfl dX11_heaviest_75 ?_
          refine G_iload_n hX 4 rfl rfl dX11_heaviest_77 ?_
          refine G_iconst hX (-1 : Int32) rfl dX11_heaviest_78 ?_
          refine G_icmp_eq hX 103 (by decide) dX11_heaviest_79 ?_ ?_
          · refine G_iload hX 6 rfl dX11_heaviest_103 ?_
            refine G_istore_n hX [(3, .int v5), (6, .int r7), (0, .ref (cx_ad X 0)), (1, .int v1), (2, .int v2), (4, .int v4), (5, .int v5)] rfl (by decide) rfl dX11_heaviest_105 ?_
            refine G_iload hX 1 rfl dX11_heaviest_106 ?_
            refine G_istore hX [(4, .int r7), (3, .int v5), (6, .int r7), (0, .ref (cx_ad X 0)), (1, .int v1), (2, .int v2), (5, .int v5)] (by decide) rfl dX11_heaviest_108 ?_
            refine G_iincN hX 6 (fun x8 => [(5, .int x8), (4, .int r7), (3, .int v5), (6, .int r7), (0, .ref (cx_ad X 0)), (1, .int v1), (2, .int v2)]) rfl rfl (by decide) (fun _ => rfl) dX11_heaviest_110 (fun x8 => ?_)
            refine G_goto hX 34 (by decide) dX11_heaviest_113 ?_
            exact G_sub [4, 5, 6, 2, 1, 0] rfl (ih v1 v2 v5 r7 x8 μ)
          · refine G_iload_n hX 3 rfl rfl dX11_heaviest_82 ?_
            refine G_if_eq hX 96 (by decide) dX11_heaviest_83 ?_ ?_
            · refine G_iload hX 0 rfl dX11_heaviest_96 ?_
              refine G_iload hX 5 rfl dX11_heaviest_98 ?_
              refine G_icmp_le hX 110 (by decide) dX11_heaviest_100 ?_ ?_
              · refine G_iincN hX 6 (fun x9 => [(5, .int x9), (6, .int r7), (0, .ref (cx_ad X 0)), (1, .int v1), (2, .int v2), (3, .int v3), (4, .int v4)]) rfl rfl (by decide) (fun _ => rfl) dX11_heaviest_110 (fun x9 => ?_)
                refine G_goto hX 34 (by decide) dX11_heaviest_113 ?_
                exact G_sub [2, 3, 4, 5, 6, 0] rfl (ih v1 v2 v3 v4 x9 μ)
              · refine G_iload hX 6 rfl dX11_heaviest_103 ?_
                refine G_istore_n hX [(3, .int v5), (6, .int r7), (0, .ref (cx_ad X 0)), (1, .int v1), (2, .int v2), (4, .int v4), (5, .int v5)] rfl (by decide) rfl dX11_heaviest_105 ?_
                refine G_iload hX 1 rfl dX11_heaviest_106 ?_
                refine G_istore hX [(4, .int r7), (3, .int v5), (6, .int r7), (0, .ref (cx_ad X 0)), (1, .int v1), (2, .int v2), (5, .int v5)] (by decide) rfl dX11_heaviest_108 ?_
                refine G_iincN hX 6 (fun x10 => [(5, .int x10), (4, .int r7), (3, .int v5), (6, .int r7), (0, .ref (cx_ad X 0)), (1, .int v1), (2, .int v2)]) rfl rfl (by decide) (fun _ => rfl) dX11_heaviest_110 (fun x10 => ?_)
                refine G_goto hX 34 (by decide) dX11_heaviest_113 ?_
                exact G_sub [4, 5, 6, 2, 1, 0] rfl (ih v1 v2 v5 r7 x10 μ)
            · refine G_iload hX 0 rfl dX11_heaviest_86 ?_
              refine G_iload hX 5 rfl dX11_heaviest_88 ?_
              refine G_icmp_ge hX 110 (by decide) dX11_heaviest_90 ?_ ?_
              · refine G_iincN hX 6 (fun x11 => [(5, .int x11), (6, .int r7), (0, .ref (cx_ad X 0)), (1, .int v1), (2, .int v2), (3, .int v3), (4, .int v4)]) rfl rfl (by decide) (fun _ => rfl) dX11_heaviest_110 (fun x11 => ?_)
                refine G_goto hX 34 (by decide) dX11_heaviest_113 ?_
                exact G_sub [2, 3, 4, 5, 6, 0] rfl (ih v1 v2 v3 v4 x11 μ)
              · refine G_goto hX 103 (by decide) dX11_heaviest_93 ?_
                refine G_iload hX 6 rfl dX11_heaviest_103 ?_
                refine G_istore_n hX [(3, .int v5), (6, .int r7), (0, .ref (cx_ad X 0)), (1, .int v1), (2, .int v2), (4, .int v4), (5, .int v5)] rfl (by decide) rfl dX11_heaviest_105 ?_
                refine G_iload hX 1 rfl dX11_heaviest_106 ?_
                refine G_istore hX [(4, .int r7), (3, .int v5), (6, .int r7), (0, .ref (cx_ad X 0)), (1, .int v1), (2, .int v2), (5, .int v5)] (by decide) rfl dX11_heaviest_108 ?_
                refine G_iincN hX 6 (fun x12 => [(5, .int x12), (4, .int r7), (3, .int v5), (6, .int r7), (0, .ref (cx_ad X 0)), (1, .int v1), (2, .int v2)]) rfl rfl (by decide) (fun _ => rfl) dX11_heaviest_110 (fun x12 => ?_)
                refine G_goto hX 34 (by decide) dX11_heaviest_113 ?_
                exact G_sub [4, 5, 6, 2, 1, 0] rfl (ih v1 v2 v5 r7 x12 μ)
        · refine G_goto hX 110 (by decide) dX11_heaviest_66 ?_
          refine G_iincN hX 5 (fun x13 => [(5, .int x13), (0, .ref (cx_ad X 0)), (1, .int v1), (2, .int v2), (3, .int v3), (4, .int v4)]) rfl rfl (by decide) (fun _ => rfl) dX11_heaviest_110 (fun x13 => ?_)
          refine G_goto hX 34 (by decide) dX11_heaviest_113 ?_
          exact G_sub [1, 2, 3, 4, 5, 0] rfl (ih v1 v2 v3 v4 x13 μ)
set_option maxHeartbeats 4000000 in
set_option maxRecDepth 100000 in
theorem gX11_heaviest_14 {X : Ctx} {z : Int32 × Mem} (hX : Fx wM X cX11_heaviest 7 RX11 (some .int) (rmo 13 309)) (hQ : Qx_i wM X z) (hcs : cx_cells X = 0 ∧ cx_slots X = 0) (N : Nat) (v1 : Int32) (v2 : Int32) (s0 : Int32) (μ : Mem) : G wM X z 14 [(0, .ref (cx_ad X 0)), (1, .int v1), (2, .int v2)] [.int s0, .ref (cx_ad X 0)] μ (fX11_heaviest_14 N v1 v2 s0 μ) := by
  unfold fX11_heaviest_14
  refine pf_X11_104_M0 hX dX11_heaviest_14 (fun μ => ?_)
  refine G_aload_n hX 0 rfl rfl dX11_heaviest_17 ?_
  refine gf_X11_104_M0 hX dX11_heaviest_18 ?_
  refine G_nmi (fun x2 => ?_)
  refine G_if_le hX 26 (by decide) dX11_heaviest_21 ?_ ?_
  · refine G_iconst hX (-1 : Int32) rfl dX11_heaviest_26 ?_
    refine G_istore_n hX [(3, .int (-1 : Int32)), (0, .ref (cx_ad X 0)), (1, .int v1), (2, .int v2)] rfl (by decide) rfl dX11_heaviest_27 ?_
    refine G_iconst hX (0 : Int32) rfl dX11_heaviest_28 ?_
    refine G_istore hX [(4, .int (0 : Int32)), (3, .int (-1 : Int32)), (0, .ref (cx_ad X 0)), (1, .int v1), (2, .int v2)] (by decide) rfl dX11_heaviest_29 ?_
    refine G_iconst hX (0 : Int32) rfl dX11_heaviest_31 ?_
    refine G_istore hX [(5, .int (0 : Int32)), (4, .int (0 : Int32)), (3, .int (-1 : Int32)), (0, .ref (cx_ad X 0)), (1, .int v1), (2, .int v2)] (by decide) rfl dX11_heaviest_32 ?_
    exact G_sub [3, 4, 5, 2, 1, 0] rfl (gX11_heaviest_34 hX hQ hcs N N v1 v2 (-1 : Int32) (0 : Int32) (0 : Int32) μ)
  · refine G_iconst hX (0 : Int32) rfl dX11_heaviest_24 ?_
    exact G_iret hX hQ dX11_heaviest_25
set_option maxHeartbeats 4000000 in
set_option maxRecDepth 100000 in
theorem gX11_heaviest_E {X : Ctx} {z : Int32 × Mem} (hX : Fx wM X cX11_heaviest 7 RX11 (some .int) (rmo 13 309)) (hQ : Qx_i wM X z) (hcs : cx_cells X = 0 ∧ cx_slots X = 0) (N : Nat) (p0 : Int32) (p1 : Int32) (μ : Mem) : G wM X z 0 [(0, .ref (cx_ad X 0)), (1, .int p0), (2, .int p1)] [] μ (fX11_heaviest N p0 p1 μ) := by
  unfold fX11_heaviest
  refine G_aload_n hX 0 rfl rfl dX11_heaviest_0 ?_
  refine G_aload_n hX 0 rfl rfl dX11_heaviest_1 ?_
  refine G_iload_n hX 1 rfl rfl dX11_heaviest_2 ?_
  refine G_cVi hX 0 11 (fun ad adK => [.int p0]) [.ref (cx_ad X 0)] (fun z2 h2 => cX11_isFirm_ok (cx_l X) N p0 μ z2 h2) ok_X11_isFirm lm_X11_311 atM0.1 atM0.2 rfl rfl (fun _ _ => rfl) (Nat.le_of_ble_eq_true rfl) ⟨rfl, rfl, by decide, by decide⟩ (cs0 hcs) dX11_heaviest_3 (fun r1 μ => ?_)
  refine G_if_eq hX 13 (by decide) dX11_heaviest_6 ?_ ?_
  · refine G_iconst hX (1 : Int32) rfl dX11_heaviest_13 ?_
    exact G_sub [0, 1, 2] rfl (gX11_heaviest_14 hX hQ hcs N p0 p1 (1 : Int32) μ)
  · refine G_iconst hX (0 : Int32) rfl dX11_heaviest_9 ?_
    refine G_goto hX 14 (by decide) dX11_heaviest_10 ?_
    exact G_sub [0, 1, 2] rfl (gX11_heaviest_14 hX hQ hcs N p0 p1 (0 : Int32) μ)
theorem cX11_heaviest_ok (l : Launch) (N : Nat) (p0 : Int32) (p1 : Int32) (μ : Mem) (z : Int32 × Mem) (h : fX11_heaviest N p0 p1 μ = some z) : Mi wM l yX11_heaviest cX11_heaviest 7 .int (rmo 13 309) (fun ad adK => [.ref (ad 0), .int p0, .int p1]) μ z := Mi.of h (by decide +kernel) (fun _ _ => Nat.le_of_ble_eq_true rfl) (fun X hX hQ hl hcs => gX11_heaviest_E hX hQ hcs N p0 p1 μ)
/-! ===== DutyCaseModel.ranked(I)I ===== -/
set_option maxHeartbeats 4000000 in
set_option maxRecDepth 100000 in
theorem gX11_ranked_77 {X : Ctx} {z : Int32 × Mem} (hX : Fx wM X cX11_ranked 5 RX11 (some .int) (rmo 16 377)) (hQ : Qx_i wM X z) (hcs : cx_cells X = 0 ∧ cx_slots X = 0) (N : Nat) (k7 : Int32 → Int32 → Mem → Option (Int32 × Mem)) (hk7 : ∀ (v1 : Int32) (v2 : Int32) (μ : Mem), G wM X z 7 [(0, .ref (cx_ad X 0)), (1, .int v1), (2, .int v2)] [] μ (k7 v1 v2 μ)) (v1 : Int32) (v2 : Int32) (v3 : Int32) (μ : Mem) : G wM X z 77 [(0, .ref (cx_ad X 0)), (1, .int v1), (2, .int v2), (3, .int v3)] [] μ (fX11_ranked_77 N k7 v1 v2 v3 μ) := by
  unfold fX11_ranked_77
  refine G_iload_n hX 3 rfl rfl dX11_ranked_77 ?_
  refine G_iload_n hX 1 rfl rfl dX11_ranked_78 ?_
  refine G_icmp_ne hX 84 (by decide) dX11_ranked_79 ?_ ?_
  · refine G_iincN hX 2 (fun x15 => [(2, .int x15), (0, .ref (cx_ad X 0)), (1, .int v1), (3, .int v3)]) rfl rfl (by decide) (fun _ => rfl) dX11_ranked_84 (fun x15 => ?_)
    refine G_goto hX 7 (by decide) dX11_ranked_87 ?_
    exact G_sub [1, 2, 0] rfl (hk7 v1 x15 μ)
  · refine G_iload_n hX 2 rfl rfl dX11_ranked_82 ?_
    exact G_iret hX hQ dX11_ranked_83
set_option maxHeartbeats 4000000 in
set_option maxRecDepth 100000 in
theorem gX11_ranked_20 {X : Ctx} {z : Int32 × Mem} (hX : Fx wM X cX11_ranked 5 RX11 (some .int) (rmo 16 377)) (hQ : Qx_i wM X z) (hcs : cx_cells X = 0 ∧ cx_slots X = 0) (N : Nat) (k7 : Int32 → Int32 → Mem → Option (Int32 × Mem)) (hk7 : ∀ (v1 : Int32) (v2 : Int32) (μ : Mem), G wM X z 7 [(0, .ref (cx_ad X 0)), (1, .int v1), (2, .int v2)] [] μ (k7 v1 v2 μ)) : ∀ (n : Nat) (v1 : Int32) (v2 : Int32) (v3 : Int32) (v4 : Int32) (μ : Mem), G wM X z 20 [(0, .ref (cx_ad X 0)), (1, .int v1), (2, .int v2), (3, .int v3), (4, .int v4)] [] μ (fX11_ranked_20 N k7 n v1 v2 v3 v4 μ) := by
  intro n
  induction n with
  | zero =>
    intro v1 v2 v3 v4 μ
    exact G_none
  | succ n ih =>
    intro v1 v2 v3 v4 μ
    unfold fX11_ranked_20
    refine G_iload hX 4 rfl dX11_ranked_20 ?_
    refine G_aload_n hX 0 rfl rfl dX11_ranked_22 ?_
    refine gf_X11_291_M0 hX dX11_ranked_23 ?_
    refine G_nmi (fun x2 => ?_)
    refine G_icmp_ge hX 77 (by decide) dX11_ranked_26 ?_ ?_
    · exact G_sub [0, 1, 2, 3] rfl (gX11_ranked_77 hX hQ hcs N k7 hk7 v1 v2 v3 μ)
    · refine G_iload_n hX 3 rfl rfl dX11_ranked_29 ?_
      refine G_aload_n hX 0 rfl rfl dX11_ranked_30 ?_
      refine G_iload hX 4 rfl dX11_ranked_31 ?_
      refine G_cVi hX 0 11 (fun ad adK => [.int v4]) [.int v3] (fun z2 h2 => cX11_dutyOf_ok (cx_l X) N v4 μ z2 h2) ok_X11_dutyOf lm_X11_506 atM0.1 atM0.2 rfl rfl (fun _ _ => rfl) (Nat.le_of_ble_eq_true rfl) ⟨rfl, rfl, by decide, by decide⟩ (cs0 hcs) dX11_ranked_33 (fun r3 μ => ?_)
      refine G_aload_n hX 0 rfl rfl dX11_ranked_36 ?_
      refine G_iload_n hX 2 rfl rfl dX11_ranked_37 ?_
      refine G_cVi hX 0 11 (fun ad adK => [.int v2]) [.int r3, .int v3] (fun z2 h2 => cX11_dutyOf_ok (cx_l X) N v2 μ z2 h2) ok_X11_dutyOf lm_X11_506 atM0.1 atM0.2 rfl rfl (fun _ _ => rfl) (Nat.le_of_ble_eq_true rfl) ⟨rfl, rfl, by decide, by decide⟩ (cs0 hcs) dX11_ranked_38 (fun r4 μ => ?_)
      refine G_icmp_gt hX 64 (by decide) dX11_ranked_41 ?_ ?_
      · refine G_iconst hX (1 : Int32) rfl dX11_ranked_64 ?_
        refine G_goto hX 69 (by decide) dX11_ranked_65 ?_
        refine G_iadd hX dX11_ranked_69 ?_
        refine G_nmi (fun x5 => ?_)
        refine G_istore_n hX [(3, .int x5), (0, .ref (cx_ad X 0)), (1, .int v1), (2, .int v2), (4, .int v4)] rfl (by decide) rfl dX11_ranked_70 ?_
        refine G_iincN hX 4 (fun x6 => [(4, .int x6), (3, .int x5), (0, .ref (cx_ad X 0)), (1, .int v1), (2, .int v2)]) rfl rfl (by decide) (fun _ => rfl) dX11_ranked_71 (fun x6 => ?_)
        refine G_goto hX 20 (by decide) dX11_ranked_74 ?_
        exact G_sub [2, 3, 4, 1, 0] rfl (ih v1 v2 x5 x6 μ)
      · refine G_aload_n hX 0 rfl rfl dX11_ranked_44 ?_
        refine G_iload hX 4 rfl dX11_ranked_45 ?_
        refine G_cVi hX 0 11 (fun ad adK => [.int v4]) [.int v3] (fun z2 h2 => cX11_dutyOf_ok (cx_l X) N v4 μ z2 h2) ok_X11_dutyOf lm_X11_506 atM0.1 atM0.2 rfl rfl (fun _ _ => rfl) (Nat.le_of_ble_eq_true rfl) ⟨rfl, rfl, by decide, by decide⟩ (cs0 hcs) dX11_ranked_47 (fun r7 μ => ?_)
        refine G_aload_n hX 0 rfl rfl dX11_ranked_50 ?_
        refine G_iload_n hX 2 rfl rfl dX11_ranked_51 ?_
        refine G_cVi hX 0 11 (fun ad adK => [.int v2]) [.int r7, .int v3] (fun z2 h2 => cX11_dutyOf_ok (cx_l X) N v2 μ z2 h2) ok_X11_dutyOf lm_X11_506 atM0.1 atM0.2 rfl rfl (fun _ _ => rfl) (Nat.le_of_ble_eq_true rfl) ⟨rfl, rfl, by decide, by decide⟩ (cs0 hcs) dX11_ranked_52 (fun r8 μ => ?_)
        refine G_icmp_ne hX 68 (by decide) dX11_ranked_55 ?_ ?_
        · refine G_iconst hX (0 : Int32) rfl dX11_ranked_68 ?_
          refine G_iadd hX dX11_ranked_69 ?_
          refine G_nmi (fun x9 => ?_)
          refine G_istore_n hX [(3, .int x9), (0, .ref (cx_ad X 0)), (1, .int v1), (2, .int v2), (4, .int v4)] rfl (by decide) rfl dX11_ranked_70 ?_
          refine G_iincN hX 4 (fun x10 => [(4, .int x10), (3, .int x9), (0, .ref (cx_ad X 0)), (1, .int v1), (2, .int v2)]) rfl rfl (by decide) (fun _ => rfl) dX11_ranked_71 (fun x10 => ?_)
          refine G_goto hX 20 (by decide) dX11_ranked_74 ?_
          exact G_sub [2, 3, 4, 1, 0] rfl (ih v1 v2 x9 x10 μ)
        · refine G_iload hX 4 rfl dX11_ranked_58 ?_
          refine G_iload_n hX 2 rfl rfl dX11_ranked_60 ?_
          refine G_icmp_ge hX 68 (by decide) dX11_ranked_61 ?_ ?_
          · refine G_iconst hX (0 : Int32) rfl dX11_ranked_68 ?_
            refine G_iadd hX dX11_ranked_69 ?_
            refine G_nmi (fun x11 => ?_)
            refine G_istore_n hX [(3, .int x11), (0, .ref (cx_ad X 0)), (1, .int v1), (2, .int v2), (4, .int v4)] rfl (by decide) rfl dX11_ranked_70 ?_
            refine G_iincN hX 4 (fun x12 => [(4, .int x12), (3, .int x11), (0, .ref (cx_ad X 0)), (1, .int v1), (2, .int v2)]) rfl rfl (by decide) (fun _ => rfl) dX11_ranked_71 (fun x12 => ?_)
            refine G_goto hX 20 (by decide) dX11_ranked_74 ?_
            exact G_sub [2, 3, 4, 1, 0] rfl (ih v1 v2 x11 x12 μ)
          · refine G_iconst hX (1 : Int32) rfl dX11_ranked_64 ?_
            refine G_goto hX 69 (by decide) dX11_ranked_65 ?_
            refine G_iadd hX dX11_ranked_69 ?_
            refine G_nmi (fun x13 => ?_)
            refine G_istore_n hX [(3, .int x13), (0, .ref (cx_ad X 0)), (1, .int v1), (2, .int v2), (4, .int v4)] rfl (by decide) rfl dX11_ranked_70 ?_
            refine G_iincN hX 4 (fun x14 => [(4, .int x14), (3, .int x13), (0, .ref (cx_ad X 0)), (1, .int v1), (2, .int v2)]) rfl rfl (by decide) (fun _ => rfl) dX11_ranked_71 (fun x14 => ?_)
            refine G_goto hX 20 (by decide) dX11_ranked_74 ?_
            exact G_sub [2, 3, 4, 1, 0] rfl (ih v1 v2 x13 x14 μ)
set_option maxHeartbeats 4000000 in
set_option maxRecDepth 100000 in
theorem gX11_ranked_7 {X : Ctx} {z : Int32 × Mem} (hX : Fx wM X cX11_ranked 5 RX11 (some .int) (rmo 16 377)) (hQ : Qx_i wM X z) (hcs : cx_cells X = 0 ∧ cx_slots X = 0) (N : Nat) : ∀ (n : Nat) (v1 : Int32) (v2 : Int32) (μ : Mem), G wM X z 7 [(0, .ref (cx_ad X 0)), (1, .int v1), (2, .int v2)] [] μ (fX11_ranked_7 N n v1 v2 μ) := by
  intro n
  induction n with
  | zero =>
    intro v1 v2 μ
    exact G_none
  | succ n ih =>
    intro v1 v2 μ
    unfold fX11_ranked_7
    refine G_iload_n hX 2 rfl rfl dX11_ranked_7 ?_
    refine G_aload_n hX 0 rfl rfl dX11_ranked_8 ?_
    refine gf_X11_291_M0 hX dX11_ranked_9 ?_
    refine G_nmi (fun x1 => ?_)
    refine G_icmp_ge hX 90 (by decide) dX11_ranked_12 ?_ ?_
    · refine G_iconst hX (-1 : Int32) rfl dX11_ranked_90 ?_
      exact G_iret hX hQ dX11_ranked_91
    · refine G_iconst hX (0 : Int32) rfl dX11_ranked_15 ?_
      refine G_istore_n hX [(3, .int (0 : Int32)), (0, .ref (cx_ad X 0)), (1, .int v1), (2, .int v2)] rfl (by decide) rfl dX11_ranked_16 ?_
      refine G_iconst hX (0 : Int32) rfl dX11_ranked_17 ?_
      refine G_istore hX [(4, .int (0 : Int32)), (3, .int (0 : Int32)), (0, .ref (cx_ad X 0)), (1, .int v1), (2, .int v2)] (by decide) rfl dX11_ranked_18 ?_
      exact G_sub [2, 3, 4, 1, 0] rfl (gX11_ranked_20 hX hQ hcs N (fun v1 v2 μ => fX11_ranked_7 N n v1 v2 μ) (fun v1 v2  μ => ih v1 v2  μ) N v1 v2 (0 : Int32) (0 : Int32) μ)
set_option maxHeartbeats 4000000 in
set_option maxRecDepth 100000 in
theorem gX11_ranked_E {X : Ctx} {z : Int32 × Mem} (hX : Fx wM X cX11_ranked 5 RX11 (some .int) (rmo 16 377)) (hQ : Qx_i wM X z) (hcs : cx_cells X = 0 ∧ cx_slots X = 0) (N : Nat) (p0 : Int32) (μ : Mem) : G wM X z 0 [(0, .ref (cx_ad X 0)), (1, .int p0)] [] μ (fX11_ranked N p0 μ) := by
  unfold fX11_ranked
  refine G_aload_n hX 0 rfl rfl dX11_ranked_0 ?_
  refine G_iconst hX (0 : Int32) rfl dX11_ranked_1 ?_
  refine pf_X11_104_M0 hX dX11_ranked_2 (fun μ => ?_)
  refine G_iconst hX (0 : Int32) rfl dX11_ranked_5 ?_
  refine G_istore_n hX [(2, .int (0 : Int32)), (0, .ref (cx_ad X 0)), (1, .int p0)] rfl (by decide) rfl dX11_ranked_6 ?_
  exact G_sub [1, 2, 0] rfl (gX11_ranked_7 hX hQ hcs N N p0 (0 : Int32) μ)
theorem cX11_ranked_ok (l : Launch) (N : Nat) (p0 : Int32) (μ : Mem) (z : Int32 × Mem) (h : fX11_ranked N p0 μ = some z) : Mi wM l yX11_ranked cX11_ranked 5 .int (rmo 16 377) (fun ad adK => [.ref (ad 0), .int p0]) μ z := Mi.of h (by decide +kernel) (fun _ _ => Nat.le_of_ble_eq_true rfl) (fun X hX hQ hl hcs => gX11_ranked_E hX hQ hcs N p0 μ)
/-! ===== DutyCaseModel.writes(I)V ===== -/
set_option maxHeartbeats 4000000 in
set_option maxRecDepth 100000 in
theorem gX11_writes_E {X : Ctx} {z : Unit × Mem} (hX : Fx wM X cX11_writes 2 RX11 none (rmo 0 0)) (hQ : Qx_v wM X z) (hcs : cx_cells X = 0 ∧ cx_slots X = 0) (N : Nat) (p0 : Int32) (μ : Mem) : G wM X z 0 [(0, .ref (cx_ad X 0)), (1, .int p0)] [] μ (fX11_writes N p0 μ) := by
  unfold fX11_writes
  refine G_aload_n hX 0 rfl rfl dX11_writes_0 ?_
  refine gf_X11_101_M0 hX dX11_writes_1 ?_
  refine G_aload_n hX 0 rfl rfl dX11_writes_4 ?_
  refine gf_X11_526_M0 hX dX11_writes_5 ?_
  refine G_nmi (fun x1 => ?_)
  refine G_iload_n hX 1 rfl rfl dX11_writes_8 ?_
  refine G_sI hX atM29 dX11_writes_9 (fun μ => ?_)
  refine G_aload_n hX 0 rfl rfl dX11_writes_10 ?_
  refine G_dup hX rfl dX11_writes_11 ?_
  refine gf_X11_526_M0 hX dX11_writes_12 ?_
  refine G_nmi (fun x2 => ?_)
  refine G_iconst hX (1 : Int32) rfl dX11_writes_15 ?_
  refine G_iadd hX dX11_writes_16 ?_
  refine G_nmi (fun x3 => ?_)
  refine pf_X11_526_M0 hX dX11_writes_17 (fun μ => ?_)
  exact G_vret hX hQ dX11_writes_20
theorem cX11_writes_ok (l : Launch) (N : Nat) (p0 : Int32) (μ : Mem) (z : Unit × Mem) (h : fX11_writes N p0 μ = some z) : Mv wM l yX11_writes cX11_writes 2 (rmo 0 0) (fun ad adK => [.ref (ad 0), .int p0]) μ z := Mv.of h (by decide +kernel) (fun _ _ => Nat.le_of_ble_eq_true rfl) (fun X hX hQ hl hcs => gX11_writes_E hX hQ hcs N p0 μ)
/-! ===== DutyCaseModel.writesText(Ljava/lang/String;)V ===== -/
set_option maxHeartbeats 4000000 in
set_option maxRecDepth 100000 in
theorem gX11_writesText_2 {X : Ctx} {z : Unit × Mem} (hX : Fx wM X cX11_writesText 3 RX11 none (rmo 4 85)) (hQ : Qx_v wM X z) (hcs : cx_cells X = 0 ∧ cx_slots X = 0) (N : Nat) : ∀ (n : Nat) (b0 : Nat) (v2 : Int32) (hb0 : kT b0) (μ : Mem), G wM X z 2 [(0, .ref (cx_ad X 0)), (1, .ref (cx_adK X b0)), (2, .int v2)] [] μ (fX11_writesText_2 N n b0 v2 μ) := by
  intro n
  induction n with
  | zero =>
    intro b0 v2 hb0 μ
    exact G_none
  | succ n ih =>
    intro b0 v2 hb0 μ
    unfold fX11_writesText_2
    refine G_iload_n hX 2 rfl rfl dX11_writesText_2 ?_
    refine G_aload_n hX 1 rfl rfl dX11_writesText_3 ?_
    refine G_cTi hX b0 (fun ad adK => []) [.int v2] (fun z2 h2 => cJ0_length_ok wM (cx_l X) b0 μ z2 h2) ok_J0_length_8abf5 lm_X11_131 hb0 rfl rfl (fun _ _ => rfl) (Nat.le_of_ble_eq_true rfl) ⟨rfl, rfl, by decide, by decide⟩ (cs0 hcs) dX11_writesText_4 (fun r1 μ => ?_)
    refine G_icmp_ge hX 25 (by decide) dX11_writesText_7 ?_ ?_
    · exact G_vret hX hQ dX11_writesText_25
    · refine G_aload_n hX 0 rfl rfl dX11_writesText_10 ?_
      refine G_aload_n hX 1 rfl rfl dX11_writesText_11 ?_
      refine G_iload_n hX 2 rfl rfl dX11_writesText_12 ?_
      refine G_cTi hX b0 (fun ad adK => [.int v2]) [.ref (cx_ad X 0)] (fun z2 h2 => cJ0_charAt_ok wM (cx_l X) b0 v2 μ z2 h2) ok_J0_charAt_5068e lm_X11_136 hb0 rfl rfl (fun _ _ => rfl) (Nat.le_of_ble_eq_true rfl) ⟨rfl, rfl, by decide, by decide⟩ (cs0 hcs) dX11_writesText_13 (fun r2 μ => ?_)
      refine G_cVv hX 0 11 (fun ad adK => [.int r2]) [] (fun z2 h2 => cX11_writes_ok (cx_l X) N r2 μ z2 h2) ok_X11_writes lm_X11_529 atM0.1 atM0.2 rfl rfl (fun _ _ => rfl) (Nat.le_of_ble_eq_true rfl) ⟨rfl, rfl, by decide, by decide⟩ (cs0 hcs) dX11_writesText_16 (fun μ => ?_)
      refine G_iincN hX 2 (fun x3 => [(2, .int x3), (0, .ref (cx_ad X 0)), (1, .ref (cx_adK X b0))]) rfl rfl (by decide) (fun _ => rfl) dX11_writesText_19 (fun x3 => ?_)
      refine G_goto hX 2 (by decide) dX11_writesText_22 ?_
      exact G_sub [1, 2, 0] rfl (ih b0 x3 hb0 μ)
set_option maxHeartbeats 4000000 in
set_option maxRecDepth 100000 in
theorem gX11_writesText_E {X : Ctx} {z : Unit × Mem} (hX : Fx wM X cX11_writesText 3 RX11 none (rmo 4 85)) (hQ : Qx_v wM X z) (hcs : cx_cells X = 0 ∧ cx_slots X = 0) (N : Nat) (p0 : Nat) (μ : Mem) : G wM X z 0 [(0, .ref (cx_ad X 0)), (1, .ref (cx_adK X p0))] [] μ (fX11_writesText N p0 μ) := by
  unfold fX11_writesText
  refine G_guard (fun hp0 => ?_)
  refine G_iconst hX (0 : Int32) rfl dX11_writesText_0 ?_
  refine G_istore_n hX [(2, .int (0 : Int32)), (0, .ref (cx_ad X 0)), (1, .ref (cx_adK X p0))] rfl (by decide) rfl dX11_writesText_1 ?_
  exact G_sub [1, 2, 0] rfl (gX11_writesText_2 hX hQ hcs N N p0 (0 : Int32) hp0 μ)
theorem cX11_writesText_ok (l : Launch) (N : Nat) (p0 : Nat) (μ : Mem) (z : Unit × Mem) (h : fX11_writesText N p0 μ = some z) : Mv wM l yX11_writesText cX11_writesText 3 (rmo 4 85) (fun ad adK => [.ref (ad 0), .ref (adK p0)]) μ z := Mv.of h (by decide +kernel) (fun _ _ => Nat.le_of_ble_eq_true rfl) (fun X hX hQ hl hcs => gX11_writesText_E hX hQ hcs N p0 μ)
/-! ===== DutyCaseModel.writesNumber(I)V ===== -/
set_option maxHeartbeats 4000000 in
set_option maxRecDepth 100000 in
theorem gX11_writesNumber_20 {X : Ctx} {z : Unit × Mem} (hX : Fx wM X cX11_writesNumber 4 RX11 none (rmo 1 21)) (hQ : Qx_v wM X z) (hcs : cx_cells X = 0 ∧ cx_slots X = 0) (N : Nat) : ∀ (n : Nat) (v1 : Int32) (v3 : Int32) (μ : Mem), G wM X z 20 [(0, .ref (cx_ad X 0)), (1, .int v1), (3, .int v3)] [] μ (fX11_writesNumber_20 N n v1 v3 μ) := by
  intro n
  induction n with
  | zero =>
    intro v1 v3 μ
    exact G_none
  | succ n ih =>
    intro v1 v3 μ
    unfold fX11_writesNumber_20
    refine G_iload_n hX 2 rfl rfl dX11_writesNumber_20 ?_
    refine G_if_le hX 45 (by decide) dX11_writesNumber_21 ?_ ?_
    · exact G_vret hX hQ dX11_writesNumber_45
    · refine G_aload_n hX 0 rfl rfl dX11_writesNumber_24 ?_
      refine G_bipush hX (48 : Int32) rfl dX11_writesNumber_25 ?_
      refine G_iload_n hX 1 rfl rfl dX11_writesNumber_27 ?_
      refine G_iload_n hX 2 rfl rfl dX11_writesNumber_28 ?_
      refine G_idv hX dX11_writesNumber_29 ?_
      refine G_bipush hX (10 : Int32) rfl dX11_writesNumber_30 ?_
      refine G_irem0 hX (by decide) dX11_writesNumber_32 ?_
      refine G_iadd hX dX11_writesNumber_33 ?_
      refine G_cVv hX 0 11 (fun ad adK => [.int ((48 : Int32) + ((v1 / v3) - (v1 / v3) / (10 : Int32) * (10 : Int32)))]) [] (fun z2 h2 => cX11_writes_ok (cx_l X) N ((48 : Int32) + ((v1 / v3) - (v1 / v3) / (10 : Int32) * (10 : Int32))) μ z2 h2) ok_X11_writes lm_X11_529 atM0.1 atM0.2 rfl rfl (fun _ _ => rfl) (Nat.le_of_ble_eq_true rfl) ⟨rfl, rfl, by decide, by decide⟩ (cs0 hcs) dX11_writesNumber_34 (fun μ => ?_)
      refine G_iload_n hX 2 rfl rfl dX11_writesNumber_37 ?_
      refine G_bipush hX (10 : Int32) rfl dX11_writesNumber_38 ?_
      refine G_idiv0 hX (by decide) dX11_writesNumber_40 ?_
      refine G_nmi (fun x2 => ?_)
      refine G_istore_n hX [(3, .int x2), (0, .ref (cx_ad X 0)), (1, .int v1)] rfl (by decide) rfl dX11_writesNumber_41 ?_
      refine G_goto hX 20 (by decide) dX11_writesNumber_42 ?_
      exact G_sub [1, 2, 0] rfl (ih v1 x2 μ)
set_option maxHeartbeats 4000000 in
set_option maxRecDepth 100000 in
theorem gX11_writesNumber_2 {X : Ctx} {z : Unit × Mem} (hX : Fx wM X cX11_writesNumber 4 RX11 none (rmo 1 21)) (hQ : Qx_v wM X z) (hcs : cx_cells X = 0 ∧ cx_slots X = 0) (N : Nat) : ∀ (n : Nat) (v1 : Int32) (v2 : Int32) (μ : Mem), G wM X z 2 [(0, .ref (cx_ad X 0)), (1, .int v1), (2, .int v2)] [] μ (fX11_writesNumber_2 N n v1 v2 μ) := by
  intro n
  induction n with
  | zero =>
    intro v1 v2 μ
    exact G_none
  | succ n ih =>
    intro v1 v2 μ
    unfold fX11_writesNumber_2
    refine G_iload_n hX 1 rfl rfl dX11_writesNumber_2 ?_
    refine G_iload_n hX 2 rfl rfl dX11_writesNumber_3 ?_
    refine G_idv hX dX11_writesNumber_4 ?_
    refine G_bipush hX (9 : Int32) rfl dX11_writesNumber_5 ?_
    refine G_icmp_le hX 18 (by decide) dX11_writesNumber_7 ?_ ?_
    · refine G_iload_n hX 2 rfl rfl dX11_writesNumber_18 ?_
      refine G_istore_n hX [(3, .int v2), (0, .ref (cx_ad X 0)), (1, .int v1), (2, .int v2)] rfl (by decide) rfl dX11_writesNumber_19 ?_
      exact G_sub [1, 2, 0] rfl (gX11_writesNumber_20 hX hQ hcs N N v1 v2 μ)
    · refine G_iload_n hX 2 rfl rfl dX11_writesNumber_10 ?_
      refine G_bipush hX (10 : Int32) rfl dX11_writesNumber_11 ?_
      refine G_imul hX dX11_writesNumber_13 ?_
      refine G_nmi (fun x1 => ?_)
      refine G_istore_n hX [(2, .int x1), (0, .ref (cx_ad X 0)), (1, .int v1)] rfl (by decide) rfl dX11_writesNumber_14 ?_
      refine G_goto hX 2 (by decide) dX11_writesNumber_15 ?_
      exact G_sub [1, 2, 0] rfl (ih v1 x1 μ)
set_option maxHeartbeats 4000000 in
set_option maxRecDepth 100000 in
theorem gX11_writesNumber_E {X : Ctx} {z : Unit × Mem} (hX : Fx wM X cX11_writesNumber 4 RX11 none (rmo 1 21)) (hQ : Qx_v wM X z) (hcs : cx_cells X = 0 ∧ cx_slots X = 0) (N : Nat) (p0 : Int32) (μ : Mem) : G wM X z 0 [(0, .ref (cx_ad X 0)), (1, .int p0)] [] μ (fX11_writesNumber N p0 μ) := by
  unfold fX11_writesNumber
  refine G_iconst hX (1 : Int32) rfl dX11_writesNumber_0 ?_
  refine G_istore_n hX [(2, .int (1 : Int32)), (0, .ref (cx_ad X 0)), (1, .int p0)] rfl (by decide) rfl dX11_writesNumber_1 ?_
  exact G_sub [1, 2, 0] rfl (gX11_writesNumber_2 hX hQ hcs N N p0 (1 : Int32) μ)
theorem cX11_writesNumber_ok (l : Launch) (N : Nat) (p0 : Int32) (μ : Mem) (z : Unit × Mem) (h : fX11_writesNumber N p0 μ = some z) : Mv wM l yX11_writesNumber cX11_writesNumber 4 (rmo 1 21) (fun ad adK => [.ref (ad 0), .int p0]) μ z := Mv.of h (by decide +kernel) (fun _ _ => Nat.le_of_ble_eq_true rfl) (fun X hX hQ hl hcs => gX11_writesNumber_E hX hQ hcs N p0 μ)
/-! ===== DutyCaseModel.write(I)I ===== -/
set_option maxHeartbeats 4000000 in
set_option maxRecDepth 100000 in
theorem gX11_write_138 {X : Ctx} {z : Int32 × Mem} (hX : Fx wM X cX11_write 4 RX11 (some .int) (rmo 16 377)) (hQ : Qx_i wM X z) (hcs : cx_cells X = 0 ∧ cx_slots X = 0) (N : Nat) (v1 : Int32) (μ : Mem) : G wM X z 138 [(0, .ref (cx_ad X 0)), (1, .int v1)] [] μ (fX11_write_138 N v1 μ) := by
  unfold fX11_write_138
  refine G_aload_n hX 0 rfl rfl dX11_write_138 ?_
  refine G_iload_n hX 1 rfl rfl dX11_write_139 ?_
  refine G_cVi hX 0 11 (fun ad adK => [.int v1]) [] (fun z2 h2 => cX11_isNegligible_ok (cx_l X) N v1 μ z2 h2) ok_X11_isNegligible lm_X11_485 atM0.1 atM0.2 rfl rfl (fun _ _ => rfl) (Nat.le_of_ble_eq_true rfl) ⟨rfl, rfl, by decide, by decide⟩ (cs0 hcs) dX11_write_140 (fun r10 μ => ?_)
  refine G_if_eq hX 153 (by decide) dX11_write_143 ?_ ?_
  · refine G_aload_n hX 0 rfl rfl dX11_write_153 ?_
    refine gf_X11_526_M0 hX dX11_write_154 ?_
    refine G_nmi (fun x11 => ?_)
    exact G_iret hX hQ dX11_write_157
  · refine G_aload_n hX 0 rfl rfl dX11_write_146 ?_
    refine G_ldcSw hX (tx := " negligible") 29 (by decide +kernel) dX11_write_147 ?_
    refine G_cVv hX 0 11 (fun ad adK => [.ref (adK 29)]) [] (fun z2 h2 => cX11_writesText_ok (cx_l X) N 29 μ z2 h2) ok_X11_writesText lm_X11_537 atM0.1 atM0.2 rfl rfl (fun _ _ => rfl) (Nat.le_of_ble_eq_true rfl) ⟨rfl, rfl, by decide, by decide⟩ (cs0 hcs) dX11_write_150 (fun μ => ?_)
    refine G_aload_n hX 0 rfl rfl dX11_write_153 ?_
    refine gf_X11_526_M0 hX dX11_write_154 ?_
    refine G_nmi (fun x12 => ?_)
    exact G_iret hX hQ dX11_write_157
set_option maxHeartbeats 4000000 in
set_option maxRecDepth 100000 in
theorem gX11_write_72 {X : Ctx} {z : Int32 × Mem} (hX : Fx wM X cX11_write 4 RX11 (some .int) (rmo 16 377)) (hQ : Qx_i wM X z) (hcs : cx_cells X = 0 ∧ cx_slots X = 0) (N : Nat) (v1 : Int32) (v2 : Int32) (μ : Mem) : G wM X z 72 [(0, .ref (cx_ad X 0)), (1, .int v1), (2, .int v2)] [] μ (fX11_write_72 N v1 v2 μ) := by
  unfold fX11_write_72
  refine G_aload_n hX 0 rfl rfl dX11_write_72 ?_
  refine G_bipush hX (32 : Int32) rfl dX11_write_73 ?_
  refine G_cVv hX 0 11 (fun ad adK => [.int (32 : Int32)]) [] (fun z2 h2 => cX11_writes_ok (cx_l X) N (32 : Int32) μ z2 h2) ok_X11_writes lm_X11_529 atM0.1 atM0.2 rfl rfl (fun _ _ => rfl) (Nat.le_of_ble_eq_true rfl) ⟨rfl, rfl, by decide, by decide⟩ (cs0 hcs) dX11_write_75 (fun μ => ?_)
  refine G_aload_n hX 0 rfl rfl dX11_write_78 ?_
  refine G_iload_n hX 2 rfl rfl dX11_write_79 ?_
  refine G_bipush hX (100 : Int32) rfl dX11_write_80 ?_
  refine G_idiv0 hX (by decide) dX11_write_82 ?_
  refine G_cVv hX 0 11 (fun ad adK => [.int (v2 / (100 : Int32))]) [] (fun z2 h2 => cX11_writesNumber_ok (cx_l X) N (v2 / (100 : Int32)) μ z2 h2) ok_X11_writesNumber lm_X11_532 atM0.1 atM0.2 rfl rfl (fun _ _ => rfl) (Nat.le_of_ble_eq_true rfl) ⟨rfl, rfl, by decide, by decide⟩ (cs0 hcs) dX11_write_83 (fun μ => ?_)
  refine G_aload_n hX 0 rfl rfl dX11_write_86 ?_
  refine G_bipush hX (46 : Int32) rfl dX11_write_87 ?_
  refine G_cVv hX 0 11 (fun ad adK => [.int (46 : Int32)]) [] (fun z2 h2 => cX11_writes_ok (cx_l X) N (46 : Int32) μ z2 h2) ok_X11_writes lm_X11_529 atM0.1 atM0.2 rfl rfl (fun _ _ => rfl) (Nat.le_of_ble_eq_true rfl) ⟨rfl, rfl, by decide, by decide⟩ (cs0 hcs) dX11_write_89 (fun μ => ?_)
  refine G_aload_n hX 0 rfl rfl dX11_write_92 ?_
  refine G_bipush hX (48 : Int32) rfl dX11_write_93 ?_
  refine G_iload_n hX 2 rfl rfl dX11_write_95 ?_
  refine G_bipush hX (10 : Int32) rfl dX11_write_96 ?_
  refine G_idiv0 hX (by decide) dX11_write_98 ?_
  refine G_bipush hX (10 : Int32) rfl dX11_write_99 ?_
  refine G_irem0 hX (by decide) dX11_write_101 ?_
  refine G_iadd hX dX11_write_102 ?_
  refine G_cVv hX 0 11 (fun ad adK => [.int ((48 : Int32) + ((v2 / (10 : Int32)) - (v2 / (10 : Int32)) / (10 : Int32) * (10 : Int32)))]) [] (fun z2 h2 => cX11_writes_ok (cx_l X) N ((48 : Int32) + ((v2 / (10 : Int32)) - (v2 / (10 : Int32)) / (10 : Int32) * (10 : Int32))) μ z2 h2) ok_X11_writes lm_X11_529 atM0.1 atM0.2 rfl rfl (fun _ _ => rfl) (Nat.le_of_ble_eq_true rfl) ⟨rfl, rfl, by decide, by decide⟩ (cs0 hcs) dX11_write_103 (fun μ => ?_)
  refine G_aload_n hX 0 rfl rfl dX11_write_106 ?_
  refine G_bipush hX (48 : Int32) rfl dX11_write_107 ?_
  refine G_iload_n hX 2 rfl rfl dX11_write_109 ?_
  refine G_bipush hX (10 : Int32) rfl dX11_write_110 ?_
  refine G_irem0 hX (by decide) dX11_write_112 ?_
  refine G_iadd hX dX11_write_113 ?_
  refine G_cVv hX 0 11 (fun ad adK => [.int ((48 : Int32) + (v2 - v2 / (10 : Int32) * (10 : Int32)))]) [] (fun z2 h2 => cX11_writes_ok (cx_l X) N ((48 : Int32) + (v2 - v2 / (10 : Int32) * (10 : Int32))) μ z2 h2) ok_X11_writes lm_X11_529 atM0.1 atM0.2 rfl rfl (fun _ _ => rfl) (Nat.le_of_ble_eq_true rfl) ⟨rfl, rfl, by decide, by decide⟩ (cs0 hcs) dX11_write_114 (fun μ => ?_)
  refine G_aload_n hX 0 rfl rfl dX11_write_117 ?_
  refine G_bipush hX (37 : Int32) rfl dX11_write_118 ?_
  refine G_cVv hX 0 11 (fun ad adK => [.int (37 : Int32)]) [] (fun z2 h2 => cX11_writes_ok (cx_l X) N (37 : Int32) μ z2 h2) ok_X11_writes lm_X11_529 atM0.1 atM0.2 rfl rfl (fun _ _ => rfl) (Nat.le_of_ble_eq_true rfl) ⟨rfl, rfl, by decide, by decide⟩ (cs0 hcs) dX11_write_120 (fun μ => ?_)
  refine G_aload_n hX 0 rfl rfl dX11_write_123 ?_
  refine G_iload_n hX 1 rfl rfl dX11_write_124 ?_
  refine G_cVi hX 0 11 (fun ad adK => [.int v1]) [] (fun z2 h2 => cX11_isSilent_ok (cx_l X) N v1 μ z2 h2) ok_X11_isSilent lm_X11_473 atM0.1 atM0.2 rfl rfl (fun _ _ => rfl) (Nat.le_of_ble_eq_true rfl) ⟨rfl, rfl, by decide, by decide⟩ (cs0 hcs) dX11_write_125 (fun r9 μ => ?_)
  refine G_if_eq hX 138 (by decide) dX11_write_128 ?_ ?_
  · exact G_sub [0, 1] rfl (gX11_write_138 hX hQ hcs N v1 μ)
  · refine G_aload_n hX 0 rfl rfl dX11_write_131 ?_
    refine G_ldcSw hX (tx := " silent") 28 (by decide +kernel) dX11_write_132 ?_
    refine G_cVv hX 0 11 (fun ad adK => [.ref (adK 28)]) [] (fun z2 h2 => cX11_writesText_ok (cx_l X) N 28 μ z2 h2) ok_X11_writesText lm_X11_537 atM0.1 atM0.2 rfl rfl (fun _ _ => rfl) (Nat.le_of_ble_eq_true rfl) ⟨rfl, rfl, by decide, by decide⟩ (cs0 hcs) dX11_write_135 (fun μ => ?_)
    exact G_sub [0, 1] rfl (gX11_write_138 hX hQ hcs N v1 μ)
set_option maxHeartbeats 4000000 in
set_option maxRecDepth 100000 in
theorem gX11_write_39 {X : Ctx} {z : Int32 × Mem} (hX : Fx wM X cX11_write 4 RX11 (some .int) (rmo 16 377)) (hQ : Qx_i wM X z) (hcs : cx_cells X = 0 ∧ cx_slots X = 0) (N : Nat) : ∀ (n : Nat) (v1 : Int32) (v2 : Int32) (v3 : Int32) (μ : Mem), G wM X z 39 [(0, .ref (cx_ad X 0)), (1, .int v1), (2, .int v2), (3, .int v3)] [] μ (fX11_write_39 N n v1 v2 v3 μ) := by
  intro n
  induction n with
  | zero =>
    intro v1 v2 v3 μ
    exact G_none
  | succ n ih =>
    intro v1 v2 v3 μ
    unfold fX11_write_39
    refine G_iload_n hX 3 rfl rfl dX11_write_39 ?_
    refine G_aload_n hX 0 rfl rfl dX11_write_40 ?_
    refine gf_X11_22_M0 hX dX11_write_41 ?_
    refine G_iload_n hX 1 rfl rfl dX11_write_44 ?_
    refine G_aI hX atM5 dX11_write_45 (fun x4 => ?_)
    refine G_cSi hX (fun ad adK => [.int x4]) [.int v3] (fun z2 h2 => cX11_lettersOf_ok (cx_l X) N x4 μ z2 h2) ok_X11_lettersOf lm_X11_308 rfl (fun _ _ => rfl) (Nat.le_of_ble_eq_true rfl) ⟨rfl, rfl, by decide, by decide⟩ (cs0 hcs) dX11_write_46 (fun r5 μ => ?_)
    refine G_icmp_ge hX 72 (by decide) dX11_write_49 ?_ ?_
    · exact G_sub [0, 1, 2] rfl (gX11_write_72 hX hQ hcs N v1 v2 μ)
    · refine G_aload_n hX 0 rfl rfl dX11_write_52 ?_
      refine G_aload_n hX 0 rfl rfl dX11_write_53 ?_
      refine gf_X11_22_M0 hX dX11_write_54 ?_
      refine G_iload_n hX 1 rfl rfl dX11_write_57 ?_
      refine G_aI hX atM5 dX11_write_58 (fun x6 => ?_)
      refine G_iload_n hX 3 rfl rfl dX11_write_59 ?_
      refine G_cSi hX (fun ad adK => [.int x6, .int v3]) [.ref (cx_ad X 0)] (fun z2 h2 => cX11_letter_ok (cx_l X) N x6 v3 μ z2 h2) ok_X11_letter lm_X11_317 rfl (fun _ _ => rfl) (Nat.le_of_ble_eq_true rfl) ⟨rfl, rfl, by decide, by decide⟩ (cs0 hcs) dX11_write_60 (fun r7 μ => ?_)
      refine G_cVv hX 0 11 (fun ad adK => [.int r7]) [] (fun z2 h2 => cX11_writes_ok (cx_l X) N r7 μ z2 h2) ok_X11_writes lm_X11_529 atM0.1 atM0.2 rfl rfl (fun _ _ => rfl) (Nat.le_of_ble_eq_true rfl) ⟨rfl, rfl, by decide, by decide⟩ (cs0 hcs) dX11_write_63 (fun μ => ?_)
      refine G_iincN hX 3 (fun x8 => [(3, .int x8), (0, .ref (cx_ad X 0)), (1, .int v1), (2, .int v2)]) rfl rfl (by decide) (fun _ => rfl) dX11_write_66 (fun x8 => ?_)
      refine G_goto hX 39 (by decide) dX11_write_69 ?_
      exact G_sub [1, 2, 3, 0] rfl (ih v1 v2 x8 μ)
set_option maxHeartbeats 4000000 in
set_option maxRecDepth 100000 in
theorem gX11_write_14 {X : Ctx} {z : Int32 × Mem} (hX : Fx wM X cX11_write 4 RX11 (some .int) (rmo 16 377)) (hQ : Qx_i wM X z) (hcs : cx_cells X = 0 ∧ cx_slots X = 0) (N : Nat) (v1 : Int32) (s0 : Int32) (μ : Mem) : G wM X z 14 [(0, .ref (cx_ad X 0)), (1, .int v1)] [.int s0, .ref (cx_ad X 0)] μ (fX11_write_14 N v1 s0 μ) := by
  unfold fX11_write_14
  refine pf_X11_104_M0 hX dX11_write_14 (fun μ => ?_)
  refine G_aload_n hX 0 rfl rfl dX11_write_17 ?_
  refine gf_X11_104_M0 hX dX11_write_18 ?_
  refine G_nmi (fun x2 => ?_)
  refine G_if_le hX 26 (by decide) dX11_write_21 ?_ ?_
  · refine G_aload_n hX 0 rfl rfl dX11_write_26 ?_
    refine G_iload_n hX 1 rfl rfl dX11_write_27 ?_
    refine G_cVi hX 0 11 (fun ad adK => [.int v1]) [] (fun z2 h2 => cX11_dutyOf_ok (cx_l X) N v1 μ z2 h2) ok_X11_dutyOf lm_X11_506 atM0.1 atM0.2 rfl rfl (fun _ _ => rfl) (Nat.le_of_ble_eq_true rfl) ⟨rfl, rfl, by decide, by decide⟩ (cs0 hcs) dX11_write_28 (fun r3 μ => ?_)
    refine G_istore_n hX [(2, .int r3), (0, .ref (cx_ad X 0)), (1, .int v1)] rfl (by decide) rfl dX11_write_31 ?_
    refine G_aload_n hX 1 rfl rfl dX11_write_32 ?_
    refine G_iconst hX (0 : Int32) rfl dX11_write_33 ?_
    refine pf_X11_526_M0 hX dX11_write_34 (fun μ => ?_)
    refine G_iconst hX (0 : Int32) rfl dX11_write_37 ?_
    refine G_istore_n hX [(3, .int (0 : Int32)), (2, .int r3), (0, .ref (cx_ad X 0)), (1, .int v1)] rfl (by decide) rfl dX11_write_38 ?_
    exact G_sub [2, 3, 1, 0] rfl (gX11_write_39 hX hQ hcs N N v1 r3 (0 : Int32) μ)
  · refine G_iconst hX (0 : Int32) rfl dX11_write_24 ?_
    exact G_iret hX hQ dX11_write_25
set_option maxHeartbeats 4000000 in
set_option maxRecDepth 100000 in
theorem gX11_write_E {X : Ctx} {z : Int32 × Mem} (hX : Fx wM X cX11_write 4 RX11 (some .int) (rmo 16 377)) (hQ : Qx_i wM X z) (hcs : cx_cells X = 0 ∧ cx_slots X = 0) (N : Nat) (p0 : Int32) (μ : Mem) : G wM X z 0 [(0, .ref (cx_ad X 0)), (1, .int p0)] [] μ (fX11_write N p0 μ) := by
  unfold fX11_write
  refine G_aload_n hX 0 rfl rfl dX11_write_0 ?_
  refine G_aload_n hX 0 rfl rfl dX11_write_1 ?_
  refine G_iload_n hX 1 rfl rfl dX11_write_2 ?_
  refine G_cVi hX 0 11 (fun ad adK => [.int p0]) [.ref (cx_ad X 0)] (fun z2 h2 => cX11_isFirm_ok (cx_l X) N p0 μ z2 h2) ok_X11_isFirm lm_X11_311 atM0.1 atM0.2 rfl rfl (fun _ _ => rfl) (Nat.le_of_ble_eq_true rfl) ⟨rfl, rfl, by decide, by decide⟩ (cs0 hcs) dX11_write_3 (fun r1 μ => ?_)
  refine G_if_eq hX 13 (by decide) dX11_write_6 ?_ ?_
  · refine G_iconst hX (1 : Int32) rfl dX11_write_13 ?_
    exact G_sub [0, 1] rfl (gX11_write_14 hX hQ hcs N p0 (1 : Int32) μ)
  · refine G_iconst hX (0 : Int32) rfl dX11_write_9 ?_
    refine G_goto hX 14 (by decide) dX11_write_10 ?_
    exact G_sub [0, 1] rfl (gX11_write_14 hX hQ hcs N p0 (0 : Int32) μ)
theorem cX11_write_ok (l : Launch) (N : Nat) (p0 : Int32) (μ : Mem) (z : Int32 × Mem) (h : fX11_write N p0 μ = some z) : Mi wM l yX11_write cX11_write 4 .int (rmo 16 377) (fun ad adK => [.ref (ad 0), .int p0]) μ z := Mi.of h (by decide +kernel) (fun _ _ => Nat.le_of_ble_eq_true rfl) (fun X hX hQ hl hcs => gX11_write_E hX hQ hcs N p0 μ)
/-! ===== DutyCaseModel.octet(I)I ===== -/
set_option maxHeartbeats 4000000 in
set_option maxRecDepth 100000 in
theorem gX11_octet_E {X : Ctx} {z : Int32 × Mem} (hX : Fx wM X cX11_octet 2 RX11 (some .int) (rmo 1 25)) (hQ : Qx_i wM X z) (hcs : cx_cells X = 0 ∧ cx_slots X = 0) (N : Nat) (p0 : Int32) (μ : Mem) : G wM X z 0 [(0, .ref (cx_ad X 0)), (1, .int p0)] [] μ (fX11_octet N p0 μ) := by
  unfold fX11_octet
  refine G_aload_n hX 0 rfl rfl dX11_octet_0 ?_
  refine G_iconst hX (0 : Int32) rfl dX11_octet_1 ?_
  refine pf_X11_104_M0 hX dX11_octet_2 (fun μ => ?_)
  refine G_iload_n hX 1 rfl rfl dX11_octet_5 ?_
  refine G_i2l hX dX11_octet_6 ?_
  refine G_lconst hX (0 : Int64) rfl dX11_octet_7 ?_
  refine G_aload_n hX 0 rfl rfl dX11_octet_8 ?_
  refine gf_X11_526_M0 hX dX11_octet_9 ?_
  refine G_nmi (fun x1 => ?_)
  refine G_iconst hX (1 : Int32) rfl dX11_octet_12 ?_
  refine G_isub hX dX11_octet_13 ?_
  refine G_i2l hX dX11_octet_14 ?_
  refine G_cSi hX (fun ad adK => [.long p0.toInt64, .long (0 : Int64), .long ((x1 - (1 : Int32)).toInt64)]) [] (fun z2 h2 => cX11_isIn_ok (cx_l X) N p0.toInt64 (0 : Int64) ((x1 - (1 : Int32)).toInt64) μ z2 h2) ok_X11_isIn lm_X11_301 rfl (fun _ _ => rfl) (Nat.le_of_ble_eq_true rfl) ⟨rfl, rfl, by decide, by decide⟩ (cs0 hcs) dX11_octet_15 (fun r2 μ => ?_)
  refine G_if_eq hX 30 (by decide) dX11_octet_18 ?_ ?_
  · refine G_iconst hX (-1 : Int32) rfl dX11_octet_30 ?_
    exact G_iret hX hQ dX11_octet_31
  · refine G_aload_n hX 0 rfl rfl dX11_octet_21 ?_
    refine gf_X11_101_M0 hX dX11_octet_22 ?_
    refine G_iload_n hX 1 rfl rfl dX11_octet_25 ?_
    refine G_aI hX atM29 dX11_octet_26 (fun x3 => ?_)
    refine G_goto hX 31 (by decide) dX11_octet_27 ?_
    exact G_iret hX hQ dX11_octet_31
theorem cX11_octet_ok (l : Launch) (N : Nat) (p0 : Int32) (μ : Mem) (z : Int32 × Mem) (h : fX11_octet N p0 μ = some z) : Mi wM l yX11_octet cX11_octet 2 .int (rmo 1 25) (fun ad adK => [.ref (ad 0), .int p0]) μ z := Mi.of h (by decide +kernel) (fun _ _ => Nat.le_of_ble_eq_true rfl) (fun X hX hQ hl hcs => gX11_octet_E hX hQ hcs N p0 μ)
/-! ===== DutyCaseModel.count(I)I ===== -/
set_option maxHeartbeats 4000000 in
set_option maxRecDepth 100000 in
theorem gX11_count_96 {X : Ctx} {z : Int32 × Mem} (hX : Fx wM X cX11_count 4 RX11 (some .int) (rmo 2 46)) (hQ : Qx_i wM X z) (hcs : cx_cells X = 0 ∧ cx_slots X = 0) (N : Nat) : ∀ (n : Nat) (v2 : Int32) (v3 : Int32) (μ : Mem), G wM X z 96 [(0, .ref (cx_ad X 0)), (2, .int v2), (3, .int v3)] [] μ (fX11_count_96 N n v2 v3 μ) := by
  intro n
  induction n with
  | zero =>
    intro v2 v3 μ
    exact G_none
  | succ n ih =>
    intro v2 v3 μ
    unfold fX11_count_96
    refine G_iload_n hX 2 rfl rfl dX11_count_96 ?_
    refine G_aload_n hX 0 rfl rfl dX11_count_97 ?_
    refine gf_X11_7_M0 hX dX11_count_98 ?_
    refine G_bipush hX (34 : Int32) rfl dX11_count_101 ?_
    refine G_aI hX atM1 dX11_count_103 (fun x6 => ?_)
    refine G_icmp_ge hX 129 (by decide) dX11_count_104 ?_ ?_
    · refine G_iload_n hX 1 rfl rfl dX11_count_129 ?_
      exact G_iret hX hQ dX11_count_130
    · refine G_iload_n hX 1 rfl rfl dX11_count_107 ?_
      refine G_aload_n hX 0 rfl rfl dX11_count_108 ?_
      refine G_iload_n hX 2 rfl rfl dX11_count_109 ?_
      refine G_cVi hX 0 11 (fun ad adK => [.int v3]) [.int v2] (fun z2 h2 => cX11_isSale_ok (cx_l X) N v3 μ z2 h2) ok_X11_isSale lm_X11_341 atM0.1 atM0.2 rfl rfl (fun _ _ => rfl) (Nat.le_of_ble_eq_true rfl) ⟨rfl, rfl, by decide, by decide⟩ (cs0 hcs) dX11_count_110 (fun r7 μ => ?_)
      refine G_if_eq hX 120 (by decide) dX11_count_113 ?_ ?_
      · refine G_iconst hX (0 : Int32) rfl dX11_count_120 ?_
        refine G_iadd hX dX11_count_121 ?_
        refine G_nmi (fun x8 => ?_)
        refine G_istore_n hX [(2, .int x8), (0, .ref (cx_ad X 0)), (3, .int v3)] rfl (by decide) rfl dX11_count_122 ?_
        refine G_iincN hX 2 (fun x9 => [(3, .int x9), (2, .int x8), (0, .ref (cx_ad X 0))]) rfl rfl (by decide) (fun _ => rfl) dX11_count_123 (fun x9 => ?_)
        refine G_goto hX 96 (by decide) dX11_count_126 ?_
        exact G_sub [2, 1, 0] rfl (ih x8 x9 μ)
      · refine G_iconst hX (1 : Int32) rfl dX11_count_116 ?_
        refine G_goto hX 121 (by decide) dX11_count_117 ?_
        refine G_iadd hX dX11_count_121 ?_
        refine G_nmi (fun x10 => ?_)
        refine G_istore_n hX [(2, .int x10), (0, .ref (cx_ad X 0)), (3, .int v3)] rfl (by decide) rfl dX11_count_122 ?_
        refine G_iincN hX 2 (fun x11 => [(3, .int x11), (2, .int x10), (0, .ref (cx_ad X 0))]) rfl rfl (by decide) (fun _ => rfl) dX11_count_123 (fun x11 => ?_)
        refine G_goto hX 96 (by decide) dX11_count_126 ?_
        exact G_sub [2, 1, 0] rfl (ih x10 x11 μ)
set_option maxHeartbeats 4000000 in
set_option maxRecDepth 100000 in
theorem gX11_count_175 {X : Ctx} {z : Int32 × Mem} (hX : Fx wM X cX11_count 4 RX11 (some .int) (rmo 2 46)) (hQ : Qx_i wM X z) (hcs : cx_cells X = 0 ∧ cx_slots X = 0) (N : Nat) (v1 : Int32) (μ : Mem) : G wM X z 175 [(0, .ref (cx_ad X 0)), (1, .int v1)] [] μ (fX11_count_175 N v1 μ) := by
  unfold fX11_count_175
  refine G_iload_n hX 1 rfl rfl dX11_count_175 ?_
  refine G_i2l hX dX11_count_176 ?_
  refine G_ldc2 hX lc_X11_543 dX11_count_177 ?_
  refine G_ldc2 hX lc_X11_545 dX11_count_180 ?_
  refine G_cSi hX (fun ad adK => [.long v1.toInt64, .long (4 : Int64), .long (9 : Int64)]) [] (fun z2 h2 => cX11_isIn_ok (cx_l X) N v1.toInt64 (4 : Int64) (9 : Int64) μ z2 h2) ok_X11_isIn lm_X11_301 rfl (fun _ _ => rfl) (Nat.le_of_ble_eq_true rfl) ⟨rfl, rfl, by decide, by decide⟩ (cs0 hcs) dX11_count_183 (fun r12 μ => ?_)
  refine G_if_eq hX 203 (by decide) dX11_count_186 ?_ ?_
  · refine G_iconst hX (-1 : Int32) rfl dX11_count_203 ?_
    exact G_iret hX hQ dX11_count_204
  · refine G_aload_n hX 0 rfl rfl dX11_count_189 ?_
    refine gf_X11_7_M0 hX dX11_count_190 ?_
    refine G_bipush hX (28 : Int32) rfl dX11_count_193 ?_
    refine G_iload_n hX 1 rfl rfl dX11_count_195 ?_
    refine G_iadd hX dX11_count_196 ?_
    refine G_iconst hX (4 : Int32) rfl dX11_count_197 ?_
    refine G_isub hX dX11_count_198 ?_
    refine G_aI hX atM1 dX11_count_199 (fun x13 => ?_)
    refine G_goto hX 204 (by decide) dX11_count_200 ?_
    exact G_iret hX hQ dX11_count_204
set_option maxHeartbeats 4000000 in
set_option maxRecDepth 100000 in
theorem gX11_count_143 {X : Ctx} {z : Int32 × Mem} (hX : Fx wM X cX11_count 4 RX11 (some .int) (rmo 2 46)) (hQ : Qx_i wM X z) (hcs : cx_cells X = 0 ∧ cx_slots X = 0) (N : Nat) : ∀ (n : Nat) (v2 : Int32) (v3 : Int32) (μ : Mem), G wM X z 143 [(0, .ref (cx_ad X 0)), (2, .int v2), (3, .int v3)] [] μ (fX11_count_143 N n v2 v3 μ) := by
  intro n
  induction n with
  | zero =>
    intro v2 v3 μ
    exact G_none
  | succ n ih =>
    intro v2 v3 μ
    unfold fX11_count_143
    refine G_iload_n hX 2 rfl rfl dX11_count_143 ?_
    refine G_aload_n hX 0 rfl rfl dX11_count_144 ?_
    refine gf_X11_291_M0 hX dX11_count_145 ?_
    refine G_nmi (fun x14 => ?_)
    refine G_icmp_ge hX 173 (by decide) dX11_count_148 ?_ ?_
    · refine G_iload_n hX 1 rfl rfl dX11_count_173 ?_
      exact G_iret hX hQ dX11_count_174
    · refine G_iload_n hX 1 rfl rfl dX11_count_151 ?_
      refine G_aload_n hX 0 rfl rfl dX11_count_152 ?_
      refine G_iload_n hX 2 rfl rfl dX11_count_153 ?_
      refine G_cVi hX 0 11 (fun ad adK => [.int v3]) [.int v2] (fun z2 h2 => cX11_isSilent_ok (cx_l X) N v3 μ z2 h2) ok_X11_isSilent lm_X11_473 atM0.1 atM0.2 rfl rfl (fun _ _ => rfl) (Nat.le_of_ble_eq_true rfl) ⟨rfl, rfl, by decide, by decide⟩ (cs0 hcs) dX11_count_154 (fun r15 μ => ?_)
      refine G_if_eq hX 164 (by decide) dX11_count_157 ?_ ?_
      · refine G_iconst hX (0 : Int32) rfl dX11_count_164 ?_
        refine G_iadd hX dX11_count_165 ?_
        refine G_nmi (fun x16 => ?_)
        refine G_istore_n hX [(2, .int x16), (0, .ref (cx_ad X 0)), (3, .int v3)] rfl (by decide) rfl dX11_count_166 ?_
        refine G_iincN hX 2 (fun x17 => [(3, .int x17), (2, .int x16), (0, .ref (cx_ad X 0))]) rfl rfl (by decide) (fun _ => rfl) dX11_count_167 (fun x17 => ?_)
        refine G_goto hX 143 (by decide) dX11_count_170 ?_
        exact G_sub [2, 1, 0] rfl (ih x16 x17 μ)
      · refine G_iconst hX (1 : Int32) rfl dX11_count_160 ?_
        refine G_goto hX 165 (by decide) dX11_count_161 ?_
        refine G_iadd hX dX11_count_165 ?_
        refine G_nmi (fun x18 => ?_)
        refine G_istore_n hX [(2, .int x18), (0, .ref (cx_ad X 0)), (3, .int v3)] rfl (by decide) rfl dX11_count_166 ?_
        refine G_iincN hX 2 (fun x19 => [(3, .int x19), (2, .int x18), (0, .ref (cx_ad X 0))]) rfl rfl (by decide) (fun _ => rfl) dX11_count_167 (fun x19 => ?_)
        refine G_goto hX 143 (by decide) dX11_count_170 ?_
        exact G_sub [2, 1, 0] rfl (ih x18 x19 μ)
set_option maxHeartbeats 4000000 in
set_option maxRecDepth 100000 in
theorem gX11_count_E {X : Ctx} {z : Int32 × Mem} (hX : Fx wM X cX11_count 4 RX11 (some .int) (rmo 2 46)) (hQ : Qx_i wM X z) (hcs : cx_cells X = 0 ∧ cx_slots X = 0) (N : Nat) (p0 : Int32) (μ : Mem) : G wM X z 0 [(0, .ref (cx_ad X 0)), (1, .int p0)] [] μ (fX11_count N p0 μ) := by
  unfold fX11_count
  refine G_aload_n hX 0 rfl rfl dX11_count_0 ?_
  refine G_iconst hX (0 : Int32) rfl dX11_count_1 ?_
  refine pf_X11_104_M0 hX dX11_count_2 (fun μ => ?_)
  refine G_iconst hX (0 : Int32) rfl dX11_count_5 ?_
  refine G_istore_n hX [(2, .int (0 : Int32)), (0, .ref (cx_ad X 0)), (1, .int p0)] rfl (by decide) rfl dX11_count_6 ?_
  refine G_iload_n hX 2 rfl rfl dX11_count_7 ?_
  refine G_sw (fun hc0 => ?_) (fun hc0 => ?_)
  · refine G_swIn hX 76 0 (0) (by rw [hc0]; rfl) (by decide) (by decide) rfl rfl (by decide) dX11_count_8 ?_
    refine G_aload_n hX 1 rfl rfl dX11_count_76 ?_
    refine gf_X11_288_M0 hX dX11_count_77 ?_
    refine G_nmi (fun x1 => ?_)
    exact G_iret hX hQ dX11_count_80
  refine G_sw (fun hc1 => ?_) (fun hc1 => ?_)
  · refine G_swIn hX 81 1 (1) (by rw [hc1]; rfl) (by decide) (by decide) rfl rfl (by decide) dX11_count_8 ?_
    refine G_aload_n hX 1 rfl rfl dX11_count_81 ?_
    refine gf_X11_291_M0 hX dX11_count_82 ?_
    refine G_nmi (fun x2 => ?_)
    exact G_iret hX hQ dX11_count_85
  refine G_sw (fun hc2 => ?_) (fun hc2 => ?_)
  · refine G_swIn hX 86 2 (2) (by rw [hc2]; rfl) (by decide) (by decide) rfl rfl (by decide) dX11_count_8 ?_
    refine G_aload_n hX 1 rfl rfl dX11_count_86 ?_
    refine gf_X11_7_M0 hX dX11_count_87 ?_
    refine G_bipush hX (34 : Int32) rfl dX11_count_90 ?_
    refine G_aI hX atM1 dX11_count_92 (fun x3 => ?_)
    exact G_iret hX hQ dX11_count_93
  refine G_sw (fun hc3 => ?_) (fun hc3 => ?_)
  · refine G_swIn hX 94 3 (3) (by rw [hc3]; rfl) (by decide) (by decide) rfl rfl (by decide) dX11_count_8 ?_
    refine G_iconst hX (0 : Int32) rfl dX11_count_94 ?_
    refine G_istore_n hX [(3, .int (0 : Int32)), (2, .int (0 : Int32)), (0, .ref (cx_ad X 0)), (1, .int p0)] rfl (by decide) rfl dX11_count_95 ?_
    exact G_sub [2, 1, 0] rfl (gX11_count_96 hX hQ hcs N N (0 : Int32) (0 : Int32) μ)
  refine G_sw (fun hc4 => ?_) (fun hc4 => ?_)
  · refine G_swIn hX 175 4 (4) (by rw [hc4]; rfl) (by decide) (by decide) rfl rfl (by decide) dX11_count_8 ?_
    exact G_sub [1, 2] rfl (gX11_count_175 hX hQ hcs N p0 μ)
  refine G_sw (fun hc5 => ?_) (fun hc5 => ?_)
  · refine G_swIn hX 175 5 (5) (by rw [hc5]; rfl) (by decide) (by decide) rfl rfl (by decide) dX11_count_8 ?_
    exact G_sub [1, 2] rfl (gX11_count_175 hX hQ hcs N p0 μ)
  refine G_sw (fun hc6 => ?_) (fun hc6 => ?_)
  · refine G_swIn hX 175 6 (6) (by rw [hc6]; rfl) (by decide) (by decide) rfl rfl (by decide) dX11_count_8 ?_
    exact G_sub [1, 2] rfl (gX11_count_175 hX hQ hcs N p0 μ)
  refine G_sw (fun hc7 => ?_) (fun hc7 => ?_)
  · refine G_swIn hX 175 7 (7) (by rw [hc7]; rfl) (by decide) (by decide) rfl rfl (by decide) dX11_count_8 ?_
    exact G_sub [1, 2] rfl (gX11_count_175 hX hQ hcs N p0 μ)
  refine G_sw (fun hc8 => ?_) (fun hc8 => ?_)
  · refine G_swIn hX 175 8 (8) (by rw [hc8]; rfl) (by decide) (by decide) rfl rfl (by decide) dX11_count_8 ?_
    exact G_sub [1, 2] rfl (gX11_count_175 hX hQ hcs N p0 μ)
  refine G_sw (fun hc9 => ?_) (fun hc9 => ?_)
  · refine G_swIn hX 175 9 (9) (by rw [hc9]; rfl) (by decide) (by decide) rfl rfl (by decide) dX11_count_8 ?_
    exact G_sub [1, 2] rfl (gX11_count_175 hX hQ hcs N p0 μ)
  refine G_sw (fun hc10 => ?_) (fun hc10 => ?_)
  · refine G_swIn hX 131 10 (10) (by rw [hc10]; rfl) (by decide) (by decide) rfl rfl (by decide) dX11_count_8 ?_
    refine G_aload_n hX 1 rfl rfl dX11_count_131 ?_
    refine gf_X11_294_M0 hX dX11_count_132 ?_
    refine G_nmi (fun x4 => ?_)
    exact G_iret hX hQ dX11_count_135
  refine G_sw (fun hc11 => ?_) (fun hc11 => ?_)
  · refine G_swIn hX 136 11 (11) (by rw [hc11]; rfl) (by decide) (by decide) rfl rfl (by decide) dX11_count_8 ?_
    refine G_aload_n hX 1 rfl rfl dX11_count_136 ?_
    refine gf_X11_526_M0 hX dX11_count_137 ?_
    refine G_nmi (fun x5 => ?_)
    exact G_iret hX hQ dX11_count_140
  refine G_sw (fun hc12 => ?_) (fun hc12 => ?_)
  · refine G_swIn hX 141 12 (12) (by rw [hc12]; rfl) (by decide) (by decide) rfl rfl (by decide) dX11_count_8 ?_
    refine G_iconst hX (0 : Int32) rfl dX11_count_141 ?_
    refine G_istore_n hX [(3, .int (0 : Int32)), (2, .int (0 : Int32)), (0, .ref (cx_ad X 0)), (1, .int p0)] rfl (by decide) rfl dX11_count_142 ?_
    exact G_sub [2, 1, 0] rfl (gX11_count_143 hX hQ hcs N N (0 : Int32) (0 : Int32) μ)
  refine G_swOut hX 175 (by decide) dX11_count_8 (by have e0 := lv_neT (a := (0 : Int)) hc0 rfl; have e1 := lv_neT (a := (1 : Int)) hc1 rfl; have e2 := lv_neT (a := (2 : Int)) hc2 rfl; have e3 := lv_neT (a := (3 : Int)) hc3 rfl; have e4 := lv_neT (a := (4 : Int)) hc4 rfl; have e5 := lv_neT (a := (5 : Int)) hc5 rfl; have e6 := lv_neT (a := (6 : Int)) hc6 rfl; have e7 := lv_neT (a := (7 : Int)) hc7 rfl; have e8 := lv_neT (a := (8 : Int)) hc8 rfl; have e9 := lv_neT (a := (9 : Int)) hc9 rfl; have e10 := lv_neT (a := (10 : Int)) hc10 rfl; have e11 := lv_neT (a := (11 : Int)) hc11 rfl; have e12 := lv_neT (a := (12 : Int)) hc12 rfl; omega) ?_
  exact G_sub [1, 2] rfl (gX11_count_175 hX hQ hcs N p0 μ)
theorem cX11_count_ok (l : Launch) (N : Nat) (p0 : Int32) (μ : Mem) (z : Int32 × Mem) (h : fX11_count N p0 μ = some z) : Mi wM l yX11_count cX11_count 4 .int (rmo 2 46) (fun ad adK => [.ref (ad 0), .int p0]) μ z := Mi.of h (by decide +kernel) (fun _ _ => Nat.le_of_ble_eq_true rfl) (fun X hX hQ hl hcs => gX11_count_E hX hQ hcs N p0 μ)
