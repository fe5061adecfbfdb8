/-! ===== DutyCase$Report.add(I)V ===== -/
set_option maxHeartbeats 4000000 in
set_option maxRecDepth 100000 in
theorem gX6_add_E {X : Ctx} {z : Unit × Mem} (hX : Fx wC X cX6_add 2 RX6 none (rmo 0 0)) (hQ : Qx_v wC X z) (hcs : cx_cells X = 0 ∧ cx_slots X = 0) (N : Nat) (p0 : Int32) (μ : Mem) : G wC X z 0 [(0, .ref (cx_ad X 6)), (1, .int p0)] [] μ (fX6_add N p0 μ) := by
  unfold fX6_add
  refine G_aload_n hX 0 rfl rfl dX6_add_0 ?_
  refine gf_X6_13_C6 hX dX6_add_1 ?_
  refine G_nmi (fun x1 => ?_)
  refine G_bipush hX (64 : Int32) rfl dX6_add_4 ?_
  refine G_icmp_ge hX 30 (by decide) dX6_add_6 ?_ ?_
  · exact G_vret hX hQ dX6_add_30
  · refine G_aload_n hX 0 rfl rfl dX6_add_9 ?_
    refine gf_X6_9_C6 hX dX6_add_10 ?_
    refine G_aload_n hX 0 rfl rfl dX6_add_13 ?_
    refine gf_X6_13_C6 hX dX6_add_14 ?_
    refine G_nmi (fun x2 => ?_)
    refine G_iload_n hX 1 rfl rfl dX6_add_17 ?_
    refine G_i2b hX dX6_add_18 ?_
    refine G_sB hX atC31 dX6_add_19 (fun μ => ?_)
    refine G_aload_n hX 0 rfl rfl dX6_add_20 ?_
    refine G_dup hX rfl dX6_add_21 ?_
    refine gf_X6_13_C6 hX dX6_add_22 ?_
    refine G_nmi (fun x3 => ?_)
    refine G_iconst hX (1 : Int32) rfl dX6_add_25 ?_
    refine G_iadd hX dX6_add_26 ?_
    refine G_nmi (fun x4 => ?_)
    refine pf_X6_13_C6 hX dX6_add_27 (fun μ => ?_)
    exact G_vret hX hQ dX6_add_30
theorem cX6_add_ok (l : Launch) (N : Nat) (p0 : Int32) (μ : Mem) (z : Unit × Mem) (h : fX6_add N p0 μ = some z) : Mv wC l yX6_add cX6_add 2 (rmo 0 0) (fun ad adK => [.ref (ad 6), .int p0]) μ z := Mv.of h (by decide +kernel) (fun _ _ => Nat.le_of_ble_eq_true rfl) (fun X hX hQ hl hcs => gX6_add_E hX hQ hcs N p0 μ)
/-! ===== DutyCase$Report.addText(Ljava/lang/String;)V ===== -/
set_option maxHeartbeats 4000000 in
set_option maxRecDepth 100000 in
theorem gX6_addText_2 {X : Ctx} {z : Unit × Mem} (hX : Fx wC X cX6_addText 3 RX6 none (rmo 4 85)) (hQ : Qx_v wC X z) (hcs : cx_cells X = 0 ∧ cx_slots X = 0) (N : Nat) : ∀ (n : Nat) (b0 : Nat) (v2 : Int32) (hb0 : kT b0) (μ : Mem), G wC X z 2 [(0, .ref (cx_ad X 6)), (1, .ref (cx_adK X b0)), (2, .int v2)] [] μ (fX6_addText_2 N n b0 v2 μ) := by
  intro n
  induction n with
  | zero =>
    intro b0 v2 hb0 μ
    exact G_none
  | succ n ih =>
    intro b0 v2 hb0 μ
    unfold fX6_addText_2
    refine G_iload_n hX 2 rfl rfl dX6_addText_2 ?_
    refine G_aload_n hX 1 rfl rfl dX6_addText_3 ?_
    refine G_cTi hX b0 (fun ad adK => []) [.int v2] (fun z2 h2 => cJ0_length_ok wC (cx_l X) b0 μ z2 h2) ok_J0_length_8abf5 lm_X6_17 hb0 rfl rfl (fun _ _ => rfl) (Nat.le_of_ble_eq_true rfl) ⟨rfl, rfl, by decide, by decide⟩ (cs0 hcs) dX6_addText_4 (fun r1 μ => ?_)
    refine G_icmp_ge hX 25 (by decide) dX6_addText_7 ?_ ?_
    · exact G_vret hX hQ dX6_addText_25
    · refine G_aload_n hX 0 rfl rfl dX6_addText_10 ?_
      refine G_aload_n hX 1 rfl rfl dX6_addText_11 ?_
      refine G_iload_n hX 2 rfl rfl dX6_addText_12 ?_
      refine G_cTi hX b0 (fun ad adK => [.int v2]) [.ref (cx_ad X 6)] (fun z2 h2 => cJ0_charAt_ok wC (cx_l X) b0 v2 μ z2 h2) ok_J0_charAt_5068e lm_X6_22 hb0 rfl rfl (fun _ _ => rfl) (Nat.le_of_ble_eq_true rfl) ⟨rfl, rfl, by decide, by decide⟩ (cs0 hcs) dX6_addText_13 (fun r2 μ => ?_)
      refine G_cVv hX 6 6 (fun ad adK => [.int r2]) [] (fun z2 h2 => cX6_add_ok (cx_l X) N r2 μ z2 h2) ok_X6_add lm_X6_26 atC6.1 atC6.2 rfl rfl (fun _ _ => rfl) (Nat.le_of_ble_eq_true rfl) ⟨rfl, rfl, by decide, by decide⟩ (cs0 hcs) dX6_addText_16 (fun μ => ?_)
      refine G_iincN hX 2 (fun x3 => [(2, .int x3), (0, .ref (cx_ad X 6)), (1, .ref (cx_adK X b0))]) rfl rfl (by decide) (fun _ => rfl) dX6_addText_19 (fun x3 => ?_)
      refine G_goto hX 2 (by decide) dX6_addText_22 ?_
      exact G_sub [1, 2, 0] rfl (ih b0 x3 hb0 μ)
set_option maxHeartbeats 4000000 in
set_option maxRecDepth 100000 in
theorem gX6_addText_E {X : Ctx} {z : Unit × Mem} (hX : Fx wC X cX6_addText 3 RX6 none (rmo 4 85)) (hQ : Qx_v wC X z) (hcs : cx_cells X = 0 ∧ cx_slots X = 0) (N : Nat) (p0 : Nat) (μ : Mem) : G wC X z 0 [(0, .ref (cx_ad X 6)), (1, .ref (cx_adK X p0))] [] μ (fX6_addText N p0 μ) := by
  unfold fX6_addText
  refine G_guard (fun hp0 => ?_)
  refine G_iconst hX (0 : Int32) rfl dX6_addText_0 ?_
  refine G_istore_n hX [(2, .int (0 : Int32)), (0, .ref (cx_ad X 6)), (1, .ref (cx_adK X p0))] rfl (by decide) rfl dX6_addText_1 ?_
  exact G_sub [1, 2, 0] rfl (gX6_addText_2 hX hQ hcs N N p0 (0 : Int32) hp0 μ)
theorem cX6_addText_ok (l : Launch) (N : Nat) (p0 : Nat) (μ : Mem) (z : Unit × Mem) (h : fX6_addText N p0 μ = some z) : Mv wC l yX6_addText cX6_addText 3 (rmo 4 85) (fun ad adK => [.ref (ad 6), .ref (adK p0)]) μ z := Mv.of h (by decide +kernel) (fun _ _ => Nat.le_of_ble_eq_true rfl) (fun X hX hQ hl hcs => gX6_addText_E hX hQ hcs N p0 μ)
/-! ===== DutyCase$Report.addHundredths(I)V ===== -/
set_option maxHeartbeats 4000000 in
set_option maxRecDepth 100000 in
theorem gX6_addHundredths_31 {X : Ctx} {z : Unit × Mem} (hX : Fx wC X cX6_addHundredths 3 RX6 none (rmo 1 21)) (hQ : Qx_v wC X z) (hcs : cx_cells X = 0 ∧ cx_slots X = 0) (N : Nat) (k4 : Int32 → Int32 → Mem → Option (Unit × Mem)) (hk4 : ∀ (v1 : Int32) (v2 : Int32) (μ : Mem), G wC X z 4 [(0, .ref (cx_ad X 6)), (1, .int v1), (2, .int v2)] [] μ (k4 v1 v2 μ)) (v1 : Int32) (v2 : Int32) (μ : Mem) : G wC X z 31 [(0, .ref (cx_ad X 6)), (1, .int v1), (2, .int v2)] [] μ (fX6_addHundredths_31 N k4 v1 v2 μ) := by
  unfold fX6_addHundredths_31
  refine G_aload_n hX 0 rfl rfl dX6_addHundredths_31 ?_
  refine G_bipush hX (48 : Int32) rfl dX6_addHundredths_32 ?_
  refine G_iload_n hX 1 rfl rfl dX6_addHundredths_34 ?_
  refine G_iload_n hX 2 rfl rfl dX6_addHundredths_35 ?_
  refine G_idv hX dX6_addHundredths_36 ?_
  refine G_bipush hX (10 : Int32) rfl dX6_addHundredths_37 ?_
  refine G_irem0 hX (by decide) dX6_addHundredths_39 ?_
  refine G_iadd hX dX6_addHundredths_40 ?_
  refine G_cVv hX 6 6 (fun ad adK => [.int ((48 : Int32) + ((v1 / v2) - (v1 / v2) / (10 : Int32) * (10 : Int32)))]) [] (fun z2 h2 => cX6_add_ok (cx_l X) N ((48 : Int32) + ((v1 / v2) - (v1 / v2) / (10 : Int32) * (10 : Int32))) μ z2 h2) ok_X6_add lm_X6_26 atC6.1 atC6.2 rfl rfl (fun _ _ => rfl) (Nat.le_of_ble_eq_true rfl) ⟨rfl, rfl, by decide, by decide⟩ (cs0 hcs) dX6_addHundredths_41 (fun μ => ?_)
  refine G_iload_n hX 2 rfl rfl dX6_addHundredths_44 ?_
  refine G_bipush hX (10 : Int32) rfl dX6_addHundredths_45 ?_
  refine G_idiv0 hX (by decide) dX6_addHundredths_47 ?_
  refine G_nmi (fun x2 => ?_)
  refine G_istore_n hX [(2, .int x2), (0, .ref (cx_ad X 6)), (1, .int v1)] rfl (by decide) rfl dX6_addHundredths_48 ?_
  refine G_goto hX 4 (by decide) dX6_addHundredths_49 ?_
  exact G_sub [1, 2, 0] rfl (hk4 v1 x2 μ)
set_option maxHeartbeats 4000000 in
set_option maxRecDepth 100000 in
theorem gX6_addHundredths_20 {X : Ctx} {z : Unit × Mem} (hX : Fx wC X cX6_addHundredths 3 RX6 none (rmo 1 21)) (hQ : Qx_v wC X z) (hcs : cx_cells X = 0 ∧ cx_slots X = 0) (N : Nat) (k4 : Int32 → Int32 → Mem → Option (Unit × Mem)) (hk4 : ∀ (v1 : Int32) (v2 : Int32) (μ : Mem), G wC X z 4 [(0, .ref (cx_ad X 6)), (1, .int v1), (2, .int v2)] [] μ (k4 v1 v2 μ)) (v1 : Int32) (v2 : Int32) (μ : Mem) : G wC X z 20 [(0, .ref (cx_ad X 6)), (1, .int v1), (2, .int v2)] [] μ (fX6_addHundredths_20 N k4 v1 v2 μ) := by
  unfold fX6_addHundredths_20
  refine G_iload_n hX 2 rfl rfl dX6_addHundredths_20 ?_
  refine G_bipush hX (100 : Int32) rfl dX6_addHundredths_21 ?_
  refine G_icmp_le hX 31 (by decide) dX6_addHundredths_23 ?_ ?_
  · exact G_sub [0, 1, 2] rfl (gX6_addHundredths_31 hX hQ hcs N k4 hk4 v1 v2 μ)
  · refine G_iload_n hX 1 rfl rfl dX6_addHundredths_26 ?_
    refine G_iload_n hX 2 rfl rfl dX6_addHundredths_27 ?_
    refine G_icmp_lt hX 44 (by decide) dX6_addHundredths_28 ?_ ?_
    · refine G_iload_n hX 2 rfl rfl dX6_addHundredths_44 ?_
      refine G_bipush hX (10 : Int32) rfl dX6_addHundredths_45 ?_
      refine G_idiv0 hX (by decide) dX6_addHundredths_47 ?_
      refine G_nmi (fun x1 => ?_)
      refine G_istore_n hX [(2, .int x1), (0, .ref (cx_ad X 6)), (1, .int v1)] rfl (by decide) rfl dX6_addHundredths_48 ?_
      refine G_goto hX 4 (by decide) dX6_addHundredths_49 ?_
      exact G_sub [1, 2, 0] rfl (hk4 v1 x1 μ)
    · exact G_sub [0, 1, 2] rfl (gX6_addHundredths_31 hX hQ hcs N k4 hk4 v1 v2 μ)
set_option maxHeartbeats 4000000 in
set_option maxRecDepth 100000 in
theorem gX6_addHundredths_4 {X : Ctx} {z : Unit × Mem} (hX : Fx wC X cX6_addHundredths 3 RX6 none (rmo 1 21)) (hQ : Qx_v wC X z) (hcs : cx_cells X = 0 ∧ cx_slots X = 0) (N : Nat) : ∀ (n : Nat) (v1 : Int32) (v2 : Int32) (μ : Mem), G wC X z 4 [(0, .ref (cx_ad X 6)), (1, .int v1), (2, .int v2)] [] μ (fX6_addHundredths_4 N n v1 v2 μ) := by
  intro n
  induction n with
  | zero =>
    intro v1 v2 μ
    exact G_none
  | succ n ih =>
    intro v1 v2 μ
    unfold fX6_addHundredths_4
    refine G_iload_n hX 2 rfl rfl dX6_addHundredths_4 ?_
    refine G_if_le hX 52 (by decide) dX6_addHundredths_5 ?_ ?_
    · exact G_vret hX hQ dX6_addHundredths_52
    · refine G_iload_n hX 2 rfl rfl dX6_addHundredths_8 ?_
      refine G_bipush hX (10 : Int32) rfl dX6_addHundredths_9 ?_
      refine G_icmp_ne hX 20 (by decide) dX6_addHundredths_11 ?_ ?_
      · exact G_sub [0, 1, 2] rfl (gX6_addHundredths_20 hX hQ hcs N (fun v1 v2 μ => fX6_addHundredths_4 N n v1 v2 μ) (fun v1 v2  μ => ih v1 v2  μ) v1 v2 μ)
      · refine G_aload_n hX 0 rfl rfl dX6_addHundredths_14 ?_
        refine G_bipush hX (46 : Int32) rfl dX6_addHundredths_15 ?_
        refine G_cVv hX 6 6 (fun ad adK => [.int (46 : Int32)]) [] (fun z2 h2 => cX6_add_ok (cx_l X) N (46 : Int32) μ z2 h2) ok_X6_add lm_X6_26 atC6.1 atC6.2 rfl rfl (fun _ _ => rfl) (Nat.le_of_ble_eq_true rfl) ⟨rfl, rfl, by decide, by decide⟩ (cs0 hcs) dX6_addHundredths_17 (fun μ => ?_)
        exact G_sub [0, 1, 2] rfl (gX6_addHundredths_20 hX hQ hcs N (fun v1 v2 μ => fX6_addHundredths_4 N n v1 v2 μ) (fun v1 v2  μ => ih v1 v2  μ) v1 v2 μ)
set_option maxHeartbeats 4000000 in
set_option maxRecDepth 100000 in
theorem gX6_addHundredths_E {X : Ctx} {z : Unit × Mem} (hX : Fx wC X cX6_addHundredths 3 RX6 none (rmo 1 21)) (hQ : Qx_v wC X z) (hcs : cx_cells X = 0 ∧ cx_slots X = 0) (N : Nat) (p0 : Int32) (μ : Mem) : G wC X z 0 [(0, .ref (cx_ad X 6)), (1, .int p0)] [] μ (fX6_addHundredths N p0 μ) := by
  unfold fX6_addHundredths
  refine G_sipush hX (10000 : Int32) rfl dX6_addHundredths_0 ?_
  refine G_istore_n hX [(2, .int (10000 : Int32)), (0, .ref (cx_ad X 6)), (1, .int p0)] rfl (by decide) rfl dX6_addHundredths_3 ?_
  exact G_sub [1, 2, 0] rfl (gX6_addHundredths_4 hX hQ hcs N N p0 (10000 : Int32) μ)
theorem cX6_addHundredths_ok (l : Launch) (N : Nat) (p0 : Int32) (μ : Mem) (z : Unit × Mem) (h : fX6_addHundredths N p0 μ = some z) : Mv wC l yX6_addHundredths cX6_addHundredths 3 (rmo 1 21) (fun ad adK => [.ref (ad 6), .int p0]) μ z := Mv.of h (by decide +kernel) (fun _ _ => Nat.le_of_ble_eq_true rfl) (fun X hX hQ hl hcs => gX6_addHundredths_E hX hQ hcs N p0 μ)
