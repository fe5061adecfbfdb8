set_option maxRecDepth 100000 in
theorem wo_X4 : Cond.methodLink RX4 3 Lib.objectInit ∈ tb := tb_1 (List.mem_of_getElem? (i := 44) rfl) rfl
def bk_X4 (cA : Nat → ClassId) (u : Nat → Nat) : va_W := [(u 0, .inr (4, [.ref (u 1), .ref (u 2), .int 0])), (u 1, .inl (cA 2, 36, .inl (fun _ => 0))), (u 2, .inl (cA 0, 6, .inl (fun _ => 0)))]
set_option maxHeartbeats 4000000 in
set_option maxRecDepth 100000 in
theorem cX4_init_mk (l : Launch) : Mk l yX4_init cX4_init 1 (rmx 1 20 2 42) 2 42 [] (.inr (4, [.null, .null, .int 0])) (bk_X4) := Mk.of (by decide +kernel) rfl (fun _ => Nat.le_of_ble_eq_true rfl) (fun X h0 hX hl hQ hA => by
  refine GC_aload_n hX 0 rfl rfl dX4_init_0 ?_
  refine GC_obj hX wo_X4 ⟨Nat.le_of_ble_eq_true rfl, Nat.le_of_ble_eq_true rfl⟩ dX4_init_1 ?_
  refine GC_aload_n hX 0 rfl rfl dX4_init_4 ?_
  refine GC_bipush hX (36 : Int32) rfl dX4_init_5 ?_
  refine GC_newByte hX 36 (by decide) (by decide) (Nat.le_of_ble_eq_true rfl) ⟨Nat.le_of_ble_eq_true rfl, Nat.le_of_ble_eq_true rfl⟩ dX4_init_7 (fun q7 => ?_)
  refine GC_putF (j := 0) hX 4 (.array .byte) rfl in_X4 tyX4 tyX4_ok nmX4 ⟨rfl, rfl, rfl, rfl, rfl⟩ (by decide) lf_X4_9 rfl rfl rfl (Nat.le_of_ble_eq_true rfl) [.ref q7, .null, .int 0] rfl dX4_init_9 ?_
  refine GC_aload_n hX 0 rfl rfl dX4_init_12 ?_
  refine GC_bipush hX (6 : Int32) rfl dX4_init_13 ?_
  refine GC_newInt hX 6 (by decide) (by decide) (Nat.le_of_ble_eq_true rfl) ⟨Nat.le_of_ble_eq_true rfl, Nat.le_of_ble_eq_true rfl⟩ dX4_init_15 (fun q15 => ?_)
  refine GC_putF (j := 1) hX 4 (.array .int) rfl in_X4 tyX4 tyX4_ok nmX4 ⟨rfl, rfl, rfl, rfl, rfl⟩ (by decide) lf_X4_15 rfl rfl rfl (Nat.le_of_ble_eq_true rfl) [.ref q7, .ref q15, .int 0] rfl dX4_init_17 ?_
  exact GC_ret hX hQ hA ⟨Nat.le_of_ble_eq_true rfl, Nat.le_of_ble_eq_true rfl⟩ (fun k => [h0, q7, q15].getD k 0) rfl rfl dX4_init_20)
theorem df_X4 : ∀ j, j < 3 → defaultValue (tyX4 j) = vp_V [.null, .null, .int 0] j := by decide +kernel
set_option maxRecDepth 100000 in
theorem wo_X6 : Cond.methodLink RX6 1 Lib.objectInit ∈ tb := tb_2 (List.mem_of_getElem? (i := 181) rfl) rfl
def bk_X6 (cA : Nat → ClassId) (u : Nat → Nat) : va_W := [(u 0, .inr (6, [.ref (u 1), .int 0])), (u 1, .inl (cA 2, 64, .inl (fun _ => 0)))]
set_option maxHeartbeats 4000000 in
set_option maxRecDepth 100000 in
theorem cX6_init_mk (l : Launch) : Mk l yX6_init cX6_init 1 (rmx 1 20 1 64) 1 64 [] (.inr (6, [.null, .int 0])) (bk_X6) := Mk.of (by decide +kernel) rfl (fun _ => Nat.le_of_ble_eq_true rfl) (fun X h0 hX hl hQ hA => by
  refine GC_aload_n hX 0 rfl rfl dX6_init_0 ?_
  refine GC_obj hX wo_X6 ⟨Nat.le_of_ble_eq_true rfl, Nat.le_of_ble_eq_true rfl⟩ dX6_init_1 ?_
  refine GC_aload_n hX 0 rfl rfl dX6_init_4 ?_
  refine GC_bipush hX (64 : Int32) rfl dX6_init_5 ?_
  refine GC_newByte hX 64 (by decide) (by decide) (Nat.le_of_ble_eq_true rfl) ⟨Nat.le_of_ble_eq_true rfl, Nat.le_of_ble_eq_true rfl⟩ dX6_init_7 (fun q7 => ?_)
  refine GC_putF (j := 0) hX 6 (.array .byte) rfl in_X6 tyX6 tyX6_ok nmX6 ⟨rfl, rfl, rfl, rfl, rfl⟩ (by decide) lf_X6_9 rfl rfl rfl (Nat.le_of_ble_eq_true rfl) [.ref q7, .int 0] rfl dX6_init_9 ?_
  exact GC_ret hX hQ hA ⟨Nat.le_of_ble_eq_true rfl, Nat.le_of_ble_eq_true rfl⟩ (fun k => [h0, q7].getD k 0) rfl rfl dX6_init_12)
theorem df_X6 : ∀ j, j < 2 → defaultValue (tyX6 j) = vp_V [.null, .int 0] j := by decide +kernel
set_option maxRecDepth 100000 in
theorem wo_X7 : Cond.methodLink RX7 3 Lib.objectInit ∈ tb := tb_1 (List.mem_of_getElem? (i := 93) rfl) rfl
def bk_X7 (cA : Nat → ClassId) (u : Nat → Nat) : va_W := [(u 0, .inr (7, [.ref (u 1), .ref (u 2), .ref (u 3), .ref (u 4), .ref (u 5), .ref (u 6), .ref (u 7), .ref (u 8), .ref (u 9), .ref (u 10), .int 0])), (u 1, .inl (cA 0, 40, .inl (fun _ => 0))), (u 2, .inl (cA 0, 40, .inl (fun _ => 0))), (u 3, .inl (cA 0, 40, .inl (fun _ => 0))), (u 4, .inl (cA 0, 40, .inl (fun _ => 0))), (u 5, .inl (cA 0, 40, .inl (fun _ => 0))), (u 6, .inl (cA 0, 40, .inl (fun _ => 0))), (u 7, .inl (cA 0, 40, .inl (fun _ => 0))), (u 8, .inl (cA 0, 40, .inl (fun _ => 0))), (u 9, .inl (cA 0, 40, .inl (fun _ => 0))), (u 10, .inl (cA 3, 40, .inl (fun _ => 0)))]
set_option maxHeartbeats 4000000 in
set_option maxRecDepth 100000 in
theorem cX7_init_mk (l : Launch) : Mk l yX7_init cX7_init 1 (rmx 1 20 10 400) 10 400 [] (.inr (7, [.null, .null, .null, .null, .null, .null, .null, .null, .null, .null, .int 0])) (bk_X7) := Mk.of (by decide +kernel) rfl (fun _ => Nat.le_of_ble_eq_true rfl) (fun X h0 hX hl hQ hA => by
  refine GC_aload_n hX 0 rfl rfl dX7_init_0 ?_
  refine GC_obj hX wo_X7 ⟨Nat.le_of_ble_eq_true rfl, Nat.le_of_ble_eq_true rfl⟩ dX7_init_1 ?_
  refine GC_aload_n hX 0 rfl rfl dX7_init_4 ?_
  refine GC_bipush hX (40 : Int32) rfl dX7_init_5 ?_
  refine GC_newInt hX 40 (by decide) (by decide) (Nat.le_of_ble_eq_true rfl) ⟨Nat.le_of_ble_eq_true rfl, Nat.le_of_ble_eq_true rfl⟩ dX7_init_7 (fun q7 => ?_)
  refine GC_putF (j := 0) hX 7 (.array .int) rfl in_X7 tyX7 tyX7_ok nmX7 ⟨rfl, rfl, rfl, rfl, rfl⟩ (by decide) lf_X7_9 rfl rfl rfl (Nat.le_of_ble_eq_true rfl) [.ref q7, .null, .null, .null, .null, .null, .null, .null, .null, .null, .int 0] rfl dX7_init_9 ?_
  refine GC_aload_n hX 0 rfl rfl dX7_init_12 ?_
  refine GC_bipush hX (40 : Int32) rfl dX7_init_13 ?_
  refine GC_newInt hX 40 (by decide) (by decide) (Nat.le_of_ble_eq_true rfl) ⟨Nat.le_of_ble_eq_true rfl, Nat.le_of_ble_eq_true rfl⟩ dX7_init_15 (fun q15 => ?_)
  refine GC_putF (j := 1) hX 7 (.array .int) rfl in_X7 tyX7 tyX7_ok nmX7 ⟨rfl, rfl, rfl, rfl, rfl⟩ (by decide) lf_X7_15 rfl rfl rfl (Nat.le_of_ble_eq_true rfl) [.ref q7, .ref q15, .null, .null, .null, .null, .null, .null, .null, .null, .int 0] rfl dX7_init_17 ?_
  refine GC_aload_n hX 0 rfl rfl dX7_init_20 ?_
  refine GC_bipush hX (40 : Int32) rfl dX7_init_21 ?_
  refine GC_newInt hX 40 (by decide) (by decide) (Nat.le_of_ble_eq_true rfl) ⟨Nat.le_of_ble_eq_true rfl, Nat.le_of_ble_eq_true rfl⟩ dX7_init_23 (fun q23 => ?_)
  refine GC_putF (j := 2) hX 7 (.array .int) rfl in_X7 tyX7 tyX7_ok nmX7 ⟨rfl, rfl, rfl, rfl, rfl⟩ (by decide) lf_X7_18 rfl rfl rfl (Nat.le_of_ble_eq_true rfl) [.ref q7, .ref q15, .ref q23, .null, .null, .null, .null, .null, .null, .null, .int 0] rfl dX7_init_25 ?_
  refine GC_aload_n hX 0 rfl rfl dX7_init_28 ?_
  refine GC_bipush hX (40 : Int32) rfl dX7_init_29 ?_
  refine GC_newInt hX 40 (by decide) (by decide) (Nat.le_of_ble_eq_true rfl) ⟨Nat.le_of_ble_eq_true rfl, Nat.le_of_ble_eq_true rfl⟩ dX7_init_31 (fun q31 => ?_)
  refine GC_putF (j := 3) hX 7 (.array .int) rfl in_X7 tyX7 tyX7_ok nmX7 ⟨rfl, rfl, rfl, rfl, rfl⟩ (by decide) lf_X7_21 rfl rfl rfl (Nat.le_of_ble_eq_true rfl) [.ref q7, .ref q15, .ref q23, .ref q31, .null, .null, .null, .null, .null, .null, .int 0] rfl dX7_init_33 ?_
  refine GC_aload_n hX 0 rfl rfl dX7_init_36 ?_
  refine GC_bipush hX (40 : Int32) rfl dX7_init_37 ?_
  refine GC_newInt hX 40 (by decide) (by decide) (Nat.le_of_ble_eq_true rfl) ⟨Nat.le_of_ble_eq_true rfl, Nat.le_of_ble_eq_true rfl⟩ dX7_init_39 (fun q39 => ?_)
  refine GC_putF (j := 4) hX 7 (.array .int) rfl in_X7 tyX7 tyX7_ok nmX7 ⟨rfl, rfl, rfl, rfl, rfl⟩ (by decide) lf_X7_24 rfl rfl rfl (Nat.le_of_ble_eq_true rfl) [.ref q7, .ref q15, .ref q23, .ref q31, .ref q39, .null, .null, .null, .null, .null, .int 0] rfl dX7_init_41 ?_
  refine GC_aload_n hX 0 rfl rfl dX7_init_44 ?_
  refine GC_bipush hX (40 : Int32) rfl dX7_init_45 ?_
  refine GC_newInt hX 40 (by decide) (by decide) (Nat.le_of_ble_eq_true rfl) ⟨Nat.le_of_ble_eq_true rfl, Nat.le_of_ble_eq_true rfl⟩ dX7_init_47 (fun q47 => ?_)
  refine GC_putF (j := 5) hX 7 (.array .int) rfl in_X7 tyX7 tyX7_ok nmX7 ⟨rfl, rfl, rfl, rfl, rfl⟩ (by decide) lf_X7_27 rfl rfl rfl (Nat.le_of_ble_eq_true rfl) [.ref q7, .ref q15, .ref q23, .ref q31, .ref q39, .ref q47, .null, .null, .null, .null, .int 0] rfl dX7_init_49 ?_
  refine GC_aload_n hX 0 rfl rfl dX7_init_52 ?_
  refine GC_bipush hX (40 : Int32) rfl dX7_init_53 ?_
  refine GC_newInt hX 40 (by decide) (by decide) (Nat.le_of_ble_eq_true rfl) ⟨Nat.le_of_ble_eq_true rfl, Nat.le_of_ble_eq_true rfl⟩ dX7_init_55 (fun q55 => ?_)
  refine GC_putF (j := 6) hX 7 (.array .int) rfl in_X7 tyX7 tyX7_ok nmX7 ⟨rfl, rfl, rfl, rfl, rfl⟩ (by decide) lf_X7_30 rfl rfl rfl (Nat.le_of_ble_eq_true rfl) [.ref q7, .ref q15, .ref q23, .ref q31, .ref q39, .ref q47, .ref q55, .null, .null, .null, .int 0] rfl dX7_init_57 ?_
  refine GC_aload_n hX 0 rfl rfl dX7_init_60 ?_
  refine GC_bipush hX (40 : Int32) rfl dX7_init_61 ?_
  refine GC_newInt hX 40 (by decide) (by decide) (Nat.le_of_ble_eq_true rfl) ⟨Nat.le_of_ble_eq_true rfl, Nat.le_of_ble_eq_true rfl⟩ dX7_init_63 (fun q63 => ?_)
  refine GC_putF (j := 7) hX 7 (.array .int) rfl in_X7 tyX7 tyX7_ok nmX7 ⟨rfl, rfl, rfl, rfl, rfl⟩ (by decide) lf_X7_33 rfl rfl rfl (Nat.le_of_ble_eq_true rfl) [.ref q7, .ref q15, .ref q23, .ref q31, .ref q39, .ref q47, .ref q55, .ref q63, .null, .null, .int 0] rfl dX7_init_65 ?_
  refine GC_aload_n hX 0 rfl rfl dX7_init_68 ?_
  refine GC_bipush hX (40 : Int32) rfl dX7_init_69 ?_
  refine GC_newInt hX 40 (by decide) (by decide) (Nat.le_of_ble_eq_true rfl) ⟨Nat.le_of_ble_eq_true rfl, Nat.le_of_ble_eq_true rfl⟩ dX7_init_71 (fun q71 => ?_)
  refine GC_putF (j := 8) hX 7 (.array .int) rfl in_X7 tyX7 tyX7_ok nmX7 ⟨rfl, rfl, rfl, rfl, rfl⟩ (by decide) lf_X7_36 rfl rfl rfl (Nat.le_of_ble_eq_true rfl) [.ref q7, .ref q15, .ref q23, .ref q31, .ref q39, .ref q47, .ref q55, .ref q63, .ref q71, .null, .int 0] rfl dX7_init_73 ?_
  refine GC_aload_n hX 0 rfl rfl dX7_init_76 ?_
  refine GC_bipush hX (40 : Int32) rfl dX7_init_77 ?_
  refine GC_newBool hX 40 (by decide) (by decide) (Nat.le_of_ble_eq_true rfl) ⟨Nat.le_of_ble_eq_true rfl, Nat.le_of_ble_eq_true rfl⟩ dX7_init_79 (fun q79 => ?_)
  refine GC_putF (j := 9) hX 7 (.array .boolean) rfl in_X7 tyX7 tyX7_ok nmX7 ⟨rfl, rfl, rfl, rfl, rfl⟩ (by decide) lf_X7_39 rfl rfl rfl (Nat.le_of_ble_eq_true rfl) [.ref q7, .ref q15, .ref q23, .ref q31, .ref q39, .ref q47, .ref q55, .ref q63, .ref q71, .ref q79, .int 0] rfl dX7_init_81 ?_
  exact GC_ret hX hQ hA ⟨Nat.le_of_ble_eq_true rfl, Nat.le_of_ble_eq_true rfl⟩ (fun k => [h0, q7, q15, q23, q31, q39, q47, q55, q63, q71, q79].getD k 0) rfl rfl dX7_init_84)
theorem df_X7 : ∀ j, j < 11 → defaultValue (tyX7 j) = vp_V [.null, .null, .null, .null, .null, .null, .null, .null, .null, .null, .int 0] j := by decide +kernel
set_option maxRecDepth 100000 in
theorem wo_X9 : Cond.methodLink RX9 3 Lib.objectInit ∈ tb := tb_1 (List.mem_of_getElem? (i := 68) rfl) rfl
def bk_X9 (cA : Nat → ClassId) (u : Nat → Nat) : va_W := [(u 0, .inr (9, [.ref (u 1), .ref (u 2), .ref (u 3), .ref (u 4), .int 0])), (u 1, .inl (cA 0, 400, .inl (fun _ => 0))), (u 2, .inl (cA 0, 3, .inl (fun _ => 0))), (u 3, .inl (cA 0, 3, .inl (fun _ => 0))), (u 4, .inl (cA 1, 16, .inr (.inl (fun _ => 0))))]
set_option maxHeartbeats 4000000 in
set_option maxRecDepth 100000 in
theorem cX9_init_mk (l : Launch) : Mk l yX9_init cX9_init 1 (rmx 1 20 4 422) 4 422 [] (.inr (9, [.null, .null, .null, .null, .int 0])) (bk_X9) := Mk.of (by decide +kernel) rfl (fun _ => Nat.le_of_ble_eq_true rfl) (fun X h0 hX hl hQ hA => by
  refine GC_aload_n hX 0 rfl rfl dX9_init_0 ?_
  refine GC_obj hX wo_X9 ⟨Nat.le_of_ble_eq_true rfl, Nat.le_of_ble_eq_true rfl⟩ dX9_init_1 ?_
  refine GC_aload_n hX 0 rfl rfl dX9_init_4 ?_
  refine GC_sipush hX (400 : Int32) rfl dX9_init_5 ?_
  refine GC_newInt hX 400 (by decide) (by decide) (Nat.le_of_ble_eq_true rfl) ⟨Nat.le_of_ble_eq_true rfl, Nat.le_of_ble_eq_true rfl⟩ dX9_init_8 (fun q8 => ?_)
  refine GC_putF (j := 0) hX 9 (.array .int) rfl in_X9 tyX9 tyX9_ok nmX9 ⟨rfl, rfl, rfl, rfl, rfl⟩ (by decide) lf_X9_9 rfl rfl rfl (Nat.le_of_ble_eq_true rfl) [.ref q8, .null, .null, .null, .int 0] rfl dX9_init_10 ?_
  refine GC_aload_n hX 0 rfl rfl dX9_init_13 ?_
  refine GC_iconst hX (3 : Int32) rfl dX9_init_14 ?_
  refine GC_newInt hX 3 (by decide) (by decide) (Nat.le_of_ble_eq_true rfl) ⟨Nat.le_of_ble_eq_true rfl, Nat.le_of_ble_eq_true rfl⟩ dX9_init_15 (fun q15 => ?_)
  refine GC_putF (j := 1) hX 9 (.array .int) rfl in_X9 tyX9 tyX9_ok nmX9 ⟨rfl, rfl, rfl, rfl, rfl⟩ (by decide) lf_X9_15 rfl rfl rfl (Nat.le_of_ble_eq_true rfl) [.ref q8, .ref q15, .null, .null, .int 0] rfl dX9_init_17 ?_
  refine GC_aload_n hX 0 rfl rfl dX9_init_20 ?_
  refine GC_iconst hX (3 : Int32) rfl dX9_init_21 ?_
  refine GC_newInt hX 3 (by decide) (by decide) (Nat.le_of_ble_eq_true rfl) ⟨Nat.le_of_ble_eq_true rfl, Nat.le_of_ble_eq_true rfl⟩ dX9_init_22 (fun q22 => ?_)
  refine GC_putF (j := 2) hX 9 (.array .int) rfl in_X9 tyX9 tyX9_ok nmX9 ⟨rfl, rfl, rfl, rfl, rfl⟩ (by decide) lf_X9_18 rfl rfl rfl (Nat.le_of_ble_eq_true rfl) [.ref q8, .ref q15, .ref q22, .null, .int 0] rfl dX9_init_24 ?_
  refine GC_aload_n hX 0 rfl rfl dX9_init_27 ?_
  refine GC_bipush hX (16 : Int32) rfl dX9_init_28 ?_
  refine GC_newLong hX 16 (by decide) (by decide) (Nat.le_of_ble_eq_true rfl) ⟨Nat.le_of_ble_eq_true rfl, Nat.le_of_ble_eq_true rfl⟩ dX9_init_30 (fun q30 => ?_)
  refine GC_putF (j := 3) hX 9 (.array .long) rfl in_X9 tyX9 tyX9_ok nmX9 ⟨rfl, rfl, rfl, rfl, rfl⟩ (by decide) lf_X9_21 rfl rfl rfl (Nat.le_of_ble_eq_true rfl) [.ref q8, .ref q15, .ref q22, .ref q30, .int 0] rfl dX9_init_32 ?_
  exact GC_ret hX hQ hA ⟨Nat.le_of_ble_eq_true rfl, Nat.le_of_ble_eq_true rfl⟩ (fun k => [h0, q8, q15, q22, q30].getD k 0) rfl rfl dX9_init_35)
theorem df_X9 : ∀ j, j < 5 → defaultValue (tyX9 j) = vp_V [.null, .null, .null, .null, .int 0] j := by decide +kernel
set_option maxRecDepth 100000 in
theorem wo_X0 : Cond.methodLink RX0 3 Lib.objectInit ∈ tb := tb_2 (List.mem_of_getElem? (i := 35) rfl) rfl
def bk_X0 (cA : Nat → ClassId) (u : Nat → Nat) : va_W := [(u 0, .inr (0, [.ref (u 1), .ref (u 2), .ref (u 3), .int 0, .int 0])), (u 1, .inl (cA 0, 16, .inl (fun _ => 0))), (u 2, .inl (cA 0, 16, .inl (fun _ => 0))), (u 3, .inl (cA 0, 16, .inl (fun _ => 0)))]
set_option maxHeartbeats 4000000 in
set_option maxRecDepth 100000 in
theorem cX0_init_mk (l : Launch) : Mk l yX0_init cX0_init 1 (rmx 1 20 3 48) 3 48 [] (.inr (0, [.null, .null, .null, .int 0, .int 0])) (bk_X0) := Mk.of (by decide +kernel) rfl (fun _ => Nat.le_of_ble_eq_true rfl) (fun X h0 hX hl hQ hA => by
  refine GC_aload_n hX 0 rfl rfl dX0_init_0 ?_
  refine GC_obj hX wo_X0 ⟨Nat.le_of_ble_eq_true rfl, Nat.le_of_ble_eq_true rfl⟩ dX0_init_1 ?_
  refine GC_aload_n hX 0 rfl rfl dX0_init_4 ?_
  refine GC_bipush hX (16 : Int32) rfl dX0_init_5 ?_
  refine GC_newInt hX 16 (by decide) (by decide) (Nat.le_of_ble_eq_true rfl) ⟨Nat.le_of_ble_eq_true rfl, Nat.le_of_ble_eq_true rfl⟩ dX0_init_7 (fun q7 => ?_)
  refine GC_putF (j := 0) hX 0 (.array .int) rfl in_X0 tyX0 tyX0_ok nmX0 ⟨rfl, rfl, rfl, rfl, rfl⟩ (by decide) lf_X0_11 rfl rfl rfl (Nat.le_of_ble_eq_true rfl) [.ref q7, .null, .null, .int 0, .int 0] rfl dX0_init_9 ?_
  refine GC_aload_n hX 0 rfl rfl dX0_init_12 ?_
  refine GC_bipush hX (16 : Int32) rfl dX0_init_13 ?_
  refine GC_newInt hX 16 (by decide) (by decide) (Nat.le_of_ble_eq_true rfl) ⟨Nat.le_of_ble_eq_true rfl, Nat.le_of_ble_eq_true rfl⟩ dX0_init_15 (fun q15 => ?_)
  refine GC_putF (j := 1) hX 0 (.array .int) rfl in_X0 tyX0 tyX0_ok nmX0 ⟨rfl, rfl, rfl, rfl, rfl⟩ (by decide) lf_X0_15 rfl rfl rfl (Nat.le_of_ble_eq_true rfl) [.ref q7, .ref q15, .null, .int 0, .int 0] rfl dX0_init_17 ?_
  refine GC_aload_n hX 0 rfl rfl dX0_init_20 ?_
  refine GC_bipush hX (16 : Int32) rfl dX0_init_21 ?_
  refine GC_newInt hX 16 (by decide) (by decide) (Nat.le_of_ble_eq_true rfl) ⟨Nat.le_of_ble_eq_true rfl, Nat.le_of_ble_eq_true rfl⟩ dX0_init_23 (fun q23 => ?_)
  refine GC_putF (j := 2) hX 0 (.array .int) rfl in_X0 tyX0 tyX0_ok nmX0 ⟨rfl, rfl, rfl, rfl, rfl⟩ (by decide) lf_X0_18 rfl rfl rfl (Nat.le_of_ble_eq_true rfl) [.ref q7, .ref q15, .ref q23, .int 0, .int 0] rfl dX0_init_25 ?_
  exact GC_ret hX hQ hA ⟨Nat.le_of_ble_eq_true rfl, Nat.le_of_ble_eq_true rfl⟩ (fun k => [h0, q7, q15, q23].getD k 0) rfl rfl dX0_init_28)
theorem df_X0 : ∀ j, j < 5 → defaultValue (tyX0 j) = vp_V [.null, .null, .null, .int 0, .int 0] j := by decide +kernel
set_option maxRecDepth 100000 in
theorem wo_X1 : Cond.methodLink RX1 3 Lib.objectInit ∈ tb := tb_1 (List.mem_of_getElem? (i := 38) rfl) rfl
set_option maxRecDepth 100000 in
theorem wk_X1_9 : Cond.classLink RX1 9 RX4 ∈ tb := tb_1 (List.mem_of_getElem? (i := 39) rfl) rfl
set_option maxRecDepth 100000 in
theorem wi_X4 : Cond.instantiable RX4 3 ∈ tb := tb_1 (List.mem_of_getElem? (i := 40) rfl) rfl
set_option maxRecDepth 100000 in
theorem wn_X4 : Cond.initialized RX4 ∈ tb := tb_1 (List.mem_of_getElem? (i := 3) rfl) rfl
set_option maxRecDepth 100000 in
theorem wm_X4 : Cond.instanceMethod yX4_init ∈ tb := tb_1 (List.mem_of_getElem? (i := 42) rfl) rfl
set_option maxRecDepth 100000 in
theorem wc_X4 : Cond.code yX4_init cX4_init 1 none ∈ tb := tb_1 (List.mem_of_getElem? (i := 43) rfl) rfl
set_option maxRecDepth 100000 in
theorem wk_X1_38 : Cond.classLink RX1 38 RX9 ∈ tb := tb_1 (List.mem_of_getElem? (i := 63) rfl) rfl
set_option maxRecDepth 100000 in
theorem wi_X9 : Cond.instantiable RX9 5 ∈ tb := tb_1 (List.mem_of_getElem? (i := 64) rfl) rfl
set_option maxRecDepth 100000 in
theorem wn_X9 : Cond.initialized RX9 ∈ tb := tb_1 (List.mem_of_getElem? (i := 4) rfl) rfl
set_option maxRecDepth 100000 in
theorem wm_X9 : Cond.instanceMethod yX9_init ∈ tb := tb_1 (List.mem_of_getElem? (i := 66) rfl) rfl
set_option maxRecDepth 100000 in
theorem wc_X9 : Cond.code yX9_init cX9_init 1 none ∈ tb := tb_1 (List.mem_of_getElem? (i := 67) rfl) rfl
set_option maxRecDepth 100000 in
theorem wk_X1_45 : Cond.classLink RX1 45 RX7 ∈ tb := tb_1 (List.mem_of_getElem? (i := 88) rfl) rfl
set_option maxRecDepth 100000 in
theorem wi_X7 : Cond.instantiable RX7 11 ∈ tb := tb_1 (List.mem_of_getElem? (i := 89) rfl) rfl
set_option maxRecDepth 100000 in
theorem wn_X7 : Cond.initialized RX7 ∈ tb := tb_1 (List.mem_of_getElem? (i := 5) rfl) rfl
set_option maxRecDepth 100000 in
theorem wm_X7 : Cond.instanceMethod yX7_init ∈ tb := tb_1 (List.mem_of_getElem? (i := 91) rfl) rfl
set_option maxRecDepth 100000 in
theorem wc_X7 : Cond.code yX7_init cX7_init 1 none ∈ tb := tb_1 (List.mem_of_getElem? (i := 92) rfl) rfl
def bk_X1 (cA : Nat → ClassId) (u : Nat → Nat) : va_W := [(u 0, .inr (1, [.ref (u 1), .ref (u 4), .ref (u 7), .ref (u 8), .ref (u 9), .ref (u 10), .ref (u 11), .ref (u 12), .ref (u 17), .ref (u 28)])), (u 1, .inr (4, [.ref (u 2), .ref (u 3), .int 0])), (u 2, .inl (cA 2, 36, .inl (fun _ => 0))), (u 3, .inl (cA 0, 6, .inl (fun _ => 0))), (u 4, .inr (4, [.ref (u 5), .ref (u 6), .int 0])), (u 5, .inl (cA 2, 36, .inl (fun _ => 0))), (u 6, .inl (cA 0, 6, .inl (fun _ => 0))), (u 7, .inl (cA 0, 6, .inl (fun _ => 0))), (u 8, .inl (cA 0, 6, .inl (fun _ => 0))), (u 9, .inl (cA 0, 6, .inl (fun _ => 0))), (u 10, .inl (cA 0, 24, .inl (fun _ => 0))), (u 11, .inl (cA 3, 4, .inl (fun _ => 0))), (u 12, .inr (9, [.ref (u 13), .ref (u 14), .ref (u 15), .ref (u 16), .int 0])), (u 13, .inl (cA 0, 400, .inl (fun _ => 0))), (u 14, .inl (cA 0, 3, .inl (fun _ => 0))), (u 15, .inl (cA 0, 3, .inl (fun _ => 0))), (u 16, .inl (cA 1, 16, .inr (.inl (fun _ => 0)))), (u 17, .inr (7, [.ref (u 18), .ref (u 19), .ref (u 20), .ref (u 21), .ref (u 22), .ref (u 23), .ref (u 24), .ref (u 25), .ref (u 26), .ref (u 27), .int 0])), (u 18, .inl (cA 0, 40, .inl (fun _ => 0))), (u 19, .inl (cA 0, 40, .inl (fun _ => 0))), (u 20, .inl (cA 0, 40, .inl (fun _ => 0))), (u 21, .inl (cA 0, 40, .inl (fun _ => 0))), (u 22, .inl (cA 0, 40, .inl (fun _ => 0))), (u 23, .inl (cA 0, 40, .inl (fun _ => 0))), (u 24, .inl (cA 0, 40, .inl (fun _ => 0))), (u 25, .inl (cA 0, 40, .inl (fun _ => 0))), (u 26, .inl (cA 0, 40, .inl (fun _ => 0))), (u 27, .inl (cA 3, 40, .inl (fun _ => 0))), (u 28, .inl (cA 0, 6, .inl (upd (fun _ => 0) 4 10)))]
set_option maxHeartbeats 4000000 in
set_option maxRecDepth 100000 in
theorem cX1_init_mk (l : Launch) : Mk l yX1_init cX1_init 1 (rmx 2 40 28 980) 28 980 [] (.inr (1, [.null, .null, .null, .null, .null, .null, .null, .null, .null, .null])) (bk_X1) := Mk.of (by decide +kernel) rfl (fun _ => Nat.le_of_ble_eq_true rfl) (fun X h0 hX hl hQ hA => by
  refine GC_aload_n hX 0 rfl rfl dX1_init_0 ?_
  refine GC_obj hX wo_X1 ⟨Nat.le_of_ble_eq_true rfl, Nat.le_of_ble_eq_true rfl⟩ dX1_init_1 ?_
  refine GC_aload_n hX 0 rfl rfl dX1_init_4 ?_
  refine GC_new hX 4 [.null, .null, .int 0] rfl in_X4 tyX4 tyX4_ok wk_X1_9 wi_X4 wn_X4 (fun j hj => by have h9 : j < 3 := hj; exact df_X4 j h9) ⟨Nat.le_of_ble_eq_true rfl, Nat.le_of_ble_eq_true rfl⟩ dX1_init_5 (fun q5 => ?_)
  refine GC_dup hX rfl dX1_init_8 ?_
  refine GC_ctor hX [.ref q5, .ref h0] (cX4_init_mk (cx_l X)) rfl wm_X4 wn_X4 wc_X4 ⟨by decide +kernel, by decide +kernel, by decide +kernel⟩ (Or.inr ⟨"DutyCase", by decide +kernel⟩) rfl rfl (Nat.le_of_ble_eq_true rfl) ⟨rfl, rfl, by decide, by decide⟩ ⟨Nat.le_of_ble_eq_true rfl, Nat.le_of_ble_eq_true rfl⟩ dX1_init_9 (fun u9 hu9 => ?_)
  subst hu9
  refine GC_putF (j := 0) hX 1 (.object "DutyCase$Names") rfl in_X1 tyX1 tyX1_ok nmX1 ⟨rfl, rfl, rfl, rfl, rfl⟩ (by decide) lf_X1_12 rfl rfl rfl (Nat.le_of_ble_eq_true rfl) [.ref (u9 0), .null, .null, .null, .null, .null, .null, .null, .null, .null] rfl dX1_init_12 ?_
  refine GC_aload_n hX 0 rfl rfl dX1_init_15 ?_
  refine GC_new hX 4 [.null, .null, .int 0] rfl in_X4 tyX4 tyX4_ok wk_X1_9 wi_X4 wn_X4 (fun j hj => by have h9 : j < 3 := hj; exact df_X4 j h9) ⟨Nat.le_of_ble_eq_true rfl, Nat.le_of_ble_eq_true rfl⟩ dX1_init_16 (fun q16 => ?_)
  refine GC_dup hX rfl dX1_init_19 ?_
  refine GC_ctor hX [.ref q16, .ref h0] (cX4_init_mk (cx_l X)) rfl wm_X4 wn_X4 wc_X4 ⟨by decide +kernel, by decide +kernel, by decide +kernel⟩ (Or.inr ⟨"DutyCase", by decide +kernel⟩) rfl rfl (Nat.le_of_ble_eq_true rfl) ⟨rfl, rfl, by decide, by decide⟩ ⟨Nat.le_of_ble_eq_true rfl, Nat.le_of_ble_eq_true rfl⟩ dX1_init_20 (fun u20 hu20 => ?_)
  subst hu20
  refine GC_putF (j := 1) hX 1 (.object "DutyCase$Names") rfl in_X1 tyX1 tyX1_ok nmX1 ⟨rfl, rfl, rfl, rfl, rfl⟩ (by decide) lf_X1_18 rfl rfl rfl (Nat.le_of_ble_eq_true rfl) [.ref (u9 0), .ref (u20 0), .null, .null, .null, .null, .null, .null, .null, .null] rfl dX1_init_23 ?_
  refine GC_aload_n hX 0 rfl rfl dX1_init_26 ?_
  refine GC_bipush hX (6 : Int32) rfl dX1_init_27 ?_
  refine GC_newInt hX 6 (by decide) (by decide) (Nat.le_of_ble_eq_true rfl) ⟨Nat.le_of_ble_eq_true rfl, Nat.le_of_ble_eq_true rfl⟩ dX1_init_29 (fun q29 => ?_)
  refine GC_putF (j := 2) hX 1 (.array .int) rfl in_X1 tyX1 tyX1_ok nmX1 ⟨rfl, rfl, rfl, rfl, rfl⟩ (by decide) lf_X1_21 rfl rfl rfl (Nat.le_of_ble_eq_true rfl) [.ref (u9 0), .ref (u20 0), .ref q29, .null, .null, .null, .null, .null, .null, .null] rfl dX1_init_31 ?_
  refine GC_aload_n hX 0 rfl rfl dX1_init_34 ?_
  refine GC_bipush hX (6 : Int32) rfl dX1_init_35 ?_
  refine GC_newInt hX 6 (by decide) (by decide) (Nat.le_of_ble_eq_true rfl) ⟨Nat.le_of_ble_eq_true rfl, Nat.le_of_ble_eq_true rfl⟩ dX1_init_37 (fun q37 => ?_)
  refine GC_putF (j := 3) hX 1 (.array .int) rfl in_X1 tyX1 tyX1_ok nmX1 ⟨rfl, rfl, rfl, rfl, rfl⟩ (by decide) lf_X1_25 rfl rfl rfl (Nat.le_of_ble_eq_true rfl) [.ref (u9 0), .ref (u20 0), .ref q29, .ref q37, .null, .null, .null, .null, .null, .null] rfl dX1_init_39 ?_
  refine GC_aload_n hX 0 rfl rfl dX1_init_42 ?_
  refine GC_bipush hX (6 : Int32) rfl dX1_init_43 ?_
  refine GC_newInt hX 6 (by decide) (by decide) (Nat.le_of_ble_eq_true rfl) ⟨Nat.le_of_ble_eq_true rfl, Nat.le_of_ble_eq_true rfl⟩ dX1_init_45 (fun q45 => ?_)
  refine GC_putF (j := 4) hX 1 (.array .int) rfl in_X1 tyX1 tyX1_ok nmX1 ⟨rfl, rfl, rfl, rfl, rfl⟩ (by decide) lf_X1_28 rfl rfl rfl (Nat.le_of_ble_eq_true rfl) [.ref (u9 0), .ref (u20 0), .ref q29, .ref q37, .ref q45, .null, .null, .null, .null, .null] rfl dX1_init_47 ?_
  refine GC_aload_n hX 0 rfl rfl dX1_init_50 ?_
  refine GC_bipush hX (24 : Int32) rfl dX1_init_51 ?_
  refine GC_newInt hX 24 (by decide) (by decide) (Nat.le_of_ble_eq_true rfl) ⟨Nat.le_of_ble_eq_true rfl, Nat.le_of_ble_eq_true rfl⟩ dX1_init_53 (fun q53 => ?_)
  refine GC_putF (j := 5) hX 1 (.array .int) rfl in_X1 tyX1 tyX1_ok nmX1 ⟨rfl, rfl, rfl, rfl, rfl⟩ (by decide) lf_X1_31 rfl rfl rfl (Nat.le_of_ble_eq_true rfl) [.ref (u9 0), .ref (u20 0), .ref q29, .ref q37, .ref q45, .ref q53, .null, .null, .null, .null] rfl dX1_init_55 ?_
  refine GC_aload_n hX 0 rfl rfl dX1_init_58 ?_
  refine GC_iconst hX (4 : Int32) rfl dX1_init_59 ?_
  refine GC_newBool hX 4 (by decide) (by decide) (Nat.le_of_ble_eq_true rfl) ⟨Nat.le_of_ble_eq_true rfl, Nat.le_of_ble_eq_true rfl⟩ dX1_init_60 (fun q60 => ?_)
  refine GC_putF (j := 6) hX 1 (.array .boolean) rfl in_X1 tyX1 tyX1_ok nmX1 ⟨rfl, rfl, rfl, rfl, rfl⟩ (by decide) lf_X1_34 rfl rfl rfl (Nat.le_of_ble_eq_true rfl) [.ref (u9 0), .ref (u20 0), .ref q29, .ref q37, .ref q45, .ref q53, .ref q60, .null, .null, .null] rfl dX1_init_62 ?_
  refine GC_aload_n hX 0 rfl rfl dX1_init_65 ?_
  refine GC_new hX 9 [.null, .null, .null, .null, .int 0] rfl in_X9 tyX9 tyX9_ok wk_X1_38 wi_X9 wn_X9 (fun j hj => by have h9 : j < 5 := hj; exact df_X9 j h9) ⟨Nat.le_of_ble_eq_true rfl, Nat.le_of_ble_eq_true rfl⟩ dX1_init_66 (fun q66 => ?_)
  refine GC_dup hX rfl dX1_init_69 ?_
  refine GC_ctor hX [.ref q66, .ref h0] (cX9_init_mk (cx_l X)) rfl wm_X9 wn_X9 wc_X9 ⟨by decide +kernel, by decide +kernel, by decide +kernel⟩ (Or.inr ⟨"DutyCase", by decide +kernel⟩) rfl rfl (Nat.le_of_ble_eq_true rfl) ⟨rfl, rfl, by decide, by decide⟩ ⟨Nat.le_of_ble_eq_true rfl, Nat.le_of_ble_eq_true rfl⟩ dX1_init_70 (fun u70 hu70 => ?_)
  subst hu70
  refine GC_putF (j := 7) hX 1 (.object "DutyCase$Sums") rfl in_X1 tyX1 tyX1_ok nmX1 ⟨rfl, rfl, rfl, rfl, rfl⟩ (by decide) lf_X1_41 rfl rfl rfl (Nat.le_of_ble_eq_true rfl) [.ref (u9 0), .ref (u20 0), .ref q29, .ref q37, .ref q45, .ref q53, .ref q60, .ref (u70 0), .null, .null] rfl dX1_init_73 ?_
  refine GC_aload_n hX 0 rfl rfl dX1_init_76 ?_
  refine GC_new hX 7 [.null, .null, .null, .null, .null, .null, .null, .null, .null, .null, .int 0] rfl in_X7 tyX7 tyX7_ok wk_X1_45 wi_X7 wn_X7 (fun j hj => by have h9 : j < 11 := hj; exact df_X7 j h9) ⟨Nat.le_of_ble_eq_true rfl, Nat.le_of_ble_eq_true rfl⟩ dX1_init_77 (fun q77 => ?_)
  refine GC_dup hX rfl dX1_init_80 ?_
  refine GC_ctor hX [.ref q77, .ref h0] (cX7_init_mk (cx_l X)) rfl wm_X7 wn_X7 wc_X7 ⟨by decide +kernel, by decide +kernel, by decide +kernel⟩ (Or.inr ⟨"DutyCase", by decide +kernel⟩) rfl rfl (Nat.le_of_ble_eq_true rfl) ⟨rfl, rfl, by decide, by decide⟩ ⟨Nat.le_of_ble_eq_true rfl, Nat.le_of_ble_eq_true rfl⟩ dX1_init_81 (fun u81 hu81 => ?_)
  subst hu81
  refine GC_putF (j := 8) hX 1 (.object "DutyCase$Sales") rfl in_X1 tyX1 tyX1_ok nmX1 ⟨rfl, rfl, rfl, rfl, rfl⟩ (by decide) lf_X1_48 rfl rfl rfl (Nat.le_of_ble_eq_true rfl) [.ref (u9 0), .ref (u20 0), .ref q29, .ref q37, .ref q45, .ref q53, .ref q60, .ref (u70 0), .ref (u81 0), .null] rfl dX1_init_84 ?_
  refine GC_aload_n hX 0 rfl rfl dX1_init_87 ?_
  refine GC_bipush hX (6 : Int32) rfl dX1_init_88 ?_
  refine GC_newInt hX 6 (by decide) (by decide) (Nat.le_of_ble_eq_true rfl) ⟨Nat.le_of_ble_eq_true rfl, Nat.le_of_ble_eq_true rfl⟩ dX1_init_90 (fun q90 => ?_)
  refine GC_putF (j := 9) hX 1 (.array .int) rfl in_X1 tyX1 tyX1_ok nmX1 ⟨rfl, rfl, rfl, rfl, rfl⟩ (by decide) lf_X1_52 rfl rfl rfl (Nat.le_of_ble_eq_true rfl) [.ref (u9 0), .ref (u20 0), .ref q29, .ref q37, .ref q45, .ref q53, .ref q60, .ref (u70 0), .ref (u81 0), .ref q90] rfl dX1_init_92 ?_
  refine GC_aload_n hX 0 rfl rfl dX1_init_95 ?_
  refine GC_get (j := 9) hX 1 rfl in_X1 ⟨rfl, rfl, rfl⟩ (by decide) lf_X1_52 rfl dX1_init_96 ?_
  refine GC_iconst hX (4 : Int32) rfl dX1_init_99 ?_
  refine GC_bipush hX (10 : Int32) rfl dX1_init_100 ?_
  refine GC_iast hX 28 [(h0, .inr (1, [.ref (u9 0), .ref (u20 0), .ref q29, .ref q37, .ref q45, .ref q53, .ref q60, .ref (u70 0), .ref (u81 0), .ref q90])), ((u9 0), .inr (4, [.ref (u9 1), .ref (u9 2), .int 0])), ((u9 1), .inl (cx_cA X 2, 36, .inl (fun _ => 0))), ((u9 2), .inl (cx_cA X 0, 6, .inl (fun _ => 0))), ((u20 0), .inr (4, [.ref (u20 1), .ref (u20 2), .int 0])), ((u20 1), .inl (cx_cA X 2, 36, .inl (fun _ => 0))), ((u20 2), .inl (cx_cA X 0, 6, .inl (fun _ => 0))), (q29, .inl (cx_cA X 0, 6, .inl (fun _ => 0))), (q37, .inl (cx_cA X 0, 6, .inl (fun _ => 0))), (q45, .inl (cx_cA X 0, 6, .inl (fun _ => 0))), (q53, .inl (cx_cA X 0, 24, .inl (fun _ => 0))), (q60, .inl (cx_cA X 3, 4, .inl (fun _ => 0))), ((u70 0), .inr (9, [.ref (u70 1), .ref (u70 2), .ref (u70 3), .ref (u70 4), .int 0])), ((u70 1), .inl (cx_cA X 0, 400, .inl (fun _ => 0))), ((u70 2), .inl (cx_cA X 0, 3, .inl (fun _ => 0))), ((u70 3), .inl (cx_cA X 0, 3, .inl (fun _ => 0))), ((u70 4), .inl (cx_cA X 1, 16, .inr (.inl (fun _ => 0)))), ((u81 0), .inr (7, [.ref (u81 1), .ref (u81 2), .ref (u81 3), .ref (u81 4), .ref (u81 5), .ref (u81 6), .ref (u81 7), .ref (u81 8), .ref (u81 9), .ref (u81 10), .int 0])), ((u81 1), .inl (cx_cA X 0, 40, .inl (fun _ => 0))), ((u81 2), .inl (cx_cA X 0, 40, .inl (fun _ => 0))), ((u81 3), .inl (cx_cA X 0, 40, .inl (fun _ => 0))), ((u81 4), .inl (cx_cA X 0, 40, .inl (fun _ => 0))), ((u81 5), .inl (cx_cA X 0, 40, .inl (fun _ => 0))), ((u81 6), .inl (cx_cA X 0, 40, .inl (fun _ => 0))), ((u81 7), .inl (cx_cA X 0, 40, .inl (fun _ => 0))), ((u81 8), .inl (cx_cA X 0, 40, .inl (fun _ => 0))), ((u81 9), .inl (cx_cA X 0, 40, .inl (fun _ => 0))), ((u81 10), .inl (cx_cA X 3, 40, .inl (fun _ => 0))), (q90, .inl (cx_cA X 0, 6, .inl (upd (fun _ => 0) 4 10)))] rfl (by decide) rfl dX1_init_102 ?_
  exact GC_ret hX hQ hA ⟨Nat.le_of_ble_eq_true rfl, Nat.le_of_ble_eq_true rfl⟩ (fun k => [h0, (u9 0), (u9 1), (u9 2), (u20 0), (u20 1), (u20 2), q29, q37, q45, q53, q60, (u70 0), (u70 1), (u70 2), (u70 3), (u70 4), (u81 0), (u81 1), (u81 2), (u81 3), (u81 4), (u81 5), (u81 6), (u81 7), (u81 8), (u81 9), (u81 10), q90].getD k 0) rfl rfl dX1_init_103)
theorem df_X1 : ∀ j, j < 10 → defaultValue (tyX1 j) = vp_V [.null, .null, .null, .null, .null, .null, .null, .null, .null, .null] j := by decide +kernel
set_option maxRecDepth 100000 in
theorem wo_X5 : Cond.methodLink RX5 3 Lib.objectInit ∈ tb := tb_2 (List.mem_of_getElem? (i := 5) rfl) rfl
def bk_X5 (a0 : Nat) (cA : Nat → ClassId) (u : Nat → Nat) : va_W := [(u 0, .inr (5, [.ref (u 1), .int 0, .int (-1), .ref a0, .int 0, .int 0, .int 0])), (u 1, .inl (cA 2, 400, .inl (fun _ => 0)))]
set_option maxHeartbeats 4000000 in
set_option maxRecDepth 100000 in
theorem cX5_init_mk (l : Launch) (a0 : Nat) : Mk l yX5_init cX5_init 2 (rmx 1 20 1 400) 1 400 [.ref a0] (.inr (5, [.null, .int 0, .int 0, .null, .int 0, .int 0, .int 0])) (bk_X5 a0) := Mk.of (by decide +kernel) rfl (fun _ => Nat.le_of_ble_eq_true rfl) (fun X h0 hX hl hQ hA => by
  refine GC_aload_n hX 0 rfl rfl dX5_init_0 ?_
  refine GC_obj hX wo_X5 ⟨Nat.le_of_ble_eq_true rfl, Nat.le_of_ble_eq_true rfl⟩ dX5_init_1 ?_
  refine GC_aload_n hX 0 rfl rfl dX5_init_4 ?_
  refine GC_sipush hX (400 : Int32) rfl dX5_init_5 ?_
  refine GC_newByte hX 400 (by decide) (by decide) (Nat.le_of_ble_eq_true rfl) ⟨Nat.le_of_ble_eq_true rfl, Nat.le_of_ble_eq_true rfl⟩ dX5_init_8 (fun q8 => ?_)
  refine GC_putF (j := 0) hX 5 (.array .byte) rfl in_X5 tyX5 tyX5_ok nmX5 ⟨rfl, rfl, rfl, rfl, rfl⟩ (by decide) lf_X5_9 rfl rfl rfl (Nat.le_of_ble_eq_true rfl) [.ref q8, .int 0, .int 0, .null, .int 0, .int 0, .int 0] rfl dX5_init_10 ?_
  refine GC_aload_n hX 0 rfl rfl dX5_init_13 ?_
  refine GC_iconst hX (-1 : Int32) rfl dX5_init_14 ?_
  refine GC_put (j := 2) hX 5 (.int) rfl in_X5 tyX5 tyX5_ok nmX5 ⟨rfl, rfl, rfl, rfl, rfl⟩ (by decide) lf_X5_15 rfl rfl (Nat.le_of_ble_eq_true rfl) [.ref q8, .int 0, .int (-1), .null, .int 0, .int 0, .int 0] rfl dX5_init_15 ?_
  refine GC_aload_n hX 0 rfl rfl dX5_init_18 ?_
  refine GC_aload_n hX 1 rfl rfl dX5_init_19 ?_
  refine GC_put (j := 3) hX 5 (.object "DutyCase$Book") rfl in_X5 tyX5 tyX5_ok nmX5 ⟨rfl, rfl, rfl, rfl, rfl⟩ (by decide) lf_X5_19 rfl rfl (Nat.le_of_ble_eq_true rfl) [.ref q8, .int 0, .int (-1), .ref a0, .int 0, .int 0, .int 0] rfl dX5_init_20 ?_
  exact GC_ret hX hQ hA ⟨Nat.le_of_ble_eq_true rfl, Nat.le_of_ble_eq_true rfl⟩ (fun k => [h0, q8].getD k 0) rfl rfl dX5_init_23)
theorem df_X5 : ∀ j, j < 7 → defaultValue (tyX5 j) = vp_V [.null, .int 0, .int 0, .null, .int 0, .int 0, .int 0] j := by decide +kernel
set_option maxRecDepth 100000 in
theorem wo_X8 : Cond.methodLink RX8 3 Lib.objectInit ∈ tb := tb_2 (List.mem_of_getElem? (i := 58) rfl) rfl
def bk_X8 (a0 : Nat) (cA : Nat → ClassId) (u : Nat → Nat) : va_W := [(u 0, .inr (8, [.ref (u 1), .ref (u 2), .ref (u 3), .ref (u 4), .int (-1), .ref (u 5), .ref (u 6), .ref (u 7), .ref (u 8), .ref a0, .int 0])), (u 1, .inl (cA 0, 6, .inl (fun _ => 0))), (u 2, .inl (cA 0, 6, .inl (fun _ => 0))), (u 3, .inl (cA 3, 40, .inl (fun _ => 0))), (u 4, .inl (cA 3, 40, .inl (fun _ => 0))), (u 5, .inl (cA 3, 6, .inl (fun _ => 0))), (u 6, .inl (cA 0, 24, .inl (fun _ => 0))), (u 7, .inl (cA 1, 24, .inr (.inl (fun _ => 0)))), (u 8, .inl (cA 0, 3, .inl (fun _ => 0)))]
set_option maxHeartbeats 4000000 in
set_option maxRecDepth 100000 in
theorem cX8_init_mk (l : Launch) (a0 : Nat) : Mk l yX8_init cX8_init 2 (rmx 1 20 8 149) 8 149 [.ref a0] (.inr (8, [.null, .null, .null, .null, .int 0, .null, .null, .null, .null, .null, .int 0])) (bk_X8 a0) := Mk.of (by decide +kernel) rfl (fun _ => Nat.le_of_ble_eq_true rfl) (fun X h0 hX hl hQ hA => by
  refine GC_aload_n hX 0 rfl rfl dX8_init_0 ?_
  refine GC_obj hX wo_X8 ⟨Nat.le_of_ble_eq_true rfl, Nat.le_of_ble_eq_true rfl⟩ dX8_init_1 ?_
  refine GC_aload_n hX 0 rfl rfl dX8_init_4 ?_
  refine GC_bipush hX (6 : Int32) rfl dX8_init_5 ?_
  refine GC_newInt hX 6 (by decide) (by decide) (Nat.le_of_ble_eq_true rfl) ⟨Nat.le_of_ble_eq_true rfl, Nat.le_of_ble_eq_true rfl⟩ dX8_init_7 (fun q7 => ?_)
  refine GC_putF (j := 0) hX 8 (.array .int) rfl in_X8 tyX8 tyX8_ok nmX8 ⟨rfl, rfl, rfl, rfl, rfl⟩ (by decide) lf_X8_9 rfl rfl rfl (Nat.le_of_ble_eq_true rfl) [.ref q7, .null, .null, .null, .int 0, .null, .null, .null, .null, .null, .int 0] rfl dX8_init_9 ?_
  refine GC_aload_n hX 0 rfl rfl dX8_init_12 ?_
  refine GC_bipush hX (6 : Int32) rfl dX8_init_13 ?_
  refine GC_newInt hX 6 (by decide) (by decide) (Nat.le_of_ble_eq_true rfl) ⟨Nat.le_of_ble_eq_true rfl, Nat.le_of_ble_eq_true rfl⟩ dX8_init_15 (fun q15 => ?_)
  refine GC_putF (j := 1) hX 8 (.array .int) rfl in_X8 tyX8 tyX8_ok nmX8 ⟨rfl, rfl, rfl, rfl, rfl⟩ (by decide) lf_X8_15 rfl rfl rfl (Nat.le_of_ble_eq_true rfl) [.ref q7, .ref q15, .null, .null, .int 0, .null, .null, .null, .null, .null, .int 0] rfl dX8_init_17 ?_
  refine GC_aload_n hX 0 rfl rfl dX8_init_20 ?_
  refine GC_bipush hX (40 : Int32) rfl dX8_init_21 ?_
  refine GC_newBool hX 40 (by decide) (by decide) (Nat.le_of_ble_eq_true rfl) ⟨Nat.le_of_ble_eq_true rfl, Nat.le_of_ble_eq_true rfl⟩ dX8_init_23 (fun q23 => ?_)
  refine GC_putF (j := 2) hX 8 (.array .boolean) rfl in_X8 tyX8 tyX8_ok nmX8 ⟨rfl, rfl, rfl, rfl, rfl⟩ (by decide) lf_X8_18 rfl rfl rfl (Nat.le_of_ble_eq_true rfl) [.ref q7, .ref q15, .ref q23, .null, .int 0, .null, .null, .null, .null, .null, .int 0] rfl dX8_init_25 ?_
  refine GC_aload_n hX 0 rfl rfl dX8_init_28 ?_
  refine GC_bipush hX (40 : Int32) rfl dX8_init_29 ?_
  refine GC_newBool hX 40 (by decide) (by decide) (Nat.le_of_ble_eq_true rfl) ⟨Nat.le_of_ble_eq_true rfl, Nat.le_of_ble_eq_true rfl⟩ dX8_init_31 (fun q31 => ?_)
  refine GC_putF (j := 3) hX 8 (.array .boolean) rfl in_X8 tyX8 tyX8_ok nmX8 ⟨rfl, rfl, rfl, rfl, rfl⟩ (by decide) lf_X8_22 rfl rfl rfl (Nat.le_of_ble_eq_true rfl) [.ref q7, .ref q15, .ref q23, .ref q31, .int 0, .null, .null, .null, .null, .null, .int 0] rfl dX8_init_33 ?_
  refine GC_aload_n hX 0 rfl rfl dX8_init_36 ?_
  refine GC_iconst hX (-1 : Int32) rfl dX8_init_37 ?_
  refine GC_put (j := 4) hX 8 (.int) rfl in_X8 tyX8 tyX8_ok nmX8 ⟨rfl, rfl, rfl, rfl, rfl⟩ (by decide) lf_X8_25 rfl rfl (Nat.le_of_ble_eq_true rfl) [.ref q7, .ref q15, .ref q23, .ref q31, .int (-1), .null, .null, .null, .null, .null, .int 0] rfl dX8_init_38 ?_
  refine GC_aload_n hX 0 rfl rfl dX8_init_41 ?_
  refine GC_bipush hX (6 : Int32) rfl dX8_init_42 ?_
  refine GC_newBool hX 6 (by decide) (by decide) (Nat.le_of_ble_eq_true rfl) ⟨Nat.le_of_ble_eq_true rfl, Nat.le_of_ble_eq_true rfl⟩ dX8_init_44 (fun q44 => ?_)
  refine GC_putF (j := 5) hX 8 (.array .boolean) rfl in_X8 tyX8 tyX8_ok nmX8 ⟨rfl, rfl, rfl, rfl, rfl⟩ (by decide) lf_X8_29 rfl rfl rfl (Nat.le_of_ble_eq_true rfl) [.ref q7, .ref q15, .ref q23, .ref q31, .int (-1), .ref q44, .null, .null, .null, .null, .int 0] rfl dX8_init_46 ?_
  refine GC_aload_n hX 0 rfl rfl dX8_init_49 ?_
  refine GC_bipush hX (24 : Int32) rfl dX8_init_50 ?_
  refine GC_newInt hX 24 (by decide) (by decide) (Nat.le_of_ble_eq_true rfl) ⟨Nat.le_of_ble_eq_true rfl, Nat.le_of_ble_eq_true rfl⟩ dX8_init_52 (fun q52 => ?_)
  refine GC_putF (j := 6) hX 8 (.array .int) rfl in_X8 tyX8 tyX8_ok nmX8 ⟨rfl, rfl, rfl, rfl, rfl⟩ (by decide) lf_X8_32 rfl rfl rfl (Nat.le_of_ble_eq_true rfl) [.ref q7, .ref q15, .ref q23, .ref q31, .int (-1), .ref q44, .ref q52, .null, .null, .null, .int 0] rfl dX8_init_54 ?_
  refine GC_aload_n hX 0 rfl rfl dX8_init_57 ?_
  refine GC_bipush hX (24 : Int32) rfl dX8_init_58 ?_
  refine GC_newLong hX 24 (by decide) (by decide) (Nat.le_of_ble_eq_true rfl) ⟨Nat.le_of_ble_eq_true rfl, Nat.le_of_ble_eq_true rfl⟩ dX8_init_60 (fun q60 => ?_)
  refine GC_putF (j := 7) hX 8 (.array .long) rfl in_X8 tyX8 tyX8_ok nmX8 ⟨rfl, rfl, rfl, rfl, rfl⟩ (by decide) lf_X8_35 rfl rfl rfl (Nat.le_of_ble_eq_true rfl) [.ref q7, .ref q15, .ref q23, .ref q31, .int (-1), .ref q44, .ref q52, .ref q60, .null, .null, .int 0] rfl dX8_init_62 ?_
  refine GC_aload_n hX 0 rfl rfl dX8_init_65 ?_
  refine GC_iconst hX (3 : Int32) rfl dX8_init_66 ?_
  refine GC_newInt hX 3 (by decide) (by decide) (Nat.le_of_ble_eq_true rfl) ⟨Nat.le_of_ble_eq_true rfl, Nat.le_of_ble_eq_true rfl⟩ dX8_init_67 (fun q67 => ?_)
  refine GC_putF (j := 8) hX 8 (.array .int) rfl in_X8 tyX8 tyX8_ok nmX8 ⟨rfl, rfl, rfl, rfl, rfl⟩ (by decide) lf_X8_39 rfl rfl rfl (Nat.le_of_ble_eq_true rfl) [.ref q7, .ref q15, .ref q23, .ref q31, .int (-1), .ref q44, .ref q52, .ref q60, .ref q67, .null, .int 0] rfl dX8_init_69 ?_
  refine GC_aload_n hX 0 rfl rfl dX8_init_72 ?_
  refine GC_aload_n hX 1 rfl rfl dX8_init_73 ?_
  refine GC_put (j := 9) hX 8 (.object "DutyCase$Book") rfl in_X8 tyX8 tyX8_ok nmX8 ⟨rfl, rfl, rfl, rfl, rfl⟩ (by decide) lf_X8_42 rfl rfl (Nat.le_of_ble_eq_true rfl) [.ref q7, .ref q15, .ref q23, .ref q31, .int (-1), .ref q44, .ref q52, .ref q60, .ref q67, .ref a0, .int 0] rfl dX8_init_74 ?_
  exact GC_ret hX hQ hA ⟨Nat.le_of_ble_eq_true rfl, Nat.le_of_ble_eq_true rfl⟩ (fun k => [h0, q7, q15, q23, q31, q44, q52, q60, q67].getD k 0) rfl rfl dX8_init_77)
theorem df_X8 : ∀ j, j < 11 → defaultValue (tyX8 j) = vp_V [.null, .null, .null, .null, .int 0, .null, .null, .null, .null, .null, .int 0] j := by decide +kernel
set_option maxRecDepth 100000 in
theorem wo_X2 : Cond.methodLink RX2 3 Lib.objectInit ∈ tb := tb_2 (List.mem_of_getElem? (i := 103) rfl) rfl
def bk_X2 (a0 : Nat) (cA : Nat → ClassId) (u : Nat → Nat) : va_W := [(u 0, .inr (2, [.ref a0, .ref (u 1), .ref (u 2), .ref (u 3), .ref (u 4), .int 0, .long 0, .long 0])), (u 1, .inl (cA 0, 40, .inl (fun _ => 0))), (u 2, .inl (cA 0, 40, .inl (fun _ => 0))), (u 3, .inl (cA 1, 40, .inr (.inl (fun _ => 0)))), (u 4, .inl (cA 1, 40, .inr (.inl (fun _ => 0))))]
set_option maxHeartbeats 4000000 in
set_option maxRecDepth 100000 in
theorem cX2_init_mk (l : Launch) (a0 : Nat) : Mk l yX2_init cX2_init 2 (rmx 1 20 4 160) 4 160 [.ref a0] (.inr (2, [.null, .null, .null, .null, .null, .int 0, .long 0, .long 0])) (bk_X2 a0) := Mk.of (by decide +kernel) rfl (fun _ => Nat.le_of_ble_eq_true rfl) (fun X h0 hX hl hQ hA => by
  refine GC_aload_n hX 0 rfl rfl dX2_init_0 ?_
  refine GC_obj hX wo_X2 ⟨Nat.le_of_ble_eq_true rfl, Nat.le_of_ble_eq_true rfl⟩ dX2_init_1 ?_
  refine GC_aload_n hX 0 rfl rfl dX2_init_4 ?_
  refine GC_bipush hX (40 : Int32) rfl dX2_init_5 ?_
  refine GC_newInt hX 40 (by decide) (by decide) (Nat.le_of_ble_eq_true rfl) ⟨Nat.le_of_ble_eq_true rfl, Nat.le_of_ble_eq_true rfl⟩ dX2_init_7 (fun q7 => ?_)
  refine GC_putF (j := 1) hX 2 (.array .int) rfl in_X2 tyX2 tyX2_ok nmX2 ⟨rfl, rfl, rfl, rfl, rfl⟩ (by decide) lf_X2_9 rfl rfl rfl (Nat.le_of_ble_eq_true rfl) [.null, .ref q7, .null, .null, .null, .int 0, .long 0, .long 0] rfl dX2_init_9 ?_
  refine GC_aload_n hX 0 rfl rfl dX2_init_12 ?_
  refine GC_bipush hX (40 : Int32) rfl dX2_init_13 ?_
  refine GC_newInt hX 40 (by decide) (by decide) (Nat.le_of_ble_eq_true rfl) ⟨Nat.le_of_ble_eq_true rfl, Nat.le_of_ble_eq_true rfl⟩ dX2_init_15 (fun q15 => ?_)
  refine GC_putF (j := 2) hX 2 (.array .int) rfl in_X2 tyX2 tyX2_ok nmX2 ⟨rfl, rfl, rfl, rfl, rfl⟩ (by decide) lf_X2_15 rfl rfl rfl (Nat.le_of_ble_eq_true rfl) [.null, .ref q7, .ref q15, .null, .null, .int 0, .long 0, .long 0] rfl dX2_init_17 ?_
  refine GC_aload_n hX 0 rfl rfl dX2_init_20 ?_
  refine GC_bipush hX (40 : Int32) rfl dX2_init_21 ?_
  refine GC_newLong hX 40 (by decide) (by decide) (Nat.le_of_ble_eq_true rfl) ⟨Nat.le_of_ble_eq_true rfl, Nat.le_of_ble_eq_true rfl⟩ dX2_init_23 (fun q23 => ?_)
  refine GC_putF (j := 3) hX 2 (.array .long) rfl in_X2 tyX2 tyX2_ok nmX2 ⟨rfl, rfl, rfl, rfl, rfl⟩ (by decide) lf_X2_18 rfl rfl rfl (Nat.le_of_ble_eq_true rfl) [.null, .ref q7, .ref q15, .ref q23, .null, .int 0, .long 0, .long 0] rfl dX2_init_25 ?_
  refine GC_aload_n hX 0 rfl rfl dX2_init_28 ?_
  refine GC_bipush hX (40 : Int32) rfl dX2_init_29 ?_
  refine GC_newLong hX 40 (by decide) (by decide) (Nat.le_of_ble_eq_true rfl) ⟨Nat.le_of_ble_eq_true rfl, Nat.le_of_ble_eq_true rfl⟩ dX2_init_31 (fun q31 => ?_)
  refine GC_putF (j := 4) hX 2 (.array .long) rfl in_X2 tyX2 tyX2_ok nmX2 ⟨rfl, rfl, rfl, rfl, rfl⟩ (by decide) lf_X2_22 rfl rfl rfl (Nat.le_of_ble_eq_true rfl) [.null, .ref q7, .ref q15, .ref q23, .ref q31, .int 0, .long 0, .long 0] rfl dX2_init_33 ?_
  refine GC_aload_n hX 0 rfl rfl dX2_init_36 ?_
  refine GC_aload_n hX 1 rfl rfl dX2_init_37 ?_
  refine GC_putF (j := 0) hX 2 (.object "DutyCase$Study") rfl in_X2 tyX2 tyX2_ok nmX2 ⟨rfl, rfl, rfl, rfl, rfl⟩ (by decide) lf_X2_25 rfl rfl rfl (Nat.le_of_ble_eq_true rfl) [.ref a0, .ref q7, .ref q15, .ref q23, .ref q31, .int 0, .long 0, .long 0] rfl dX2_init_38 ?_
  exact GC_ret hX hQ hA ⟨Nat.le_of_ble_eq_true rfl, Nat.le_of_ble_eq_true rfl⟩ (fun k => [h0, q7, q15, q23, q31].getD k 0) rfl rfl dX2_init_41)
theorem df_X2 : ∀ j, j < 8 → defaultValue (tyX2 j) = vp_V [.null, .null, .null, .null, .null, .int 0, .long 0, .long 0] j := by decide +kernel
set_option maxRecDepth 100000 in
theorem wo_X3 : Cond.methodLink RX3 3 Lib.objectInit ∈ tb := tb_2 (List.mem_of_getElem? (i := 139) rfl) rfl
def bk_X3 (a0 : Nat) (cA : Nat → ClassId) (u : Nat → Nat) : va_W := [(u 0, .inr (3, [.ref a0, .ref (u 1), .ref (u 2), .ref (u 3), .ref (u 4), .ref (u 5), .ref (u 6), .ref (u 7), .ref (u 8), .int 0])), (u 1, .inl (cA 0, 4, .inl (fun _ => 0))), (u 2, .inl (cA 0, 4, .inl (fun _ => 0))), (u 3, .inl (cA 0, 4, .inl (fun _ => 0))), (u 4, .inl (cA 0, 4, .inl (fun _ => 0))), (u 5, .inl (cA 3, 4, .inl (fun _ => 0))), (u 6, .inl (cA 0, 4, .inl (fun _ => 0))), (u 7, .inl (cA 0, 12, .inl (fun _ => 0))), (u 8, .inl (cA 1, 12, .inr (.inl (fun _ => 0))))]
set_option maxHeartbeats 4000000 in
set_option maxRecDepth 100000 in
theorem cX3_init_mk (l : Launch) (a0 : Nat) : Mk l yX3_init cX3_init 2 (rmx 1 20 8 48) 8 48 [.ref a0] (.inr (3, [.null, .null, .null, .null, .null, .null, .null, .null, .null, .int 0])) (bk_X3 a0) := Mk.of (by decide +kernel) rfl (fun _ => Nat.le_of_ble_eq_true rfl) (fun X h0 hX hl hQ hA => by
  refine GC_aload_n hX 0 rfl rfl dX3_init_0 ?_
  refine GC_obj hX wo_X3 ⟨Nat.le_of_ble_eq_true rfl, Nat.le_of_ble_eq_true rfl⟩ dX3_init_1 ?_
  refine GC_aload_n hX 0 rfl rfl dX3_init_4 ?_
  refine GC_iconst hX (4 : Int32) rfl dX3_init_5 ?_
  refine GC_newInt hX 4 (by decide) (by decide) (Nat.le_of_ble_eq_true rfl) ⟨Nat.le_of_ble_eq_true rfl, Nat.le_of_ble_eq_true rfl⟩ dX3_init_6 (fun q6 => ?_)
  refine GC_putF (j := 1) hX 3 (.array .int) rfl in_X3 tyX3 tyX3_ok nmX3 ⟨rfl, rfl, rfl, rfl, rfl⟩ (by decide) lf_X3_9 rfl rfl rfl (Nat.le_of_ble_eq_true rfl) [.null, .ref q6, .null, .null, .null, .null, .null, .null, .null, .int 0] rfl dX3_init_8 ?_
  refine GC_aload_n hX 0 rfl rfl dX3_init_11 ?_
  refine GC_iconst hX (4 : Int32) rfl dX3_init_12 ?_
  refine GC_newInt hX 4 (by decide) (by decide) (Nat.le_of_ble_eq_true rfl) ⟨Nat.le_of_ble_eq_true rfl, Nat.le_of_ble_eq_true rfl⟩ dX3_init_13 (fun q13 => ?_)
  refine GC_putF (j := 2) hX 3 (.array .int) rfl in_X3 tyX3 tyX3_ok nmX3 ⟨rfl, rfl, rfl, rfl, rfl⟩ (by decide) lf_X3_15 rfl rfl rfl (Nat.le_of_ble_eq_true rfl) [.null, .ref q6, .ref q13, .null, .null, .null, .null, .null, .null, .int 0] rfl dX3_init_15 ?_
  refine GC_aload_n hX 0 rfl rfl dX3_init_18 ?_
  refine GC_iconst hX (4 : Int32) rfl dX3_init_19 ?_
  refine GC_newInt hX 4 (by decide) (by decide) (Nat.le_of_ble_eq_true rfl) ⟨Nat.le_of_ble_eq_true rfl, Nat.le_of_ble_eq_true rfl⟩ dX3_init_20 (fun q20 => ?_)
  refine GC_putF (j := 3) hX 3 (.array .int) rfl in_X3 tyX3 tyX3_ok nmX3 ⟨rfl, rfl, rfl, rfl, rfl⟩ (by decide) lf_X3_18 rfl rfl rfl (Nat.le_of_ble_eq_true rfl) [.null, .ref q6, .ref q13, .ref q20, .null, .null, .null, .null, .null, .int 0] rfl dX3_init_22 ?_
  refine GC_aload_n hX 0 rfl rfl dX3_init_25 ?_
  refine GC_iconst hX (4 : Int32) rfl dX3_init_26 ?_
  refine GC_newInt hX 4 (by decide) (by decide) (Nat.le_of_ble_eq_true rfl) ⟨Nat.le_of_ble_eq_true rfl, Nat.le_of_ble_eq_true rfl⟩ dX3_init_27 (fun q27 => ?_)
  refine GC_putF (j := 4) hX 3 (.array .int) rfl in_X3 tyX3 tyX3_ok nmX3 ⟨rfl, rfl, rfl, rfl, rfl⟩ (by decide) lf_X3_21 rfl rfl rfl (Nat.le_of_ble_eq_true rfl) [.null, .ref q6, .ref q13, .ref q20, .ref q27, .null, .null, .null, .null, .int 0] rfl dX3_init_29 ?_
  refine GC_aload_n hX 0 rfl rfl dX3_init_32 ?_
  refine GC_iconst hX (4 : Int32) rfl dX3_init_33 ?_
  refine GC_newBool hX 4 (by decide) (by decide) (Nat.le_of_ble_eq_true rfl) ⟨Nat.le_of_ble_eq_true rfl, Nat.le_of_ble_eq_true rfl⟩ dX3_init_34 (fun q34 => ?_)
  refine GC_putF (j := 5) hX 3 (.array .boolean) rfl in_X3 tyX3 tyX3_ok nmX3 ⟨rfl, rfl, rfl, rfl, rfl⟩ (by decide) lf_X3_24 rfl rfl rfl (Nat.le_of_ble_eq_true rfl) [.null, .ref q6, .ref q13, .ref q20, .ref q27, .ref q34, .null, .null, .null, .int 0] rfl dX3_init_36 ?_
  refine GC_aload_n hX 0 rfl rfl dX3_init_39 ?_
  refine GC_iconst hX (4 : Int32) rfl dX3_init_40 ?_
  refine GC_newInt hX 4 (by decide) (by decide) (Nat.le_of_ble_eq_true rfl) ⟨Nat.le_of_ble_eq_true rfl, Nat.le_of_ble_eq_true rfl⟩ dX3_init_41 (fun q41 => ?_)
  refine GC_putF (j := 6) hX 3 (.array .int) rfl in_X3 tyX3 tyX3_ok nmX3 ⟨rfl, rfl, rfl, rfl, rfl⟩ (by decide) lf_X3_28 rfl rfl rfl (Nat.le_of_ble_eq_true rfl) [.null, .ref q6, .ref q13, .ref q20, .ref q27, .ref q34, .ref q41, .null, .null, .int 0] rfl dX3_init_43 ?_
  refine GC_aload_n hX 0 rfl rfl dX3_init_46 ?_
  refine GC_bipush hX (12 : Int32) rfl dX3_init_47 ?_
  refine GC_newInt hX 12 (by decide) (by decide) (Nat.le_of_ble_eq_true rfl) ⟨Nat.le_of_ble_eq_true rfl, Nat.le_of_ble_eq_true rfl⟩ dX3_init_49 (fun q49 => ?_)
  refine GC_putF (j := 7) hX 3 (.array .int) rfl in_X3 tyX3 tyX3_ok nmX3 ⟨rfl, rfl, rfl, rfl, rfl⟩ (by decide) lf_X3_31 rfl rfl rfl (Nat.le_of_ble_eq_true rfl) [.null, .ref q6, .ref q13, .ref q20, .ref q27, .ref q34, .ref q41, .ref q49, .null, .int 0] rfl dX3_init_51 ?_
  refine GC_aload_n hX 0 rfl rfl dX3_init_54 ?_
  refine GC_bipush hX (12 : Int32) rfl dX3_init_55 ?_
  refine GC_newLong hX 12 (by decide) (by decide) (Nat.le_of_ble_eq_true rfl) ⟨Nat.le_of_ble_eq_true rfl, Nat.le_of_ble_eq_true rfl⟩ dX3_init_57 (fun q57 => ?_)
  refine GC_putF (j := 8) hX 3 (.array .long) rfl in_X3 tyX3 tyX3_ok nmX3 ⟨rfl, rfl, rfl, rfl, rfl⟩ (by decide) lf_X3_34 rfl rfl rfl (Nat.le_of_ble_eq_true rfl) [.null, .ref q6, .ref q13, .ref q20, .ref q27, .ref q34, .ref q41, .ref q49, .ref q57, .int 0] rfl dX3_init_59 ?_
  refine GC_aload_n hX 0 rfl rfl dX3_init_62 ?_
  refine GC_aload_n hX 1 rfl rfl dX3_init_63 ?_
  refine GC_putF (j := 0) hX 3 (.object "DutyCase$Comparison") rfl in_X3 tyX3 tyX3_ok nmX3 ⟨rfl, rfl, rfl, rfl, rfl⟩ (by decide) lf_X3_38 rfl rfl rfl (Nat.le_of_ble_eq_true rfl) [.ref a0, .ref q6, .ref q13, .ref q20, .ref q27, .ref q34, .ref q41, .ref q49, .ref q57, .int 0] rfl dX3_init_64 ?_
  exact GC_ret hX hQ hA ⟨Nat.le_of_ble_eq_true rfl, Nat.le_of_ble_eq_true rfl⟩ (fun k => [h0, q6, q13, q20, q27, q34, q41, q49, q57].getD k 0) rfl rfl dX3_init_67)
theorem df_X3 : ∀ j, j < 10 → defaultValue (tyX3 j) = vp_V [.null, .null, .null, .null, .null, .null, .null, .null, .null, .int 0] j := by decide +kernel
set_option maxRecDepth 100000 in
theorem wo_X10 : Cond.methodLink RX10 1 Lib.objectInit ∈ tb := tb_1 (List.mem_of_getElem? (i := 30) rfl) rfl
set_option maxRecDepth 100000 in
theorem wk_X10_7 : Cond.classLink RX10 7 RX1 ∈ tb := tb_1 (List.mem_of_getElem? (i := 33) rfl) rfl
set_option maxRecDepth 100000 in
theorem wi_X1 : Cond.instantiable RX1 10 ∈ tb := tb_1 (List.mem_of_getElem? (i := 34) rfl) rfl
set_option maxRecDepth 100000 in
theorem wn_X1 : Cond.initialized RX1 ∈ tb := tb_1 (List.mem_of_getElem? (i := 2) rfl) rfl
set_option maxRecDepth 100000 in
theorem wm_X1 : Cond.instanceMethod yX1_init ∈ tb := tb_1 (List.mem_of_getElem? (i := 36) rfl) rfl
set_option maxRecDepth 100000 in
theorem wc_X1 : Cond.code yX1_init cX1_init 1 none ∈ tb := tb_1 (List.mem_of_getElem? (i := 37) rfl) rfl
set_option maxRecDepth 100000 in
theorem wl_X10_9 : Cond.methodLink RX10 9 yX1_init ∈ tb := tb_1 (List.mem_of_getElem? (i := 35) rfl) rfl
set_option maxRecDepth 100000 in
theorem wk_X10_19 : Cond.classLink RX10 19 RX5 ∈ tb := tb_2 (List.mem_of_getElem? (i := 0) rfl) rfl
set_option maxRecDepth 100000 in
theorem wi_X5 : Cond.instantiable RX5 7 ∈ tb := tb_2 (List.mem_of_getElem? (i := 1) rfl) rfl
set_option maxRecDepth 100000 in
theorem wn_X5 : Cond.initialized RX5 ∈ tb := tb_1 (List.mem_of_getElem? (i := 6) rfl) rfl
set_option maxRecDepth 100000 in
theorem wm_X5 : Cond.instanceMethod yX5_init ∈ tb := tb_2 (List.mem_of_getElem? (i := 3) rfl) rfl
set_option maxRecDepth 100000 in
theorem wc_X5 : Cond.code yX5_init cX5_init 2 none ∈ tb := tb_2 (List.mem_of_getElem? (i := 4) rfl) rfl
set_option maxRecDepth 100000 in
theorem wl_X10_21 : Cond.methodLink RX10 21 yX5_init ∈ tb := tb_2 (List.mem_of_getElem? (i := 2) rfl) rfl
set_option maxRecDepth 100000 in
theorem wk_X10_28 : Cond.classLink RX10 28 RX0 ∈ tb := tb_2 (List.mem_of_getElem? (i := 30) rfl) rfl
set_option maxRecDepth 100000 in
theorem wi_X0 : Cond.instantiable RX0 5 ∈ tb := tb_2 (List.mem_of_getElem? (i := 31) rfl) rfl
set_option maxRecDepth 100000 in
theorem wn_X0 : Cond.initialized RX0 ∈ tb := tb_1 (List.mem_of_getElem? (i := 7) rfl) rfl
set_option maxRecDepth 100000 in
theorem wm_X0 : Cond.instanceMethod yX0_init ∈ tb := tb_2 (List.mem_of_getElem? (i := 33) rfl) rfl
set_option maxRecDepth 100000 in
theorem wc_X0 : Cond.code yX0_init cX0_init 1 none ∈ tb := tb_2 (List.mem_of_getElem? (i := 34) rfl) rfl
set_option maxRecDepth 100000 in
theorem wk_X10_35 : Cond.classLink RX10 35 RX8 ∈ tb := tb_2 (List.mem_of_getElem? (i := 53) rfl) rfl
set_option maxRecDepth 100000 in
theorem wi_X8 : Cond.instantiable RX8 11 ∈ tb := tb_2 (List.mem_of_getElem? (i := 54) rfl) rfl
set_option maxRecDepth 100000 in
theorem wn_X8 : Cond.initialized RX8 ∈ tb := tb_1 (List.mem_of_getElem? (i := 8) rfl) rfl
set_option maxRecDepth 100000 in
theorem wm_X8 : Cond.instanceMethod yX8_init ∈ tb := tb_2 (List.mem_of_getElem? (i := 56) rfl) rfl
set_option maxRecDepth 100000 in
theorem wc_X8 : Cond.code yX8_init cX8_init 2 none ∈ tb := tb_2 (List.mem_of_getElem? (i := 57) rfl) rfl
set_option maxRecDepth 100000 in
theorem wl_X10_37 : Cond.methodLink RX10 37 yX8_init ∈ tb := tb_2 (List.mem_of_getElem? (i := 55) rfl) rfl
set_option maxRecDepth 100000 in
theorem wk_X10_42 : Cond.classLink RX10 42 RX2 ∈ tb := tb_2 (List.mem_of_getElem? (i := 98) rfl) rfl
set_option maxRecDepth 100000 in
theorem wi_X2 : Cond.instantiable RX2 8 ∈ tb := tb_2 (List.mem_of_getElem? (i := 99) rfl) rfl
set_option maxRecDepth 100000 in
theorem wn_X2 : Cond.initialized RX2 ∈ tb := tb_1 (List.mem_of_getElem? (i := 9) rfl) rfl
set_option maxRecDepth 100000 in
theorem wm_X2 : Cond.instanceMethod yX2_init ∈ tb := tb_2 (List.mem_of_getElem? (i := 101) rfl) rfl
set_option maxRecDepth 100000 in
theorem wc_X2 : Cond.code yX2_init cX2_init 2 none ∈ tb := tb_2 (List.mem_of_getElem? (i := 102) rfl) rfl
set_option maxRecDepth 100000 in
theorem wl_X10_44 : Cond.methodLink RX10 44 yX2_init ∈ tb := tb_2 (List.mem_of_getElem? (i := 100) rfl) rfl
set_option maxRecDepth 100000 in
theorem wk_X10_51 : Cond.classLink RX10 51 RX3 ∈ tb := tb_2 (List.mem_of_getElem? (i := 134) rfl) rfl
set_option maxRecDepth 100000 in
theorem wi_X3 : Cond.instantiable RX3 10 ∈ tb := tb_2 (List.mem_of_getElem? (i := 135) rfl) rfl
set_option maxRecDepth 100000 in
theorem wn_X3 : Cond.initialized RX3 ∈ tb := tb_1 (List.mem_of_getElem? (i := 10) rfl) rfl
set_option maxRecDepth 100000 in
theorem wm_X3 : Cond.instanceMethod yX3_init ∈ tb := tb_2 (List.mem_of_getElem? (i := 137) rfl) rfl
set_option maxRecDepth 100000 in
theorem wc_X3 : Cond.code yX3_init cX3_init 2 none ∈ tb := tb_2 (List.mem_of_getElem? (i := 138) rfl) rfl
set_option maxRecDepth 100000 in
theorem wl_X10_53 : Cond.methodLink RX10 53 yX3_init ∈ tb := tb_2 (List.mem_of_getElem? (i := 136) rfl) rfl
set_option maxRecDepth 100000 in
theorem wk_X10_60 : Cond.classLink RX10 60 RX6 ∈ tb := tb_2 (List.mem_of_getElem? (i := 176) rfl) rfl
set_option maxRecDepth 100000 in
theorem wi_X6 : Cond.instantiable RX6 2 ∈ tb := tb_2 (List.mem_of_getElem? (i := 177) rfl) rfl
set_option maxRecDepth 100000 in
theorem wn_X6 : Cond.initialized RX6 ∈ tb := tb_1 (List.mem_of_getElem? (i := 11) rfl) rfl
set_option maxRecDepth 100000 in
theorem wm_X6 : Cond.instanceMethod yX6_init ∈ tb := tb_2 (List.mem_of_getElem? (i := 179) rfl) rfl
set_option maxRecDepth 100000 in
theorem wc_X6 : Cond.code yX6_init cX6_init 1 none ∈ tb := tb_2 (List.mem_of_getElem? (i := 180) rfl) rfl
def bk_X10 (cA : Nat → ClassId) (u : Nat → Nat) : va_W := [(u 0, .inr (10, [.ref (u 59), .ref (u 61), .ref (u 65), .ref (u 74), .ref (u 79), .ref (u 88), .ref (u 1), .ref (u 30)])), (u 1, .inr (1, [.ref (u 2), .ref (u 5), .ref (u 8), .ref (u 9), .ref (u 10), .ref (u 11), .ref (u 12), .ref (u 13), .ref (u 18), .ref (u 29)])), (u 2, .inr (4, [.ref (u 3), .ref (u 4), .int 0])), (u 3, .inl (cA 2, 36, .inl (fun _ => 0))), (u 4, .inl (cA 0, 6, .inl (fun _ => 0))), (u 5, .inr (4, [.ref (u 6), .ref (u 7), .int 0])), (u 6, .inl (cA 2, 36, .inl (fun _ => 0))), (u 7, .inl (cA 0, 6, .inl (fun _ => 0))), (u 8, .inl (cA 0, 6, .inl (fun _ => 0))), (u 9, .inl (cA 0, 6, .inl (fun _ => 0))), (u 10, .inl (cA 0, 6, .inl (fun _ => 0))), (u 11, .inl (cA 0, 24, .inl (fun _ => 0))), (u 12, .inl (cA 3, 4, .inl (fun _ => 0))), (u 13, .inr (9, [.ref (u 14), .ref (u 15), .ref (u 16), .ref (u 17), .int 0])), (u 14, .inl (cA 0, 400, .inl (fun _ => 0))), (u 15, .inl (cA 0, 3, .inl (fun _ => 0))), (u 16, .inl (cA 0, 3, .inl (fun _ => 0))), (u 17, .inl (cA 1, 16, .inr (.inl (fun _ => 0)))), (u 18, .inr (7, [.ref (u 19), .ref (u 20), .ref (u 21), .ref (u 22), .ref (u 23), .ref (u 24), .ref (u 25), .ref (u 26), .ref (u 27), .ref (u 28), .int 0])), (u 19, .inl (cA 0, 40, .inl (fun _ => 0))), (u 20, .inl (cA 0, 40, .inl (fun _ => 0))), (u 21, .inl (cA 0, 40, .inl (fun _ => 0))), (u 22, .inl (cA 0, 40, .inl (fun _ => 0))), (u 23, .inl (cA 0, 40, .inl (fun _ => 0))), (u 24, .inl (cA 0, 40, .inl (fun _ => 0))), (u 25, .inl (cA 0, 40, .inl (fun _ => 0))), (u 26, .inl (cA 0, 40, .inl (fun _ => 0))), (u 27, .inl (cA 0, 40, .inl (fun _ => 0))), (u 28, .inl (cA 3, 40, .inl (fun _ => 0))), (u 29, .inl (cA 0, 6, .inl (upd (fun _ => 0) 4 10))), (u 30, .inr (1, [.ref (u 31), .ref (u 34), .ref (u 37), .ref (u 38), .ref (u 39), .ref (u 40), .ref (u 41), .ref (u 42), .ref (u 47), .ref (u 58)])), (u 31, .inr (4, [.ref (u 32), .ref (u 33), .int 0])), (u 32, .inl (cA 2, 36, .inl (fun _ => 0))), (u 33, .inl (cA 0, 6, .inl (fun _ => 0))), (u 34, .inr (4, [.ref (u 35), .ref (u 36), .int 0])), (u 35, .inl (cA 2, 36, .inl (fun _ => 0))), (u 36, .inl (cA 0, 6, .inl (fun _ => 0))), (u 37, .inl (cA 0, 6, .inl (fun _ => 0))), (u 38, .inl (cA 0, 6, .inl (fun _ => 0))), (u 39, .inl (cA 0, 6, .inl (fun _ => 0))), (u 40, .inl (cA 0, 24, .inl (fun _ => 0))), (u 41, .inl (cA 3, 4, .inl (fun _ => 0))), (u 42, .inr (9, [.ref (u 43), .ref (u 44), .ref (u 45), .ref (u 46), .int 0])), (u 43, .inl (cA 0, 400, .inl (fun _ => 0))), (u 44, .inl (cA 0, 3, .inl (fun _ => 0))), (u 45, .inl (cA 0, 3, .inl (fun _ => 0))), (u 46, .inl (cA 1, 16, .inr (.inl (fun _ => 0)))), (u 47, .inr (7, [.ref (u 48), .ref (u 49), .ref (u 50), .ref (u 51), .ref (u 52), .ref (u 53), .ref (u 54), .ref (u 55), .ref (u 56), .ref (u 57), .int 0])), (u 48, .inl (cA 0, 40, .inl (fun _ => 0))), (u 49, .inl (cA 0, 40, .inl (fun _ => 0))), (u 50, .inl (cA 0, 40, .inl (fun _ => 0))), (u 51, .inl (cA 0, 40, .inl (fun _ => 0))), (u 52, .inl (cA 0, 40, .inl (fun _ => 0))), (u 53, .inl (cA 0, 40, .inl (fun _ => 0))), (u 54, .inl (cA 0, 40, .inl (fun _ => 0))), (u 55, .inl (cA 0, 40, .inl (fun _ => 0))), (u 56, .inl (cA 0, 40, .inl (fun _ => 0))), (u 57, .inl (cA 3, 40, .inl (fun _ => 0))), (u 58, .inl (cA 0, 6, .inl (upd (fun _ => 0) 4 10))), (u 59, .inr (5, [.ref (u 60), .int 0, .int (-1), .ref (u 30), .int 0, .int 0, .int 0])), (u 60, .inl (cA 2, 400, .inl (fun _ => 0))), (u 61, .inr (0, [.ref (u 62), .ref (u 63), .ref (u 64), .int 0, .int 0])), (u 62, .inl (cA 0, 16, .inl (fun _ => 0))), (u 63, .inl (cA 0, 16, .inl (fun _ => 0))), (u 64, .inl (cA 0, 16, .inl (fun _ => 0))), (u 65, .inr (8, [.ref (u 66), .ref (u 67), .ref (u 68), .ref (u 69), .int (-1), .ref (u 70), .ref (u 71), .ref (u 72), .ref (u 73), .ref (u 1), .int 0])), (u 66, .inl (cA 0, 6, .inl (fun _ => 0))), (u 67, .inl (cA 0, 6, .inl (fun _ => 0))), (u 68, .inl (cA 3, 40, .inl (fun _ => 0))), (u 69, .inl (cA 3, 40, .inl (fun _ => 0))), (u 70, .inl (cA 3, 6, .inl (fun _ => 0))), (u 71, .inl (cA 0, 24, .inl (fun _ => 0))), (u 72, .inl (cA 1, 24, .inr (.inl (fun _ => 0)))), (u 73, .inl (cA 0, 3, .inl (fun _ => 0))), (u 74, .inr (2, [.ref (u 65), .ref (u 75), .ref (u 76), .ref (u 77), .ref (u 78), .int 0, .long 0, .long 0])), (u 75, .inl (cA 0, 40, .inl (fun _ => 0))), (u 76, .inl (cA 0, 40, .inl (fun _ => 0))), (u 77, .inl (cA 1, 40, .inr (.inl (fun _ => 0)))), (u 78, .inl (cA 1, 40, .inr (.inl (fun _ => 0)))), (u 79, .inr (3, [.ref (u 74), .ref (u 80), .ref (u 81), .ref (u 82), .ref (u 83), .ref (u 84), .ref (u 85), .ref (u 86), .ref (u 87), .int 0])), (u 80, .inl (cA 0, 4, .inl (fun _ => 0))), (u 81, .inl (cA 0, 4, .inl (fun _ => 0))), (u 82, .inl (cA 0, 4, .inl (fun _ => 0))), (u 83, .inl (cA 0, 4, .inl (fun _ => 0))), (u 84, .inl (cA 3, 4, .inl (fun _ => 0))), (u 85, .inl (cA 0, 4, .inl (fun _ => 0))), (u 86, .inl (cA 0, 12, .inl (fun _ => 0))), (u 87, .inl (cA 1, 12, .inr (.inl (fun _ => 0)))), (u 88, .inr (6, [.ref (u 89), .int 0])), (u 89, .inl (cA 2, 64, .inl (fun _ => 0)))]
set_option maxHeartbeats 4000000 in
set_option maxRecDepth 100000 in
theorem cX10_init_mk (l : Launch) : Mk l yX10_init cX10_init 1 (rmx 3 60 89 2892) 89 2892 [] (.inr (10, [.null, .null, .null, .null, .null, .null, .null, .null])) (bk_X10) := Mk.of (by decide +kernel) rfl (fun _ => Nat.le_of_ble_eq_true rfl) (fun X h0 hX hl hQ hA => by
  refine GC_aload_n hX 0 rfl rfl dX10_init_0 ?_
  refine GC_obj hX wo_X10 ⟨Nat.le_of_ble_eq_true rfl, Nat.le_of_ble_eq_true rfl⟩ dX10_init_1 ?_
  refine GC_aload_n hX 0 rfl rfl dX10_init_4 ?_
  refine GC_new hX 1 [.null, .null, .null, .null, .null, .null, .null, .null, .null, .null] rfl in_X1 tyX1 tyX1_ok wk_X10_7 wi_X1 wn_X1 (fun j hj => by have h9 : j < 10 := hj; exact df_X1 j h9) ⟨Nat.le_of_ble_eq_true rfl, Nat.le_of_ble_eq_true rfl⟩ dX10_init_5 (fun q5 => ?_)
  refine GC_dup hX rfl dX10_init_8 ?_
  refine GC_ctor hX [.ref q5, .ref h0] (cX1_init_mk (cx_l X)) rfl wm_X1 wn_X1 wc_X1 ⟨by decide +kernel, by decide +kernel, by decide +kernel⟩ (Or.inl wl_X10_9) rfl rfl (Nat.le_of_ble_eq_true rfl) ⟨rfl, rfl, by decide, by decide⟩ ⟨Nat.le_of_ble_eq_true rfl, Nat.le_of_ble_eq_true rfl⟩ dX10_init_9 (fun u9 hu9 => ?_)
  subst hu9
  refine GC_put (j := 6) hX 10 (.object "DutyCase$Book") rfl in_X10 tyX10 tyX10_ok nmX10 ⟨rfl, rfl, rfl, rfl, rfl⟩ (by decide) lf_X10_10 rfl rfl (Nat.le_of_ble_eq_true rfl) [.null, .null, .null, .null, .null, .null, .ref (u9 0), .null] rfl dX10_init_12 ?_
  refine GC_aload_n hX 0 rfl rfl dX10_init_15 ?_
  refine GC_new hX 1 [.null, .null, .null, .null, .null, .null, .null, .null, .null, .null] rfl in_X1 tyX1 tyX1_ok wk_X10_7 wi_X1 wn_X1 (fun j hj => by have h9 : j < 10 := hj; exact df_X1 j h9) ⟨Nat.le_of_ble_eq_true rfl, Nat.le_of_ble_eq_true rfl⟩ dX10_init_16 (fun q16 => ?_)
  refine GC_dup hX rfl dX10_init_19 ?_
  refine GC_ctor hX [.ref q16, .ref h0] (cX1_init_mk (cx_l X)) rfl wm_X1 wn_X1 wc_X1 ⟨by decide +kernel, by decide +kernel, by decide +kernel⟩ (Or.inl wl_X10_9) rfl rfl (Nat.le_of_ble_eq_true rfl) ⟨rfl, rfl, by decide, by decide⟩ ⟨Nat.le_of_ble_eq_true rfl, Nat.le_of_ble_eq_true rfl⟩ dX10_init_20 (fun u20 hu20 => ?_)
  subst hu20
  refine GC_put (j := 7) hX 10 (.object "DutyCase$Book") rfl in_X10 tyX10 tyX10_ok nmX10 ⟨rfl, rfl, rfl, rfl, rfl⟩ (by decide) lf_X10_16 rfl rfl (Nat.le_of_ble_eq_true rfl) [.null, .null, .null, .null, .null, .null, .ref (u9 0), .ref (u20 0)] rfl dX10_init_23 ?_
  refine GC_aload_n hX 0 rfl rfl dX10_init_26 ?_
  refine GC_new hX 5 [.null, .int 0, .int 0, .null, .int 0, .int 0, .int 0] rfl in_X5 tyX5 tyX5_ok wk_X10_19 wi_X5 wn_X5 (fun j hj => by have h9 : j < 7 := hj; exact df_X5 j h9) ⟨Nat.le_of_ble_eq_true rfl, Nat.le_of_ble_eq_true rfl⟩ dX10_init_27 (fun q27 => ?_)
  refine GC_dup hX rfl dX10_init_30 ?_
  refine GC_aload_n hX 0 rfl rfl dX10_init_31 ?_
  refine GC_get (j := 7) hX 10 rfl in_X10 ⟨rfl, rfl, rfl⟩ (by decide) lf_X10_16 rfl dX10_init_32 ?_
  refine GC_ctor hX [.ref q27, .ref h0] (cX5_init_mk (cx_l X) (u20 0)) rfl wm_X5 wn_X5 wc_X5 ⟨by decide +kernel, by decide +kernel, by decide +kernel⟩ (Or.inl wl_X10_21) rfl rfl (Nat.le_of_ble_eq_true rfl) ⟨rfl, rfl, by decide, by decide⟩ ⟨Nat.le_of_ble_eq_true rfl, Nat.le_of_ble_eq_true rfl⟩ dX10_init_35 (fun u35 hu35 => ?_)
  subst hu35
  refine GC_putF (j := 0) hX 10 (.object "DutyCase$Reader") rfl in_X10 tyX10 tyX10_ok nmX10 ⟨rfl, rfl, rfl, rfl, rfl⟩ (by decide) lf_X10_24 rfl rfl rfl (Nat.le_of_ble_eq_true rfl) [.ref (u35 0), .null, .null, .null, .null, .null, .ref (u9 0), .ref (u20 0)] rfl dX10_init_38 ?_
  refine GC_aload_n hX 0 rfl rfl dX10_init_41 ?_
  refine GC_new hX 0 [.null, .null, .null, .int 0, .int 0] rfl in_X0 tyX0 tyX0_ok wk_X10_28 wi_X0 wn_X0 (fun j hj => by have h9 : j < 5 := hj; exact df_X0 j h9) ⟨Nat.le_of_ble_eq_true rfl, Nat.le_of_ble_eq_true rfl⟩ dX10_init_42 (fun q42 => ?_)
  refine GC_dup hX rfl dX10_init_45 ?_
  refine GC_ctor hX [.ref q42, .ref h0] (cX0_init_mk (cx_l X)) rfl wm_X0 wn_X0 wc_X0 ⟨by decide +kernel, by decide +kernel, by decide +kernel⟩ (Or.inr ⟨"DutyCase", by decide +kernel⟩) rfl rfl (Nat.le_of_ble_eq_true rfl) ⟨rfl, rfl, by decide, by decide⟩ ⟨Nat.le_of_ble_eq_true rfl, Nat.le_of_ble_eq_true rfl⟩ dX10_init_46 (fun u46 hu46 => ?_)
  subst hu46
  refine GC_putF (j := 1) hX 10 (.object "DutyCase$Acts") rfl in_X10 tyX10 tyX10_ok nmX10 ⟨rfl, rfl, rfl, rfl, rfl⟩ (by decide) lf_X10_31 rfl rfl rfl (Nat.le_of_ble_eq_true rfl) [.ref (u35 0), .ref (u46 0), .null, .null, .null, .null, .ref (u9 0), .ref (u20 0)] rfl dX10_init_49 ?_
  refine GC_aload_n hX 0 rfl rfl dX10_init_52 ?_
  refine GC_new hX 8 [.null, .null, .null, .null, .int 0, .null, .null, .null, .null, .null, .int 0] rfl in_X8 tyX8 tyX8_ok wk_X10_35 wi_X8 wn_X8 (fun j hj => by have h9 : j < 11 := hj; exact df_X8 j h9) ⟨Nat.le_of_ble_eq_true rfl, Nat.le_of_ble_eq_true rfl⟩ dX10_init_53 (fun q53 => ?_)
  refine GC_dup hX rfl dX10_init_56 ?_
  refine GC_aload_n hX 0 rfl rfl dX10_init_57 ?_
  refine GC_get (j := 6) hX 10 rfl in_X10 ⟨rfl, rfl, rfl⟩ (by decide) lf_X10_10 rfl dX10_init_58 ?_
  refine GC_ctor hX [.ref q53, .ref h0] (cX8_init_mk (cx_l X) (u9 0)) rfl wm_X8 wn_X8 wc_X8 ⟨by decide +kernel, by decide +kernel, by decide +kernel⟩ (Or.inl wl_X10_37) rfl rfl (Nat.le_of_ble_eq_true rfl) ⟨rfl, rfl, by decide, by decide⟩ ⟨Nat.le_of_ble_eq_true rfl, Nat.le_of_ble_eq_true rfl⟩ dX10_init_61 (fun u61 hu61 => ?_)
  subst hu61
  refine GC_putF (j := 2) hX 10 (.object "DutyCase$Study") rfl in_X10 tyX10 tyX10_ok nmX10 ⟨rfl, rfl, rfl, rfl, rfl⟩ (by decide) lf_X10_38 rfl rfl rfl (Nat.le_of_ble_eq_true rfl) [.ref (u35 0), .ref (u46 0), .ref (u61 0), .null, .null, .null, .ref (u9 0), .ref (u20 0)] rfl dX10_init_64 ?_
  refine GC_aload_n hX 0 rfl rfl dX10_init_67 ?_
  refine GC_new hX 2 [.null, .null, .null, .null, .null, .int 0, .long 0, .long 0] rfl in_X2 tyX2 tyX2_ok wk_X10_42 wi_X2 wn_X2 (fun j hj => by have h9 : j < 8 := hj; exact df_X2 j h9) ⟨Nat.le_of_ble_eq_true rfl, Nat.le_of_ble_eq_true rfl⟩ dX10_init_68 (fun q68 => ?_)
  refine GC_dup hX rfl dX10_init_71 ?_
  refine GC_aload_n hX 0 rfl rfl dX10_init_72 ?_
  refine GC_get (j := 2) hX 10 rfl in_X10 ⟨rfl, rfl, rfl⟩ (by decide) lf_X10_38 rfl dX10_init_73 ?_
  refine GC_ctor hX [.ref q68, .ref h0] (cX2_init_mk (cx_l X) (u61 0)) rfl wm_X2 wn_X2 wc_X2 ⟨by decide +kernel, by decide +kernel, by decide +kernel⟩ (Or.inl wl_X10_44) rfl rfl (Nat.le_of_ble_eq_true rfl) ⟨rfl, rfl, by decide, by decide⟩ ⟨Nat.le_of_ble_eq_true rfl, Nat.le_of_ble_eq_true rfl⟩ dX10_init_76 (fun u76 hu76 => ?_)
  subst hu76
  refine GC_putF (j := 3) hX 10 (.object "DutyCase$Comparison") rfl in_X10 tyX10 tyX10_ok nmX10 ⟨rfl, rfl, rfl, rfl, rfl⟩ (by decide) lf_X10_47 rfl rfl rfl (Nat.le_of_ble_eq_true rfl) [.ref (u35 0), .ref (u46 0), .ref (u61 0), .ref (u76 0), .null, .null, .ref (u9 0), .ref (u20 0)] rfl dX10_init_79 ?_
  refine GC_aload_n hX 0 rfl rfl dX10_init_82 ?_
  refine GC_new hX 3 [.null, .null, .null, .null, .null, .null, .null, .null, .null, .int 0] rfl in_X3 tyX3 tyX3_ok wk_X10_51 wi_X3 wn_X3 (fun j hj => by have h9 : j < 10 := hj; exact df_X3 j h9) ⟨Nat.le_of_ble_eq_true rfl, Nat.le_of_ble_eq_true rfl⟩ dX10_init_83 (fun q83 => ?_)
  refine GC_dup hX rfl dX10_init_86 ?_
  refine GC_aload_n hX 0 rfl rfl dX10_init_87 ?_
  refine GC_get (j := 3) hX 10 rfl in_X10 ⟨rfl, rfl, rfl⟩ (by decide) lf_X10_47 rfl dX10_init_88 ?_
  refine GC_ctor hX [.ref q83, .ref h0] (cX3_init_mk (cx_l X) (u76 0)) rfl wm_X3 wn_X3 wc_X3 ⟨by decide +kernel, by decide +kernel, by decide +kernel⟩ (Or.inl wl_X10_53) rfl rfl (Nat.le_of_ble_eq_true rfl) ⟨rfl, rfl, by decide, by decide⟩ ⟨Nat.le_of_ble_eq_true rfl, Nat.le_of_ble_eq_true rfl⟩ dX10_init_91 (fun u91 hu91 => ?_)
  subst hu91
  refine GC_putF (j := 4) hX 10 (.object "DutyCase$Duties") rfl in_X10 tyX10 tyX10_ok nmX10 ⟨rfl, rfl, rfl, rfl, rfl⟩ (by decide) lf_X10_56 rfl rfl rfl (Nat.le_of_ble_eq_true rfl) [.ref (u35 0), .ref (u46 0), .ref (u61 0), .ref (u76 0), .ref (u91 0), .null, .ref (u9 0), .ref (u20 0)] rfl dX10_init_94 ?_
  refine GC_aload_n hX 0 rfl rfl dX10_init_97 ?_
  refine GC_new hX 6 [.null, .int 0] rfl in_X6 tyX6 tyX6_ok wk_X10_60 wi_X6 wn_X6 (fun j hj => by have h9 : j < 2 := hj; exact df_X6 j h9) ⟨Nat.le_of_ble_eq_true rfl, Nat.le_of_ble_eq_true rfl⟩ dX10_init_98 (fun q98 => ?_)
  refine GC_dup hX rfl dX10_init_101 ?_
  refine GC_ctor hX [.ref q98, .ref h0] (cX6_init_mk (cx_l X)) rfl wm_X6 wn_X6 wc_X6 ⟨by decide +kernel, by decide +kernel, by decide +kernel⟩ (Or.inr ⟨"DutyCase", by decide +kernel⟩) rfl rfl (Nat.le_of_ble_eq_true rfl) ⟨rfl, rfl, by decide, by decide⟩ ⟨Nat.le_of_ble_eq_true rfl, Nat.le_of_ble_eq_true rfl⟩ dX10_init_102 (fun u102 hu102 => ?_)
  subst hu102
  refine GC_putF (j := 5) hX 10 (.object "DutyCase$Report") rfl in_X10 tyX10 tyX10_ok nmX10 ⟨rfl, rfl, rfl, rfl, rfl⟩ (by decide) lf_X10_63 rfl rfl rfl (Nat.le_of_ble_eq_true rfl) [.ref (u35 0), .ref (u46 0), .ref (u61 0), .ref (u76 0), .ref (u91 0), .ref (u102 0), .ref (u9 0), .ref (u20 0)] rfl dX10_init_105 ?_
  exact GC_ret hX hQ hA ⟨Nat.le_of_ble_eq_true rfl, Nat.le_of_ble_eq_true rfl⟩ (fun k => [h0, (u9 0), (u9 1), (u9 2), (u9 3), (u9 4), (u9 5), (u9 6), (u9 7), (u9 8), (u9 9), (u9 10), (u9 11), (u9 12), (u9 13), (u9 14), (u9 15), (u9 16), (u9 17), (u9 18), (u9 19), (u9 20), (u9 21), (u9 22), (u9 23), (u9 24), (u9 25), (u9 26), (u9 27), (u9 28), (u20 0), (u20 1), (u20 2), (u20 3), (u20 4), (u20 5), (u20 6), (u20 7), (u20 8), (u20 9), (u20 10), (u20 11), (u20 12), (u20 13), (u20 14), (u20 15), (u20 16), (u20 17), (u20 18), (u20 19), (u20 20), (u20 21), (u20 22), (u20 23), (u20 24), (u20 25), (u20 26), (u20 27), (u20 28), (u35 0), (u35 1), (u46 0), (u46 1), (u46 2), (u46 3), (u61 0), (u61 1), (u61 2), (u61 3), (u61 4), (u61 5), (u61 6), (u61 7), (u61 8), (u76 0), (u76 1), (u76 2), (u76 3), (u76 4), (u91 0), (u91 1), (u91 2), (u91 3), (u91 4), (u91 5), (u91 6), (u91 7), (u91 8), (u102 0), (u102 1)].getD k 0) rfl rfl dX10_init_108)
theorem df_X10 : ∀ j, j < 8 → defaultValue (tyX10 j) = vp_V [.null, .null, .null, .null, .null, .null, .null, .null] j := by decide +kernel
set_option maxRecDepth 100000 in
theorem wo_X11 : Cond.methodLink RX11 1 Lib.objectInit ∈ tb := tb_6 (List.mem_of_getElem? (i := 172) rfl) rfl
def bk_X11 (cA : Nat → ClassId) (u : Nat → Nat) : va_W := [(u 0, .inr (11, [.int 0, .ref (u 1), .ref (u 2), .ref (u 3), .int 0, .int 0, .int 0, .ref (u 4), .ref (u 5), .ref (u 6), .ref (u 7), .ref (u 8), .ref (u 9), .ref (u 10), .int 0, .int 0, .int 0, .int (-1), .int 0, .int 0, .ref (u 11), .ref (u 12), .ref (u 13), .ref (u 14), .ref (u 15), .ref (u 16), .int 0, .int 0, .ref (u 17), .int 0, .int 0, .ref (u 18), .ref (u 19), .ref (u 20), .ref (u 21), .ref (u 22), .ref (u 23), .int 0, .int 0, .int 0, .ref (u 24), .ref (u 25), .ref (u 26), .ref (u 27), .ref (u 28), .int 0, .ref (u 29), .int 0])), (u 1, .inl (cA 0, 355, .inl (upd (fun _ => 0) 32 10))), (u 2, .inl (cA 0, 355, .inl (fun _ => 0))), (u 3, .inl (cA 0, 5680, .inl (fun _ => 0))), (u 4, .inl (cA 0, 6, .inl (fun _ => 0))), (u 5, .inl (cA 0, 4, .inl (fun _ => 0))), (u 6, .inl (cA 0, 18, .inl (fun _ => 0))), (u 7, .inl (cA 0, 1200, .inl (fun _ => 0))), (u 8, .inl (cA 0, 1200, .inl (fun _ => 0))), (u 9, .inl (cA 0, 3, .inl (fun _ => 0))), (u 10, .inl (cA 2, 400, .inl (fun _ => 0))), (u 11, .inl (cA 0, 6, .inl (fun _ => 0))), (u 12, .inl (cA 0, 4, .inl (fun _ => 0))), (u 13, .inl (cA 0, 18, .inl (fun _ => 0))), (u 14, .inl (cA 0, 1200, .inl (fun _ => 0))), (u 15, .inl (cA 0, 1200, .inl (fun _ => 0))), (u 16, .inl (cA 0, 3, .inl (fun _ => 0))), (u 17, .inl (cA 0, 410, .inl (fun _ => 0))), (u 18, .inl (cA 0, 40, .inl (fun _ => 0))), (u 19, .inl (cA 0, 40, .inl (fun _ => 0))), (u 20, .inl (cA 3, 40, .inl (fun _ => 0))), (u 21, .inl (cA 3, 40, .inl (fun _ => 0))), (u 22, .inl (cA 0, 4, .inl (fun _ => 0))), (u 23, .inl (cA 1, 400, .inr (.inl (fun _ => 0)))), (u 24, .inl (cA 1, 40, .inr (.inl (fun _ => 0)))), (u 25, .inl (cA 0, 40, .inl (fun _ => 0))), (u 26, .inl (cA 0, 40, .inl (fun _ => 0))), (u 27, .inl (cA 1, 40, .inr (.inl (fun _ => 0)))), (u 28, .inl (cA 1, 40, .inr (.inl (fun _ => 0)))), (u 29, .inl (cA 0, 60, .inl (fun _ => 0)))]
set_option maxHeartbeats 4000000 in
set_option maxRecDepth 100000 in
theorem cX11_init_mk (l : Launch) : Mk l yX11_init cX11_init 1 (rmx 1 20 29 12886) 29 12886 [] (.inr (11, [.int 0, .null, .null, .null, .int 0, .int 0, .int 0, .null, .null, .null, .null, .null, .null, .null, .int 0, .int 0, .int 0, .int 0, .int 0, .int 0, .null, .null, .null, .null, .null, .null, .int 0, .int 0, .null, .int 0, .int 0, .null, .null, .null, .null, .null, .null, .int 0, .int 0, .int 0, .null, .null, .null, .null, .null, .int 0, .null, .int 0])) (bk_X11) := Mk.of (by decide +kernel) rfl (fun _ => Nat.le_of_ble_eq_true rfl) (fun X h0 hX hl hQ hA => by
  refine GC_aload_n hX 0 rfl rfl dX11_init_0 ?_
  refine GC_obj hX wo_X11 ⟨Nat.le_of_ble_eq_true rfl, Nat.le_of_ble_eq_true rfl⟩ dX11_init_1 ?_
  refine GC_aload_n hX 0 rfl rfl dX11_init_4 ?_
  refine GC_sipush hX (355 : Int32) rfl dX11_init_5 ?_
  refine GC_newInt hX 355 (by decide) (by decide) (Nat.le_of_ble_eq_true rfl) ⟨Nat.le_of_ble_eq_true rfl, Nat.le_of_ble_eq_true rfl⟩ dX11_init_8 (fun q8 => ?_)
  refine GC_putF (j := 1) hX 11 (.array .int) rfl in_X11 tyX11 tyX11_ok nmX11 ⟨rfl, rfl, rfl, rfl, rfl⟩ (by decide) lf_X11_7 rfl rfl rfl (Nat.le_of_ble_eq_true rfl) [.int 0, .ref q8, .null, .null, .int 0, .int 0, .int 0, .null, .null, .null, .null, .null, .null, .null, .int 0, .int 0, .int 0, .int 0, .int 0, .int 0, .null, .null, .null, .null, .null, .null, .int 0, .int 0, .null, .int 0, .int 0, .null, .null, .null, .null, .null, .null, .int 0, .int 0, .int 0, .null, .null, .null, .null, .null, .int 0, .null, .int 0] rfl dX11_init_10 ?_
  refine GC_aload_n hX 0 rfl rfl dX11_init_13 ?_
  refine GC_sipush hX (355 : Int32) rfl dX11_init_14 ?_
  refine GC_newInt hX 355 (by decide) (by decide) (Nat.le_of_ble_eq_true rfl) ⟨Nat.le_of_ble_eq_true rfl, Nat.le_of_ble_eq_true rfl⟩ dX11_init_17 (fun q17 => ?_)
  refine GC_putF (j := 2) hX 11 (.array .int) rfl in_X11 tyX11 tyX11_ok nmX11 ⟨rfl, rfl, rfl, rfl, rfl⟩ (by decide) lf_X11_13 rfl rfl rfl (Nat.le_of_ble_eq_true rfl) [.int 0, .ref q8, .ref q17, .null, .int 0, .int 0, .int 0, .null, .null, .null, .null, .null, .null, .null, .int 0, .int 0, .int 0, .int 0, .int 0, .int 0, .null, .null, .null, .null, .null, .null, .int 0, .int 0, .null, .int 0, .int 0, .null, .null, .null, .null, .null, .null, .int 0, .int 0, .int 0, .null, .null, .null, .null, .null, .int 0, .null, .int 0] rfl dX11_init_19 ?_
  refine GC_aload_n hX 0 rfl rfl dX11_init_22 ?_
  refine GC_sipush hX (5680 : Int32) rfl dX11_init_23 ?_
  refine GC_newInt hX 5680 (by decide) (by decide) (Nat.le_of_ble_eq_true rfl) ⟨Nat.le_of_ble_eq_true rfl, Nat.le_of_ble_eq_true rfl⟩ dX11_init_26 (fun q26 => ?_)
  refine GC_putF (j := 3) hX 11 (.array .int) rfl in_X11 tyX11 tyX11_ok nmX11 ⟨rfl, rfl, rfl, rfl, rfl⟩ (by decide) lf_X11_16 rfl rfl rfl (Nat.le_of_ble_eq_true rfl) [.int 0, .ref q8, .ref q17, .ref q26, .int 0, .int 0, .int 0, .null, .null, .null, .null, .null, .null, .null, .int 0, .int 0, .int 0, .int 0, .int 0, .int 0, .null, .null, .null, .null, .null, .null, .int 0, .int 0, .null, .int 0, .int 0, .null, .null, .null, .null, .null, .null, .int 0, .int 0, .int 0, .null, .null, .null, .null, .null, .int 0, .null, .int 0] rfl dX11_init_28 ?_
  refine GC_aload_n hX 0 rfl rfl dX11_init_31 ?_
  refine GC_bipush hX (6 : Int32) rfl dX11_init_32 ?_
  refine GC_newInt hX 6 (by decide) (by decide) (Nat.le_of_ble_eq_true rfl) ⟨Nat.le_of_ble_eq_true rfl, Nat.le_of_ble_eq_true rfl⟩ dX11_init_34 (fun q34 => ?_)
  refine GC_putF (j := 7) hX 11 (.array .int) rfl in_X11 tyX11 tyX11_ok nmX11 ⟨rfl, rfl, rfl, rfl, rfl⟩ (by decide) lf_X11_19 rfl rfl rfl (Nat.le_of_ble_eq_true rfl) [.int 0, .ref q8, .ref q17, .ref q26, .int 0, .int 0, .int 0, .ref q34, .null, .null, .null, .null, .null, .null, .int 0, .int 0, .int 0, .int 0, .int 0, .int 0, .null, .null, .null, .null, .null, .null, .int 0, .int 0, .null, .int 0, .int 0, .null, .null, .null, .null, .null, .null, .int 0, .int 0, .int 0, .null, .null, .null, .null, .null, .int 0, .null, .int 0] rfl dX11_init_36 ?_
  refine GC_aload_n hX 0 rfl rfl dX11_init_39 ?_
  refine GC_iconst hX (4 : Int32) rfl dX11_init_40 ?_
  refine GC_newInt hX 4 (by decide) (by decide) (Nat.le_of_ble_eq_true rfl) ⟨Nat.le_of_ble_eq_true rfl, Nat.le_of_ble_eq_true rfl⟩ dX11_init_41 (fun q41 => ?_)
  refine GC_putF (j := 8) hX 11 (.array .int) rfl in_X11 tyX11 tyX11_ok nmX11 ⟨rfl, rfl, rfl, rfl, rfl⟩ (by decide) lf_X11_22 rfl rfl rfl (Nat.le_of_ble_eq_true rfl) [.int 0, .ref q8, .ref q17, .ref q26, .int 0, .int 0, .int 0, .ref q34, .ref q41, .null, .null, .null, .null, .null, .int 0, .int 0, .int 0, .int 0, .int 0, .int 0, .null, .null, .null, .null, .null, .null, .int 0, .int 0, .null, .int 0, .int 0, .null, .null, .null, .null, .null, .null, .int 0, .int 0, .int 0, .null, .null, .null, .null, .null, .int 0, .null, .int 0] rfl dX11_init_43 ?_
  refine GC_aload_n hX 0 rfl rfl dX11_init_46 ?_
  refine GC_bipush hX (18 : Int32) rfl dX11_init_47 ?_
  refine GC_newInt hX 18 (by decide) (by decide) (Nat.le_of_ble_eq_true rfl) ⟨Nat.le_of_ble_eq_true rfl, Nat.le_of_ble_eq_true rfl⟩ dX11_init_49 (fun q49 => ?_)
  refine GC_putF (j := 9) hX 11 (.array .int) rfl in_X11 tyX11 tyX11_ok nmX11 ⟨rfl, rfl, rfl, rfl, rfl⟩ (by decide) lf_X11_25 rfl rfl rfl (Nat.le_of_ble_eq_true rfl) [.int 0, .ref q8, .ref q17, .ref q26, .int 0, .int 0, .int 0, .ref q34, .ref q41, .ref q49, .null, .null, .null, .null, .int 0, .int 0, .int 0, .int 0, .int 0, .int 0, .null, .null, .null, .null, .null, .null, .int 0, .int 0, .null, .int 0, .int 0, .null, .null, .null, .null, .null, .null, .int 0, .int 0, .int 0, .null, .null, .null, .null, .null, .int 0, .null, .int 0] rfl dX11_init_51 ?_
  refine GC_aload_n hX 0 rfl rfl dX11_init_54 ?_
  refine GC_sipush hX (1200 : Int32) rfl dX11_init_55 ?_
  refine GC_newInt hX 1200 (by decide) (by decide) (Nat.le_of_ble_eq_true rfl) ⟨Nat.le_of_ble_eq_true rfl, Nat.le_of_ble_eq_true rfl⟩ dX11_init_58 (fun q58 => ?_)
  refine GC_putF (j := 10) hX 11 (.array .int) rfl in_X11 tyX11 tyX11_ok nmX11 ⟨rfl, rfl, rfl, rfl, rfl⟩ (by decide) lf_X11_28 rfl rfl rfl (Nat.le_of_ble_eq_true rfl) [.int 0, .ref q8, .ref q17, .ref q26, .int 0, .int 0, .int 0, .ref q34, .ref q41, .ref q49, .ref q58, .null, .null, .null, .int 0, .int 0, .int 0, .int 0, .int 0, .int 0, .null, .null, .null, .null, .null, .null, .int 0, .int 0, .null, .int 0, .int 0, .null, .null, .null, .null, .null, .null, .int 0, .int 0, .int 0, .null, .null, .null, .null, .null, .int 0, .null, .int 0] rfl dX11_init_60 ?_
  refine GC_aload_n hX 0 rfl rfl dX11_init_63 ?_
  refine GC_sipush hX (1200 : Int32) rfl dX11_init_64 ?_
  refine GC_newInt hX 1200 (by decide) (by decide) (Nat.le_of_ble_eq_true rfl) ⟨Nat.le_of_ble_eq_true rfl, Nat.le_of_ble_eq_true rfl⟩ dX11_init_67 (fun q67 => ?_)
  refine GC_putF (j := 11) hX 11 (.array .int) rfl in_X11 tyX11 tyX11_ok nmX11 ⟨rfl, rfl, rfl, rfl, rfl⟩ (by decide) lf_X11_31 rfl rfl rfl (Nat.le_of_ble_eq_true rfl) [.int 0, .ref q8, .ref q17, .ref q26, .int 0, .int 0, .int 0, .ref q34, .ref q41, .ref q49, .ref q58, .ref q67, .null, .null, .int 0, .int 0, .int 0, .int 0, .int 0, .int 0, .null, .null, .null, .null, .null, .null, .int 0, .int 0, .null, .int 0, .int 0, .null, .null, .null, .null, .null, .null, .int 0, .int 0, .int 0, .null, .null, .null, .null, .null, .int 0, .null, .int 0] rfl dX11_init_69 ?_
  refine GC_aload_n hX 0 rfl rfl dX11_init_72 ?_
  refine GC_iconst hX (3 : Int32) rfl dX11_init_73 ?_
  refine GC_newInt hX 3 (by decide) (by decide) (Nat.le_of_ble_eq_true rfl) ⟨Nat.le_of_ble_eq_true rfl, Nat.le_of_ble_eq_true rfl⟩ dX11_init_74 (fun q74 => ?_)
  refine GC_putF (j := 12) hX 11 (.array .int) rfl in_X11 tyX11 tyX11_ok nmX11 ⟨rfl, rfl, rfl, rfl, rfl⟩ (by decide) lf_X11_34 rfl rfl rfl (Nat.le_of_ble_eq_true rfl) [.int 0, .ref q8, .ref q17, .ref q26, .int 0, .int 0, .int 0, .ref q34, .ref q41, .ref q49, .ref q58, .ref q67, .ref q74, .null, .int 0, .int 0, .int 0, .int 0, .int 0, .int 0, .null, .null, .null, .null, .null, .null, .int 0, .int 0, .null, .int 0, .int 0, .null, .null, .null, .null, .null, .null, .int 0, .int 0, .int 0, .null, .null, .null, .null, .null, .int 0, .null, .int 0] rfl dX11_init_76 ?_
  refine GC_aload_n hX 0 rfl rfl dX11_init_79 ?_
  refine GC_sipush hX (400 : Int32) rfl dX11_init_80 ?_
  refine GC_newByte hX 400 (by decide) (by decide) (Nat.le_of_ble_eq_true rfl) ⟨Nat.le_of_ble_eq_true rfl, Nat.le_of_ble_eq_true rfl⟩ dX11_init_83 (fun q83 => ?_)
  refine GC_putF (j := 13) hX 11 (.array .byte) rfl in_X11 tyX11 tyX11_ok nmX11 ⟨rfl, rfl, rfl, rfl, rfl⟩ (by decide) lf_X11_37 rfl rfl rfl (Nat.le_of_ble_eq_true rfl) [.int 0, .ref q8, .ref q17, .ref q26, .int 0, .int 0, .int 0, .ref q34, .ref q41, .ref q49, .ref q58, .ref q67, .ref q74, .ref q83, .int 0, .int 0, .int 0, .int 0, .int 0, .int 0, .null, .null, .null, .null, .null, .null, .int 0, .int 0, .null, .int 0, .int 0, .null, .null, .null, .null, .null, .null, .int 0, .int 0, .int 0, .null, .null, .null, .null, .null, .int 0, .null, .int 0] rfl dX11_init_85 ?_
  refine GC_aload_n hX 0 rfl rfl dX11_init_88 ?_
  refine GC_iconst hX (-1 : Int32) rfl dX11_init_89 ?_
  refine GC_put (j := 17) hX 11 (.int) rfl in_X11 tyX11 tyX11_ok nmX11 ⟨rfl, rfl, rfl, rfl, rfl⟩ (by decide) lf_X11_41 rfl rfl (Nat.le_of_ble_eq_true rfl) [.int 0, .ref q8, .ref q17, .ref q26, .int 0, .int 0, .int 0, .ref q34, .ref q41, .ref q49, .ref q58, .ref q67, .ref q74, .ref q83, .int 0, .int 0, .int 0, .int (-1), .int 0, .int 0, .null, .null, .null, .null, .null, .null, .int 0, .int 0, .null, .int 0, .int 0, .null, .null, .null, .null, .null, .null, .int 0, .int 0, .int 0, .null, .null, .null, .null, .null, .int 0, .null, .int 0] rfl dX11_init_90 ?_
  refine GC_aload_n hX 0 rfl rfl dX11_init_93 ?_
  refine GC_bipush hX (6 : Int32) rfl dX11_init_94 ?_
  refine GC_newInt hX 6 (by decide) (by decide) (Nat.le_of_ble_eq_true rfl) ⟨Nat.le_of_ble_eq_true rfl, Nat.le_of_ble_eq_true rfl⟩ dX11_init_96 (fun q96 => ?_)
  refine GC_putF (j := 20) hX 11 (.array .int) rfl in_X11 tyX11 tyX11_ok nmX11 ⟨rfl, rfl, rfl, rfl, rfl⟩ (by decide) lf_X11_45 rfl rfl rfl (Nat.le_of_ble_eq_true rfl) [.int 0, .ref q8, .ref q17, .ref q26, .int 0, .int 0, .int 0, .ref q34, .ref q41, .ref q49, .ref q58, .ref q67, .ref q74, .ref q83, .int 0, .int 0, .int 0, .int (-1), .int 0, .int 0, .ref q96, .null, .null, .null, .null, .null, .int 0, .int 0, .null, .int 0, .int 0, .null, .null, .null, .null, .null, .null, .int 0, .int 0, .int 0, .null, .null, .null, .null, .null, .int 0, .null, .int 0] rfl dX11_init_98 ?_
  refine GC_aload_n hX 0 rfl rfl dX11_init_101 ?_
  refine GC_iconst hX (4 : Int32) rfl dX11_init_102 ?_
  refine GC_newInt hX 4 (by decide) (by decide) (Nat.le_of_ble_eq_true rfl) ⟨Nat.le_of_ble_eq_true rfl, Nat.le_of_ble_eq_true rfl⟩ dX11_init_103 (fun q103 => ?_)
  refine GC_putF (j := 21) hX 11 (.array .int) rfl in_X11 tyX11 tyX11_ok nmX11 ⟨rfl, rfl, rfl, rfl, rfl⟩ (by decide) lf_X11_48 rfl rfl rfl (Nat.le_of_ble_eq_true rfl) [.int 0, .ref q8, .ref q17, .ref q26, .int 0, .int 0, .int 0, .ref q34, .ref q41, .ref q49, .ref q58, .ref q67, .ref q74, .ref q83, .int 0, .int 0, .int 0, .int (-1), .int 0, .int 0, .ref q96, .ref q103, .null, .null, .null, .null, .int 0, .int 0, .null, .int 0, .int 0, .null, .null, .null, .null, .null, .null, .int 0, .int 0, .int 0, .null, .null, .null, .null, .null, .int 0, .null, .int 0] rfl dX11_init_105 ?_
  refine GC_aload_n hX 0 rfl rfl dX11_init_108 ?_
  refine GC_bipush hX (18 : Int32) rfl dX11_init_109 ?_
  refine GC_newInt hX 18 (by decide) (by decide) (Nat.le_of_ble_eq_true rfl) ⟨Nat.le_of_ble_eq_true rfl, Nat.le_of_ble_eq_true rfl⟩ dX11_init_111 (fun q111 => ?_)
  refine GC_putF (j := 22) hX 11 (.array .int) rfl in_X11 tyX11 tyX11_ok nmX11 ⟨rfl, rfl, rfl, rfl, rfl⟩ (by decide) lf_X11_51 rfl rfl rfl (Nat.le_of_ble_eq_true rfl) [.int 0, .ref q8, .ref q17, .ref q26, .int 0, .int 0, .int 0, .ref q34, .ref q41, .ref q49, .ref q58, .ref q67, .ref q74, .ref q83, .int 0, .int 0, .int 0, .int (-1), .int 0, .int 0, .ref q96, .ref q103, .ref q111, .null, .null, .null, .int 0, .int 0, .null, .int 0, .int 0, .null, .null, .null, .null, .null, .null, .int 0, .int 0, .int 0, .null, .null, .null, .null, .null, .int 0, .null, .int 0] rfl dX11_init_113 ?_
  refine GC_aload_n hX 0 rfl rfl dX11_init_116 ?_
  refine GC_sipush hX (1200 : Int32) rfl dX11_init_117 ?_
  refine GC_newInt hX 1200 (by decide) (by decide) (Nat.le_of_ble_eq_true rfl) ⟨Nat.le_of_ble_eq_true rfl, Nat.le_of_ble_eq_true rfl⟩ dX11_init_120 (fun q120 => ?_)
  refine GC_putF (j := 23) hX 11 (.array .int) rfl in_X11 tyX11 tyX11_ok nmX11 ⟨rfl, rfl, rfl, rfl, rfl⟩ (by decide) lf_X11_54 rfl rfl rfl (Nat.le_of_ble_eq_true rfl) [.int 0, .ref q8, .ref q17, .ref q26, .int 0, .int 0, .int 0, .ref q34, .ref q41, .ref q49, .ref q58, .ref q67, .ref q74, .ref q83, .int 0, .int 0, .int 0, .int (-1), .int 0, .int 0, .ref q96, .ref q103, .ref q111, .ref q120, .null, .null, .int 0, .int 0, .null, .int 0, .int 0, .null, .null, .null, .null, .null, .null, .int 0, .int 0, .int 0, .null, .null, .null, .null, .null, .int 0, .null, .int 0] rfl dX11_init_122 ?_
  refine GC_aload_n hX 0 rfl rfl dX11_init_125 ?_
  refine GC_sipush hX (1200 : Int32) rfl dX11_init_126 ?_
  refine GC_newInt hX 1200 (by decide) (by decide) (Nat.le_of_ble_eq_true rfl) ⟨Nat.le_of_ble_eq_true rfl, Nat.le_of_ble_eq_true rfl⟩ dX11_init_129 (fun q129 => ?_)
  refine GC_putF (j := 24) hX 11 (.array .int) rfl in_X11 tyX11 tyX11_ok nmX11 ⟨rfl, rfl, rfl, rfl, rfl⟩ (by decide) lf_X11_57 rfl rfl rfl (Nat.le_of_ble_eq_true rfl) [.int 0, .ref q8, .ref q17, .ref q26, .int 0, .int 0, .int 0, .ref q34, .ref q41, .ref q49, .ref q58, .ref q67, .ref q74, .ref q83, .int 0, .int 0, .int 0, .int (-1), .int 0, .int 0, .ref q96, .ref q103, .ref q111, .ref q120, .ref q129, .null, .int 0, .int 0, .null, .int 0, .int 0, .null, .null, .null, .null, .null, .null, .int 0, .int 0, .int 0, .null, .null, .null, .null, .null, .int 0, .null, .int 0] rfl dX11_init_131 ?_
  refine GC_aload_n hX 0 rfl rfl dX11_init_134 ?_
  refine GC_iconst hX (3 : Int32) rfl dX11_init_135 ?_
  refine GC_newInt hX 3 (by decide) (by decide) (Nat.le_of_ble_eq_true rfl) ⟨Nat.le_of_ble_eq_true rfl, Nat.le_of_ble_eq_true rfl⟩ dX11_init_136 (fun q136 => ?_)
  refine GC_putF (j := 25) hX 11 (.array .int) rfl in_X11 tyX11 tyX11_ok nmX11 ⟨rfl, rfl, rfl, rfl, rfl⟩ (by decide) lf_X11_60 rfl rfl rfl (Nat.le_of_ble_eq_true rfl) [.int 0, .ref q8, .ref q17, .ref q26, .int 0, .int 0, .int 0, .ref q34, .ref q41, .ref q49, .ref q58, .ref q67, .ref q74, .ref q83, .int 0, .int 0, .int 0, .int (-1), .int 0, .int 0, .ref q96, .ref q103, .ref q111, .ref q120, .ref q129, .ref q136, .int 0, .int 0, .null, .int 0, .int 0, .null, .null, .null, .null, .null, .null, .int 0, .int 0, .int 0, .null, .null, .null, .null, .null, .int 0, .null, .int 0] rfl dX11_init_138 ?_
  refine GC_aload_n hX 0 rfl rfl dX11_init_141 ?_
  refine GC_sipush hX (410 : Int32) rfl dX11_init_142 ?_
  refine GC_newInt hX 410 (by decide) (by decide) (Nat.le_of_ble_eq_true rfl) ⟨Nat.le_of_ble_eq_true rfl, Nat.le_of_ble_eq_true rfl⟩ dX11_init_145 (fun q145 => ?_)
  refine GC_putF (j := 28) hX 11 (.array .int) rfl in_X11 tyX11 tyX11_ok nmX11 ⟨rfl, rfl, rfl, rfl, rfl⟩ (by decide) lf_X11_63 rfl rfl rfl (Nat.le_of_ble_eq_true rfl) [.int 0, .ref q8, .ref q17, .ref q26, .int 0, .int 0, .int 0, .ref q34, .ref q41, .ref q49, .ref q58, .ref q67, .ref q74, .ref q83, .int 0, .int 0, .int 0, .int (-1), .int 0, .int 0, .ref q96, .ref q103, .ref q111, .ref q120, .ref q129, .ref q136, .int 0, .int 0, .ref q145, .int 0, .int 0, .null, .null, .null, .null, .null, .null, .int 0, .int 0, .int 0, .null, .null, .null, .null, .null, .int 0, .null, .int 0] rfl dX11_init_147 ?_
  refine GC_aload_n hX 0 rfl rfl dX11_init_150 ?_
  refine GC_bipush hX (40 : Int32) rfl dX11_init_151 ?_
  refine GC_newInt hX 40 (by decide) (by decide) (Nat.le_of_ble_eq_true rfl) ⟨Nat.le_of_ble_eq_true rfl, Nat.le_of_ble_eq_true rfl⟩ dX11_init_153 (fun q153 => ?_)
  refine GC_putF (j := 31) hX 11 (.array .int) rfl in_X11 tyX11 tyX11_ok nmX11 ⟨rfl, rfl, rfl, rfl, rfl⟩ (by decide) lf_X11_66 rfl rfl rfl (Nat.le_of_ble_eq_true rfl) [.int 0, .ref q8, .ref q17, .ref q26, .int 0, .int 0, .int 0, .ref q34, .ref q41, .ref q49, .ref q58, .ref q67, .ref q74, .ref q83, .int 0, .int 0, .int 0, .int (-1), .int 0, .int 0, .ref q96, .ref q103, .ref q111, .ref q120, .ref q129, .ref q136, .int 0, .int 0, .ref q145, .int 0, .int 0, .ref q153, .null, .null, .null, .null, .null, .int 0, .int 0, .int 0, .null, .null, .null, .null, .null, .int 0, .null, .int 0] rfl dX11_init_155 ?_
  refine GC_aload_n hX 0 rfl rfl dX11_init_158 ?_
  refine GC_bipush hX (40 : Int32) rfl dX11_init_159 ?_
  refine GC_newInt hX 40 (by decide) (by decide) (Nat.le_of_ble_eq_true rfl) ⟨Nat.le_of_ble_eq_true rfl, Nat.le_of_ble_eq_true rfl⟩ dX11_init_161 (fun q161 => ?_)
  refine GC_putF (j := 32) hX 11 (.array .int) rfl in_X11 tyX11 tyX11_ok nmX11 ⟨rfl, rfl, rfl, rfl, rfl⟩ (by decide) lf_X11_69 rfl rfl rfl (Nat.le_of_ble_eq_true rfl) [.int 0, .ref q8, .ref q17, .ref q26, .int 0, .int 0, .int 0, .ref q34, .ref q41, .ref q49, .ref q58, .ref q67, .ref q74, .ref q83, .int 0, .int 0, .int 0, .int (-1), .int 0, .int 0, .ref q96, .ref q103, .ref q111, .ref q120, .ref q129, .ref q136, .int 0, .int 0, .ref q145, .int 0, .int 0, .ref q153, .ref q161, .null, .null, .null, .null, .int 0, .int 0, .int 0, .null, .null, .null, .null, .null, .int 0, .null, .int 0] rfl dX11_init_163 ?_
  refine GC_aload_n hX 0 rfl rfl dX11_init_166 ?_
  refine GC_bipush hX (40 : Int32) rfl dX11_init_167 ?_
  refine GC_newBool hX 40 (by decide) (by decide) (Nat.le_of_ble_eq_true rfl) ⟨Nat.le_of_ble_eq_true rfl, Nat.le_of_ble_eq_true rfl⟩ dX11_init_169 (fun q169 => ?_)
  refine GC_putF (j := 33) hX 11 (.array .boolean) rfl in_X11 tyX11 tyX11_ok nmX11 ⟨rfl, rfl, rfl, rfl, rfl⟩ (by decide) lf_X11_72 rfl rfl rfl (Nat.le_of_ble_eq_true rfl) [.int 0, .ref q8, .ref q17, .ref q26, .int 0, .int 0, .int 0, .ref q34, .ref q41, .ref q49, .ref q58, .ref q67, .ref q74, .ref q83, .int 0, .int 0, .int 0, .int (-1), .int 0, .int 0, .ref q96, .ref q103, .ref q111, .ref q120, .ref q129, .ref q136, .int 0, .int 0, .ref q145, .int 0, .int 0, .ref q153, .ref q161, .ref q169, .null, .null, .null, .int 0, .int 0, .int 0, .null, .null, .null, .null, .null, .int 0, .null, .int 0] rfl dX11_init_171 ?_
  refine GC_aload_n hX 0 rfl rfl dX11_init_174 ?_
  refine GC_bipush hX (40 : Int32) rfl dX11_init_175 ?_
  refine GC_newBool hX 40 (by decide) (by decide) (Nat.le_of_ble_eq_true rfl) ⟨Nat.le_of_ble_eq_true rfl, Nat.le_of_ble_eq_true rfl⟩ dX11_init_177 (fun q177 => ?_)
  refine GC_putF (j := 34) hX 11 (.array .boolean) rfl in_X11 tyX11 tyX11_ok nmX11 ⟨rfl, rfl, rfl, rfl, rfl⟩ (by decide) lf_X11_76 rfl rfl rfl (Nat.le_of_ble_eq_true rfl) [.int 0, .ref q8, .ref q17, .ref q26, .int 0, .int 0, .int 0, .ref q34, .ref q41, .ref q49, .ref q58, .ref q67, .ref q74, .ref q83, .int 0, .int 0, .int 0, .int (-1), .int 0, .int 0, .ref q96, .ref q103, .ref q111, .ref q120, .ref q129, .ref q136, .int 0, .int 0, .ref q145, .int 0, .int 0, .ref q153, .ref q161, .ref q169, .ref q177, .null, .null, .int 0, .int 0, .int 0, .null, .null, .null, .null, .null, .int 0, .null, .int 0] rfl dX11_init_179 ?_
  refine GC_aload_n hX 0 rfl rfl dX11_init_182 ?_
  refine GC_iconst hX (4 : Int32) rfl dX11_init_183 ?_
  refine GC_newInt hX 4 (by decide) (by decide) (Nat.le_of_ble_eq_true rfl) ⟨Nat.le_of_ble_eq_true rfl, Nat.le_of_ble_eq_true rfl⟩ dX11_init_184 (fun q184 => ?_)
  refine GC_putF (j := 35) hX 11 (.array .int) rfl in_X11 tyX11 tyX11_ok nmX11 ⟨rfl, rfl, rfl, rfl, rfl⟩ (by decide) lf_X11_79 rfl rfl rfl (Nat.le_of_ble_eq_true rfl) [.int 0, .ref q8, .ref q17, .ref q26, .int 0, .int 0, .int 0, .ref q34, .ref q41, .ref q49, .ref q58, .ref q67, .ref q74, .ref q83, .int 0, .int 0, .int 0, .int (-1), .int 0, .int 0, .ref q96, .ref q103, .ref q111, .ref q120, .ref q129, .ref q136, .int 0, .int 0, .ref q145, .int 0, .int 0, .ref q153, .ref q161, .ref q169, .ref q177, .ref q184, .null, .int 0, .int 0, .int 0, .null, .null, .null, .null, .null, .int 0, .null, .int 0] rfl dX11_init_186 ?_
  refine GC_aload_n hX 0 rfl rfl dX11_init_189 ?_
  refine GC_sipush hX (400 : Int32) rfl dX11_init_190 ?_
  refine GC_newLong hX 400 (by decide) (by decide) (Nat.le_of_ble_eq_true rfl) ⟨Nat.le_of_ble_eq_true rfl, Nat.le_of_ble_eq_true rfl⟩ dX11_init_193 (fun q193 => ?_)
  refine GC_putF (j := 36) hX 11 (.array .long) rfl in_X11 tyX11 tyX11_ok nmX11 ⟨rfl, rfl, rfl, rfl, rfl⟩ (by decide) lf_X11_82 rfl rfl rfl (Nat.le_of_ble_eq_true rfl) [.int 0, .ref q8, .ref q17, .ref q26, .int 0, .int 0, .int 0, .ref q34, .ref q41, .ref q49, .ref q58, .ref q67, .ref q74, .ref q83, .int 0, .int 0, .int 0, .int (-1), .int 0, .int 0, .ref q96, .ref q103, .ref q111, .ref q120, .ref q129, .ref q136, .int 0, .int 0, .ref q145, .int 0, .int 0, .ref q153, .ref q161, .ref q169, .ref q177, .ref q184, .ref q193, .int 0, .int 0, .int 0, .null, .null, .null, .null, .null, .int 0, .null, .int 0] rfl dX11_init_195 ?_
  refine GC_aload_n hX 0 rfl rfl dX11_init_198 ?_
  refine GC_bipush hX (40 : Int32) rfl dX11_init_199 ?_
  refine GC_newLong hX 40 (by decide) (by decide) (Nat.le_of_ble_eq_true rfl) ⟨Nat.le_of_ble_eq_true rfl, Nat.le_of_ble_eq_true rfl⟩ dX11_init_201 (fun q201 => ?_)
  refine GC_putF (j := 40) hX 11 (.array .long) rfl in_X11 tyX11 tyX11_ok nmX11 ⟨rfl, rfl, rfl, rfl, rfl⟩ (by decide) lf_X11_86 rfl rfl rfl (Nat.le_of_ble_eq_true rfl) [.int 0, .ref q8, .ref q17, .ref q26, .int 0, .int 0, .int 0, .ref q34, .ref q41, .ref q49, .ref q58, .ref q67, .ref q74, .ref q83, .int 0, .int 0, .int 0, .int (-1), .int 0, .int 0, .ref q96, .ref q103, .ref q111, .ref q120, .ref q129, .ref q136, .int 0, .int 0, .ref q145, .int 0, .int 0, .ref q153, .ref q161, .ref q169, .ref q177, .ref q184, .ref q193, .int 0, .int 0, .int 0, .ref q201, .null, .null, .null, .null, .int 0, .null, .int 0] rfl dX11_init_203 ?_
  refine GC_aload_n hX 0 rfl rfl dX11_init_206 ?_
  refine GC_bipush hX (40 : Int32) rfl dX11_init_207 ?_
  refine GC_newInt hX 40 (by decide) (by decide) (Nat.le_of_ble_eq_true rfl) ⟨Nat.le_of_ble_eq_true rfl, Nat.le_of_ble_eq_true rfl⟩ dX11_init_209 (fun q209 => ?_)
  refine GC_putF (j := 41) hX 11 (.array .int) rfl in_X11 tyX11 tyX11_ok nmX11 ⟨rfl, rfl, rfl, rfl, rfl⟩ (by decide) lf_X11_89 rfl rfl rfl (Nat.le_of_ble_eq_true rfl) [.int 0, .ref q8, .ref q17, .ref q26, .int 0, .int 0, .int 0, .ref q34, .ref q41, .ref q49, .ref q58, .ref q67, .ref q74, .ref q83, .int 0, .int 0, .int 0, .int (-1), .int 0, .int 0, .ref q96, .ref q103, .ref q111, .ref q120, .ref q129, .ref q136, .int 0, .int 0, .ref q145, .int 0, .int 0, .ref q153, .ref q161, .ref q169, .ref q177, .ref q184, .ref q193, .int 0, .int 0, .int 0, .ref q201, .ref q209, .null, .null, .null, .int 0, .null, .int 0] rfl dX11_init_211 ?_
  refine GC_aload_n hX 0 rfl rfl dX11_init_214 ?_
  refine GC_bipush hX (40 : Int32) rfl dX11_init_215 ?_
  refine GC_newInt hX 40 (by decide) (by decide) (Nat.le_of_ble_eq_true rfl) ⟨Nat.le_of_ble_eq_true rfl, Nat.le_of_ble_eq_true rfl⟩ dX11_init_217 (fun q217 => ?_)
  refine GC_putF (j := 42) hX 11 (.array .int) rfl in_X11 tyX11 tyX11_ok nmX11 ⟨rfl, rfl, rfl, rfl, rfl⟩ (by decide) lf_X11_92 rfl rfl rfl (Nat.le_of_ble_eq_true rfl) [.int 0, .ref q8, .ref q17, .ref q26, .int 0, .int 0, .int 0, .ref q34, .ref q41, .ref q49, .ref q58, .ref q67, .ref q74, .ref q83, .int 0, .int 0, .int 0, .int (-1), .int 0, .int 0, .ref q96, .ref q103, .ref q111, .ref q120, .ref q129, .ref q136, .int 0, .int 0, .ref q145, .int 0, .int 0, .ref q153, .ref q161, .ref q169, .ref q177, .ref q184, .ref q193, .int 0, .int 0, .int 0, .ref q201, .ref q209, .ref q217, .null, .null, .int 0, .null, .int 0] rfl dX11_init_219 ?_
  refine GC_aload_n hX 0 rfl rfl dX11_init_222 ?_
  refine GC_bipush hX (40 : Int32) rfl dX11_init_223 ?_
  refine GC_newLong hX 40 (by decide) (by decide) (Nat.le_of_ble_eq_true rfl) ⟨Nat.le_of_ble_eq_true rfl, Nat.le_of_ble_eq_true rfl⟩ dX11_init_225 (fun q225 => ?_)
  refine GC_putF (j := 43) hX 11 (.array .long) rfl in_X11 tyX11 tyX11_ok nmX11 ⟨rfl, rfl, rfl, rfl, rfl⟩ (by decide) lf_X11_95 rfl rfl rfl (Nat.le_of_ble_eq_true rfl) [.int 0, .ref q8, .ref q17, .ref q26, .int 0, .int 0, .int 0, .ref q34, .ref q41, .ref q49, .ref q58, .ref q67, .ref q74, .ref q83, .int 0, .int 0, .int 0, .int (-1), .int 0, .int 0, .ref q96, .ref q103, .ref q111, .ref q120, .ref q129, .ref q136, .int 0, .int 0, .ref q145, .int 0, .int 0, .ref q153, .ref q161, .ref q169, .ref q177, .ref q184, .ref q193, .int 0, .int 0, .int 0, .ref q201, .ref q209, .ref q217, .ref q225, .null, .int 0, .null, .int 0] rfl dX11_init_227 ?_
  refine GC_aload_n hX 0 rfl rfl dX11_init_230 ?_
  refine GC_bipush hX (40 : Int32) rfl dX11_init_231 ?_
  refine GC_newLong hX 40 (by decide) (by decide) (Nat.le_of_ble_eq_true rfl) ⟨Nat.le_of_ble_eq_true rfl, Nat.le_of_ble_eq_true rfl⟩ dX11_init_233 (fun q233 => ?_)
  refine GC_putF (j := 44) hX 11 (.array .long) rfl in_X11 tyX11 tyX11_ok nmX11 ⟨rfl, rfl, rfl, rfl, rfl⟩ (by decide) lf_X11_98 rfl rfl rfl (Nat.le_of_ble_eq_true rfl) [.int 0, .ref q8, .ref q17, .ref q26, .int 0, .int 0, .int 0, .ref q34, .ref q41, .ref q49, .ref q58, .ref q67, .ref q74, .ref q83, .int 0, .int 0, .int 0, .int (-1), .int 0, .int 0, .ref q96, .ref q103, .ref q111, .ref q120, .ref q129, .ref q136, .int 0, .int 0, .ref q145, .int 0, .int 0, .ref q153, .ref q161, .ref q169, .ref q177, .ref q184, .ref q193, .int 0, .int 0, .int 0, .ref q201, .ref q209, .ref q217, .ref q225, .ref q233, .int 0, .null, .int 0] rfl dX11_init_235 ?_
  refine GC_aload_n hX 0 rfl rfl dX11_init_238 ?_
  refine GC_bipush hX (60 : Int32) rfl dX11_init_239 ?_
  refine GC_newInt hX 60 (by decide) (by decide) (Nat.le_of_ble_eq_true rfl) ⟨Nat.le_of_ble_eq_true rfl, Nat.le_of_ble_eq_true rfl⟩ dX11_init_241 (fun q241 => ?_)
  refine GC_putF (j := 46) hX 11 (.array .int) rfl in_X11 tyX11 tyX11_ok nmX11 ⟨rfl, rfl, rfl, rfl, rfl⟩ (by decide) lf_X11_101 rfl rfl rfl (Nat.le_of_ble_eq_true rfl) [.int 0, .ref q8, .ref q17, .ref q26, .int 0, .int 0, .int 0, .ref q34, .ref q41, .ref q49, .ref q58, .ref q67, .ref q74, .ref q83, .int 0, .int 0, .int 0, .int (-1), .int 0, .int 0, .ref q96, .ref q103, .ref q111, .ref q120, .ref q129, .ref q136, .int 0, .int 0, .ref q145, .int 0, .int 0, .ref q153, .ref q161, .ref q169, .ref q177, .ref q184, .ref q193, .int 0, .int 0, .int 0, .ref q201, .ref q209, .ref q217, .ref q225, .ref q233, .int 0, .ref q241, .int 0] rfl dX11_init_243 ?_
  refine GC_aload_n hX 0 rfl rfl dX11_init_246 ?_
  refine GC_get (j := 1) hX 11 rfl in_X11 ⟨rfl, rfl, rfl⟩ (by decide) lf_X11_7 rfl dX11_init_247 ?_
  refine GC_bipush hX (32 : Int32) rfl dX11_init_250 ?_
  refine GC_bipush hX (10 : Int32) rfl dX11_init_252 ?_
  refine GC_iast hX 1 [(h0, .inr (11, [.int 0, .ref q8, .ref q17, .ref q26, .int 0, .int 0, .int 0, .ref q34, .ref q41, .ref q49, .ref q58, .ref q67, .ref q74, .ref q83, .int 0, .int 0, .int 0, .int (-1), .int 0, .int 0, .ref q96, .ref q103, .ref q111, .ref q120, .ref q129, .ref q136, .int 0, .int 0, .ref q145, .int 0, .int 0, .ref q153, .ref q161, .ref q169, .ref q177, .ref q184, .ref q193, .int 0, .int 0, .int 0, .ref q201, .ref q209, .ref q217, .ref q225, .ref q233, .int 0, .ref q241, .int 0])), (q8, .inl (cx_cA X 0, 355, .inl (upd (fun _ => 0) 32 10))), (q17, .inl (cx_cA X 0, 355, .inl (fun _ => 0))), (q26, .inl (cx_cA X 0, 5680, .inl (fun _ => 0))), (q34, .inl (cx_cA X 0, 6, .inl (fun _ => 0))), (q41, .inl (cx_cA X 0, 4, .inl (fun _ => 0))), (q49, .inl (cx_cA X 0, 18, .inl (fun _ => 0))), (q58, .inl (cx_cA X 0, 1200, .inl (fun _ => 0))), (q67, .inl (cx_cA X 0, 1200, .inl (fun _ => 0))), (q74, .inl (cx_cA X 0, 3, .inl (fun _ => 0))), (q83, .inl (cx_cA X 2, 400, .inl (fun _ => 0))), (q96, .inl (cx_cA X 0, 6, .inl (fun _ => 0))), (q103, .inl (cx_cA X 0, 4, .inl (fun _ => 0))), (q111, .inl (cx_cA X 0, 18, .inl (fun _ => 0))), (q120, .inl (cx_cA X 0, 1200, .inl (fun _ => 0))), (q129, .inl (cx_cA X 0, 1200, .inl (fun _ => 0))), (q136, .inl (cx_cA X 0, 3, .inl (fun _ => 0))), (q145, .inl (cx_cA X 0, 410, .inl (fun _ => 0))), (q153, .inl (cx_cA X 0, 40, .inl (fun _ => 0))), (q161, .inl (cx_cA X 0, 40, .inl (fun _ => 0))), (q169, .inl (cx_cA X 3, 40, .inl (fun _ => 0))), (q177, .inl (cx_cA X 3, 40, .inl (fun _ => 0))), (q184, .inl (cx_cA X 0, 4, .inl (fun _ => 0))), (q193, .inl (cx_cA X 1, 400, .inr (.inl (fun _ => 0)))), (q201, .inl (cx_cA X 1, 40, .inr (.inl (fun _ => 0)))), (q209, .inl (cx_cA X 0, 40, .inl (fun _ => 0))), (q217, .inl (cx_cA X 0, 40, .inl (fun _ => 0))), (q225, .inl (cx_cA X 1, 40, .inr (.inl (fun _ => 0)))), (q233, .inl (cx_cA X 1, 40, .inr (.inl (fun _ => 0)))), (q241, .inl (cx_cA X 0, 60, .inl (fun _ => 0)))] rfl (by decide) rfl dX11_init_254 ?_
  exact GC_ret hX hQ hA ⟨Nat.le_of_ble_eq_true rfl, Nat.le_of_ble_eq_true rfl⟩ (fun k => [h0, q8, q17, q26, q34, q41, q49, q58, q67, q74, q83, q96, q103, q111, q120, q129, q136, q145, q153, q161, q169, q177, q184, q193, q201, q209, q217, q225, q233, q241].getD k 0) rfl rfl dX11_init_255)
theorem df_X11 : ∀ j, j < 48 → defaultValue (tyX11 j) = vp_V [.int 0, .null, .null, .null, .int 0, .int 0, .int 0, .null, .null, .null, .null, .null, .null, .null, .int 0, .int 0, .int 0, .int 0, .int 0, .int 0, .null, .null, .null, .null, .null, .null, .int 0, .int 0, .null, .int 0, .int 0, .null, .null, .null, .null, .null, .null, .int 0, .int 0, .int 0, .null, .null, .null, .null, .null, .int 0, .null, .int 0] j := by decide +kernel
