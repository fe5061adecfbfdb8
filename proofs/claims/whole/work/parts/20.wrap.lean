set_option maxHeartbeats 4000000 in
set_option maxRecDepth 100000 in
theorem gL_read_E {X : Ctx} {z : Int32 × Mem} (hX : Fx wC X cL_read 3 RL (some .int) (rmx 32 734 1 6)) (hQ : Qh wC X z [(0, 8, 11, 13)] 1 6) (hcs : cx_cells X = 0 ∧ cx_slots X = 0) (N : Nat) (μ : Mem) : G wC X z 0 [(0, .ref (cx_ad X 0)), (1, .ref (cx_ad X 90))] [] μ (fL_read N μ) := by
  unfold fL_read
  refine G_aload_n hX 1 rfl rfl dL_read_0 ?_
  refine G_iconst hX (0 : Int32) rfl dL_read_1 ?_
  refine G_aload_n hX 0 rfl rfl dL_read_2 ?_
  refine G_hi hX hQ hcs 0 10 (fun ad adK => []) (fun ad adK => [.int (0 : Int32), .ref (ad 90)]) (fun ad adK => [(0, .ref (ad 0)), (1, .ref (ad 90))]) (fun z2 h2 => cX10_read_ok (cx_l X) hQ.2.1 N μ z2 h2) ok_X10_read lm_L_7 atC0.1 atC0.2 rfl rfl rfl (fun _ _ => rfl) (fun _ _ => Nat.le_of_ble_eq_true rfl) ⟨rfl, rfl, by decide, by decide⟩ ⟨by decide, by decide⟩ dL_read_3 (fun X e μ qa he hX hQ hcs => ?_) (fun X r μ hX hQ hcs => ?_)
  · refine GE_if (fun he0 => ?_) (fun he0 => ?_)
    · subst he0
      refine GE_catch hX hQ he [] ⟨0, 8, 11, 13⟩ [] rfl (fun q hq => by cases hq) (by decide) (by decide) ll_13 ?_
      refine G_astore_n hX [(2, .ref qa), (0, .ref (cx_ad X 0)), (1, .ref (cx_ad X 90))] rfl (by decide) rfl dL_read_11 ?_
      refine G_iconst hX (1 : Int32) rfl dL_read_12 ?_
      exact G_iretH hX hQ hcs ⟨by decide, by decide⟩ dL_read_13
    exact GE_none
  refine G_i2l hX dL_read_6 ?_
  refine G_sL hX atC90 dL_read_7 (fun μ => ?_)
  refine G_goto hX 14 (by decide) dL_read_8 ?_
  refine G_iconst hX (0 : Int32) rfl dL_read_14 ?_
  exact G_iretH hX hQ hcs ⟨by decide, by decide⟩ dL_read_15
theorem cL_read_ok (l : Launch) (hl0 : l.stackTraces = false) (N : Nat) (μ : Mem) (z : Int32 × Mem) (h : fL_read N μ = some z) : Hi wC l yL_read cL_read 3 [(0, 8, 11, 13)] (rmx 32 734 1 6) 1 6 (fun ad adK => [.ref (ad 0), .ref (ad 90)]) μ z := Hi.of hl0 h (by decide +kernel) (fun _ _ => Nat.le_of_ble_eq_true rfl) (fun X hX hQ hcs => gL_read_E hX hQ hcs N μ)
set_option maxHeartbeats 4000000 in
set_option maxRecDepth 100000 in
theorem gL_name_E {X : Ctx} {z : Int32 × Mem} (hX : Fx wC X cL_name 6 RL (some .int) (rmx 8 136 1 6)) (hQ : Qh wC X z [(0, 12, 15, 19)] 1 6) (hcs : cx_cells X = 0 ∧ cx_slots X = 0) (N : Nat) (p1 : Int32) (p2 : Int32) (p3 : Int32) (μ : Mem) : G wC X z 0 [(0, .ref (cx_ad X 0)), (1, .int p1), (2, .int p2), (3, .int p3), (4, .ref (cx_ad X 90))] [] μ (fL_name N p1 p2 p3 μ) := by
  unfold fL_name
  refine G_aload hX 4 rfl dL_name_0 ?_
  refine G_iconst hX (0 : Int32) rfl dL_name_2 ?_
  refine G_aload_n hX 0 rfl rfl dL_name_3 ?_
  refine G_iload_n hX 1 rfl rfl dL_name_4 ?_
  refine G_iload_n hX 2 rfl rfl dL_name_5 ?_
  refine G_iload_n hX 3 rfl rfl dL_name_6 ?_
  refine G_hi hX hQ hcs 0 10 (fun ad adK => [.int p1, .int p2, .int p3]) (fun ad adK => [.int (0 : Int32), .ref (ad 90)]) (fun ad adK => [(0, .ref (ad 0)), (1, .int p1), (2, .int p2), (3, .int p3), (4, .ref (ad 90))]) (fun z2 h2 => cX10_name_ok (cx_l X) hQ.2.1 N p1 p2 p3 μ z2 h2) ok_X10_name lm_L_15 atC0.1 atC0.2 rfl rfl rfl (fun _ _ => rfl) (fun _ _ => Nat.le_of_ble_eq_true rfl) ⟨rfl, rfl, by decide, by decide⟩ ⟨by decide, by decide⟩ dL_name_7 (fun X e μ qa he hX hQ hcs => ?_) (fun X r μ hX hQ hcs => ?_)
  · refine GE_if (fun he0 => ?_) (fun he0 => ?_)
    · subst he0
      refine GE_catch hX hQ he [] ⟨0, 12, 15, 19⟩ [] rfl (fun q hq => by cases hq) (by decide) (by decide) ll_19 ?_
      refine G_astore hX [(5, .ref qa), (0, .ref (cx_ad X 0)), (1, .int p1), (2, .int p2), (3, .int p3), (4, .ref (cx_ad X 90))] (by decide) rfl dL_name_15 ?_
      refine G_iconst hX (1 : Int32) rfl dL_name_17 ?_
      exact G_iretH hX hQ hcs ⟨by decide, by decide⟩ dL_name_18
    exact GE_none
  refine G_i2l hX dL_name_10 ?_
  refine G_sL hX atC90 dL_name_11 (fun μ => ?_)
  refine G_goto hX 19 (by decide) dL_name_12 ?_
  refine G_iconst hX (0 : Int32) rfl dL_name_19 ?_
  exact G_iretH hX hQ hcs ⟨by decide, by decide⟩ dL_name_20
theorem cL_name_ok (l : Launch) (hl0 : l.stackTraces = false) (N : Nat) (p1 : Int32) (p2 : Int32) (p3 : Int32) (μ : Mem) (z : Int32 × Mem) (h : fL_name N p1 p2 p3 μ = some z) : Hi wC l yL_name cL_name 6 [(0, 12, 15, 19)] (rmx 8 136 1 6) 1 6 (fun ad adK => [.ref (ad 0), .int p1, .int p2, .int p3, .ref (ad 90)]) μ z := Hi.of hl0 h (by decide +kernel) (fun _ _ => Nat.le_of_ble_eq_true rfl) (fun X hX hQ hcs => gL_name_E hX hQ hcs N p1 p2 p3 μ)
set_option maxHeartbeats 4000000 in
set_option maxRecDepth 100000 in
theorem gL_model_E {X : Ctx} {z : Int32 × Mem} (hX : Fx wC X cL_model 5 RL (some .int) (rmx 8 135 2 12)) (hQ : Qh wC X z [(0, 10, 13, 19), (0, 10, 17, 25)] 2 12) (hcs : cx_cells X = 0 ∧ cx_slots X = 0) (N : Nat) (p1 : Int32) (p2 : Int32) (μ : Mem) : G wC X z 0 [(0, .ref (cx_ad X 0)), (1, .int p1), (2, .int p2), (3, .ref (cx_ad X 90))] [] μ (fL_model N p1 p2 μ) := by
  unfold fL_model
  refine G_aload_n hX 3 rfl rfl dL_model_0 ?_
  refine G_iconst hX (0 : Int32) rfl dL_model_1 ?_
  refine G_aload_n hX 0 rfl rfl dL_model_2 ?_
  refine G_iload_n hX 1 rfl rfl dL_model_3 ?_
  refine G_iload_n hX 2 rfl rfl dL_model_4 ?_
  refine G_hi hX hQ hcs 0 10 (fun ad adK => [.int p1, .int p2]) (fun ad adK => [.int (0 : Int32), .ref (ad 90)]) (fun ad adK => [(0, .ref (ad 0)), (1, .int p1), (2, .int p2), (3, .ref (ad 90))]) (fun z2 h2 => cX10_model_ok (cx_l X) hQ.2.1 N p1 p2 μ z2 h2) ok_X10_model lm_L_21 atC0.1 atC0.2 rfl rfl rfl (fun _ _ => rfl) (fun _ _ => Nat.le_of_ble_eq_true rfl) ⟨rfl, rfl, by decide, by decide⟩ ⟨by decide, by decide⟩ dL_model_5 (fun X e μ qa he hX hQ hcs => ?_) (fun X r μ hX hQ hcs => ?_)
  · refine GE_if (fun he0 => ?_) (fun he0 => ?_)
    · subst he0
      refine GE_catch hX hQ he [] ⟨0, 10, 13, 19⟩ [⟨0, 10, 17, 25⟩] rfl (fun q hq => by cases hq) (by decide) (by decide) ll_19 ?_
      refine G_astore hX [(4, .ref qa), (0, .ref (cx_ad X 0)), (1, .int p1), (2, .int p2), (3, .ref (cx_ad X 90))] (by decide) rfl dL_model_13 ?_
      refine G_iconst hX (1 : Int32) rfl dL_model_15 ?_
      exact G_iretH hX hQ hcs ⟨by decide, by decide⟩ dL_model_16
    refine GE_if (fun he1 => ?_) (fun he1 => ?_)
    · subst he1
      refine GE_catch hX hQ he [⟨0, 10, 13, 19⟩] ⟨0, 10, 17, 25⟩ [] rfl (fun q hq => by rcases List.mem_cons.mp hq with rfl | hq; exact ⟨by decide, 0, by decide, by decide, ll_19⟩; cases hq) (by decide) (by decide) ll_25 ?_
      refine G_astore hX [(4, .ref qa), (0, .ref (cx_ad X 0)), (1, .int p1), (2, .int p2), (3, .ref (cx_ad X 90))] (by decide) rfl dL_model_17 ?_
      refine G_iconst hX (2 : Int32) rfl dL_model_19 ?_
      exact G_iretH hX hQ hcs ⟨by decide, by decide⟩ dL_model_20
    exact GE_none
  refine G_i2l hX dL_model_8 ?_
  refine G_sL hX atC90 dL_model_9 (fun μ => ?_)
  refine G_goto hX 21 (by decide) dL_model_10 ?_
  refine G_iconst hX (0 : Int32) rfl dL_model_21 ?_
  exact G_iretH hX hQ hcs ⟨by decide, by decide⟩ dL_model_22
theorem cL_model_ok (l : Launch) (hl0 : l.stackTraces = false) (N : Nat) (p1 : Int32) (p2 : Int32) (μ : Mem) (z : Int32 × Mem) (h : fL_model N p1 p2 μ = some z) : Hi wC l yL_model cL_model 5 [(0, 10, 13, 19), (0, 10, 17, 25)] (rmx 8 135 2 12) 2 12 (fun ad adK => [.ref (ad 0), .int p1, .int p2, .ref (ad 90)]) μ z := Hi.of hl0 h (by decide +kernel) (fun _ _ => Nat.le_of_ble_eq_true rfl) (fun X hX hQ hcs => gL_model_E hX hQ hcs N p1 p2 μ)
set_option maxHeartbeats 4000000 in
set_option maxRecDepth 100000 in
theorem gL_cost_E {X : Ctx} {z : Int32 × Mem} (hX : Fx wC X cL_cost 5 RL (some .int) (rmx 8 135 2 12)) (hQ : Qh wC X z [(0, 10, 13, 19)] 2 12) (hcs : cx_cells X = 0 ∧ cx_slots X = 0) (N : Nat) (p1 : Int32) (p2 : Int32) (μ : Mem) : G wC X z 0 [(0, .ref (cx_ad X 0)), (1, .int p1), (2, .int p2), (3, .ref (cx_ad X 90))] [] μ (fL_cost N p1 p2 μ) := by
  unfold fL_cost
  refine G_aload_n hX 3 rfl rfl dL_cost_0 ?_
  refine G_iconst hX (0 : Int32) rfl dL_cost_1 ?_
  refine G_aload_n hX 0 rfl rfl dL_cost_2 ?_
  refine G_iload_n hX 1 rfl rfl dL_cost_3 ?_
  refine G_iload_n hX 2 rfl rfl dL_cost_4 ?_
  refine G_hi hX hQ hcs 0 10 (fun ad adK => [.int p1, .int p2]) (fun ad adK => [.int (0 : Int32), .ref (ad 90)]) (fun ad adK => [(0, .ref (ad 0)), (1, .int p1), (2, .int p2), (3, .ref (ad 90))]) (fun z2 h2 => cX10_cost_ok (cx_l X) hQ.2.1 N p1 p2 μ z2 h2) ok_X10_cost lm_L_27 atC0.1 atC0.2 rfl rfl rfl (fun _ _ => rfl) (fun _ _ => Nat.le_of_ble_eq_true rfl) ⟨rfl, rfl, by decide, by decide⟩ ⟨by decide, by decide⟩ dL_cost_5 (fun X e μ qa he hX hQ hcs => ?_) (fun X r μ hX hQ hcs => ?_)
  · refine GE_if (fun he0 => ?_) (fun he0 => ?_)
    · subst he0
      refine GE_catch hX hQ he [] ⟨0, 10, 13, 19⟩ [] rfl (fun q hq => by cases hq) (by decide) (by decide) ll_19 ?_
      refine G_astore hX [(4, .ref qa), (0, .ref (cx_ad X 0)), (1, .int p1), (2, .int p2), (3, .ref (cx_ad X 90))] (by decide) rfl dL_cost_13 ?_
      refine G_iconst hX (1 : Int32) rfl dL_cost_15 ?_
      exact G_iretH hX hQ hcs ⟨by decide, by decide⟩ dL_cost_16
    exact GE_none
  refine G_i2l hX dL_cost_8 ?_
  refine G_sL hX atC90 dL_cost_9 (fun μ => ?_)
  refine G_goto hX 17 (by decide) dL_cost_10 ?_
  refine G_iconst hX (0 : Int32) rfl dL_cost_17 ?_
  exact G_iretH hX hQ hcs ⟨by decide, by decide⟩ dL_cost_18
theorem cL_cost_ok (l : Launch) (hl0 : l.stackTraces = false) (N : Nat) (p1 : Int32) (p2 : Int32) (μ : Mem) (z : Int32 × Mem) (h : fL_cost N p1 p2 μ = some z) : Hi wC l yL_cost cL_cost 5 [(0, 10, 13, 19)] (rmx 8 135 2 12) 2 12 (fun ad adK => [.ref (ad 0), .int p1, .int p2, .ref (ad 90)]) μ z := Hi.of hl0 h (by decide +kernel) (fun _ _ => Nat.le_of_ble_eq_true rfl) (fun X hX hQ hcs => gL_cost_E hX hQ hcs N p1 p2 μ)
set_option maxHeartbeats 4000000 in
set_option maxRecDepth 100000 in
theorem gL_sale_E {X : Ctx} {z : Int32 × Mem} (hX : Fx wC X cL_sale 5 RL (some .int) (rmx 8 136 2 12)) (hQ : Qh wC X z [(0, 10, 13, 19), (0, 10, 17, 25)] 2 12) (hcs : cx_cells X = 0 ∧ cx_slots X = 0) (N : Nat) (p1 : Int32) (p2 : Int32) (μ : Mem) : G wC X z 0 [(0, .ref (cx_ad X 0)), (1, .int p1), (2, .int p2), (3, .ref (cx_ad X 90))] [] μ (fL_sale N p1 p2 μ) := by
  unfold fL_sale
  refine G_aload_n hX 3 rfl rfl dL_sale_0 ?_
  refine G_iconst hX (0 : Int32) rfl dL_sale_1 ?_
  refine G_aload_n hX 0 rfl rfl dL_sale_2 ?_
  refine G_iload_n hX 1 rfl rfl dL_sale_3 ?_
  refine G_iload_n hX 2 rfl rfl dL_sale_4 ?_
  refine G_hi hX hQ hcs 0 10 (fun ad adK => [.int p1, .int p2]) (fun ad adK => [.int (0 : Int32), .ref (ad 90)]) (fun ad adK => [(0, .ref (ad 0)), (1, .int p1), (2, .int p2), (3, .ref (ad 90))]) (fun z2 h2 => cX10_sale_ok (cx_l X) hQ.2.1 N p1 p2 μ z2 h2) ok_X10_sale lm_L_30 atC0.1 atC0.2 rfl rfl rfl (fun _ _ => rfl) (fun _ _ => Nat.le_of_ble_eq_true rfl) ⟨rfl, rfl, by decide, by decide⟩ ⟨by decide, by decide⟩ dL_sale_5 (fun X e μ qa he hX hQ hcs => ?_) (fun X r μ hX hQ hcs => ?_)
  · refine GE_if (fun he0 => ?_) (fun he0 => ?_)
    · subst he0
      refine GE_catch hX hQ he [] ⟨0, 10, 13, 19⟩ [⟨0, 10, 17, 25⟩] rfl (fun q hq => by cases hq) (by decide) (by decide) ll_19 ?_
      refine G_astore hX [(4, .ref qa), (0, .ref (cx_ad X 0)), (1, .int p1), (2, .int p2), (3, .ref (cx_ad X 90))] (by decide) rfl dL_sale_13 ?_
      refine G_iconst hX (1 : Int32) rfl dL_sale_15 ?_
      exact G_iretH hX hQ hcs ⟨by decide, by decide⟩ dL_sale_16
    refine GE_if (fun he1 => ?_) (fun he1 => ?_)
    · subst he1
      refine GE_catch hX hQ he [⟨0, 10, 13, 19⟩] ⟨0, 10, 17, 25⟩ [] rfl (fun q hq => by rcases List.mem_cons.mp hq with rfl | hq; exact ⟨by decide, 0, by decide, by decide, ll_19⟩; cases hq) (by decide) (by decide) ll_25 ?_
      refine G_astore hX [(4, .ref qa), (0, .ref (cx_ad X 0)), (1, .int p1), (2, .int p2), (3, .ref (cx_ad X 90))] (by decide) rfl dL_sale_17 ?_
      refine G_iconst hX (2 : Int32) rfl dL_sale_19 ?_
      exact G_iretH hX hQ hcs ⟨by decide, by decide⟩ dL_sale_20
    exact GE_none
  refine G_i2l hX dL_sale_8 ?_
  refine G_sL hX atC90 dL_sale_9 (fun μ => ?_)
  refine G_goto hX 21 (by decide) dL_sale_10 ?_
  refine G_iconst hX (0 : Int32) rfl dL_sale_21 ?_
  exact G_iretH hX hQ hcs ⟨by decide, by decide⟩ dL_sale_22
theorem cL_sale_ok (l : Launch) (hl0 : l.stackTraces = false) (N : Nat) (p1 : Int32) (p2 : Int32) (μ : Mem) (z : Int32 × Mem) (h : fL_sale N p1 p2 μ = some z) : Hi wC l yL_sale cL_sale 5 [(0, 10, 13, 19), (0, 10, 17, 25)] (rmx 8 136 2 12) 2 12 (fun ad adK => [.ref (ad 0), .int p1, .int p2, .ref (ad 90)]) μ z := Hi.of hl0 h (by decide +kernel) (fun _ _ => Nat.le_of_ble_eq_true rfl) (fun X hX hQ hcs => gL_sale_E hX hQ hcs N p1 p2 μ)
set_option maxHeartbeats 4000000 in
set_option maxRecDepth 100000 in
theorem gL_put_E {X : Ctx} {z : Int32 × Mem} (hX : Fx wC X cL_put 10 RL (some .int) (rmx 8 142 8 48)) (hQ : Qh wC X z [(0, 20, 23, 19), (0, 20, 27, 13), (0, 20, 31, 37)] 8 48) (hcs : cx_cells X = 0 ∧ cx_slots X = 0) (N : Nat) (p1 : Int32) (p2 : Int32) (p3 : Int32) (p4 : Int32) (p5 : Int32) (p6 : Int32) (p7 : Int32) (μ : Mem) : G wC X z 0 [(0, .ref (cx_ad X 0)), (1, .int p1), (2, .int p2), (3, .int p3), (4, .int p4), (5, .int p5), (6, .int p6), (7, .int p7), (8, .ref (cx_ad X 90))] [] μ (fL_put N p1 p2 p3 p4 p5 p6 p7 μ) := by
  unfold fL_put
  refine G_aload hX 8 rfl dL_put_0 ?_
  refine G_iconst hX (0 : Int32) rfl dL_put_2 ?_
  refine G_aload_n hX 0 rfl rfl dL_put_3 ?_
  refine G_iload_n hX 1 rfl rfl dL_put_4 ?_
  refine G_iload_n hX 2 rfl rfl dL_put_5 ?_
  refine G_iload_n hX 3 rfl rfl dL_put_6 ?_
  refine G_iload hX 4 rfl dL_put_7 ?_
  refine G_iload hX 5 rfl dL_put_9 ?_
  refine G_iload hX 6 rfl dL_put_11 ?_
  refine G_iload hX 7 rfl dL_put_13 ?_
  refine G_hi hX hQ hcs 0 10 (fun ad adK => [.int p1, .int p2, .int p3, .int p4, .int p5, .int p6, .int p7]) (fun ad adK => [.int (0 : Int32), .ref (ad 90)]) (fun ad adK => [(0, .ref (ad 0)), (1, .int p1), (2, .int p2), (3, .int p3), (4, .int p4), (5, .int p5), (6, .int p6), (7, .int p7), (8, .ref (ad 90))]) (fun z2 h2 => cX10_put_ok (cx_l X) hQ.2.1 N p1 p2 p3 p4 p5 p6 p7 μ z2 h2) ok_X10_put lm_L_33 atC0.1 atC0.2 rfl rfl rfl (fun _ _ => rfl) (fun _ _ => Nat.le_of_ble_eq_true rfl) ⟨rfl, rfl, by decide, by decide⟩ ⟨by decide, by decide⟩ dL_put_15 (fun X e μ qa he hX hQ hcs => ?_) (fun X r μ hX hQ hcs => ?_)
  · refine GE_if (fun he0 => ?_) (fun he0 => ?_)
    · subst he0
      refine GE_catch hX hQ he [] ⟨0, 20, 23, 19⟩ [⟨0, 20, 27, 13⟩, ⟨0, 20, 31, 37⟩] rfl (fun q hq => by cases hq) (by decide) (by decide) ll_19 ?_
      refine G_astore hX [(9, .ref qa), (0, .ref (cx_ad X 0)), (1, .int p1), (2, .int p2), (3, .int p3), (4, .int p4), (5, .int p5), (6, .int p6), (7, .int p7), (8, .ref (cx_ad X 90))] (by decide) rfl dL_put_23 ?_
      refine G_iconst hX (1 : Int32) rfl dL_put_25 ?_
      exact G_iretH hX hQ hcs ⟨by decide, by decide⟩ dL_put_26
    refine GE_if (fun he1 => ?_) (fun he1 => ?_)
    · subst he1
      refine GE_catch hX hQ he [⟨0, 20, 23, 19⟩] ⟨0, 20, 27, 13⟩ [⟨0, 20, 31, 37⟩] rfl (fun q hq => by rcases List.mem_cons.mp hq with rfl | hq; exact ⟨by decide, 0, by decide, by decide, ll_19⟩; cases hq) (by decide) (by decide) ll_13 ?_
      refine G_astore hX [(9, .ref qa), (0, .ref (cx_ad X 0)), (1, .int p1), (2, .int p2), (3, .int p3), (4, .int p4), (5, .int p5), (6, .int p6), (7, .int p7), (8, .ref (cx_ad X 90))] (by decide) rfl dL_put_27 ?_
      refine G_iconst hX (2 : Int32) rfl dL_put_29 ?_
      exact G_iretH hX hQ hcs ⟨by decide, by decide⟩ dL_put_30
    refine GE_if (fun he2 => ?_) (fun he2 => ?_)
    · subst he2
      refine GE_catch hX hQ he [⟨0, 20, 23, 19⟩, ⟨0, 20, 27, 13⟩] ⟨0, 20, 31, 37⟩ [] rfl (fun q hq => by rcases List.mem_cons.mp hq with rfl | hq; exact ⟨by decide, 0, by decide, by decide, ll_19⟩; rcases List.mem_cons.mp hq with rfl | hq; exact ⟨by decide, 1, by decide, by decide, ll_13⟩; cases hq) (by decide) (by decide) ll_37 ?_
      refine G_astore hX [(9, .ref qa), (0, .ref (cx_ad X 0)), (1, .int p1), (2, .int p2), (3, .int p3), (4, .int p4), (5, .int p5), (6, .int p6), (7, .int p7), (8, .ref (cx_ad X 90))] (by decide) rfl dL_put_31 ?_
      refine G_iconst hX (3 : Int32) rfl dL_put_33 ?_
      exact G_iretH hX hQ hcs ⟨by decide, by decide⟩ dL_put_34
    exact GE_none
  refine G_i2l hX dL_put_18 ?_
  refine G_sL hX atC90 dL_put_19 (fun μ => ?_)
  refine G_goto hX 35 (by decide) dL_put_20 ?_
  refine G_iconst hX (0 : Int32) rfl dL_put_35 ?_
  exact G_iretH hX hQ hcs ⟨by decide, by decide⟩ dL_put_36
theorem cL_put_ok (l : Launch) (hl0 : l.stackTraces = false) (N : Nat) (p1 : Int32) (p2 : Int32) (p3 : Int32) (p4 : Int32) (p5 : Int32) (p6 : Int32) (p7 : Int32) (μ : Mem) (z : Int32 × Mem) (h : fL_put N p1 p2 p3 p4 p5 p6 p7 μ = some z) : Hi wC l yL_put cL_put 10 [(0, 20, 23, 19), (0, 20, 27, 13), (0, 20, 31, 37)] (rmx 8 142 8 48) 8 48 (fun ad adK => [.ref (ad 0), .int p1, .int p2, .int p3, .int p4, .int p5, .int p6, .int p7, .ref (ad 90)]) μ z := Hi.of hl0 h (by decide +kernel) (fun _ _ => Nat.le_of_ble_eq_true rfl) (fun X hX hQ hcs => gL_put_E hX hQ hcs N p1 p2 p3 p4 p5 p6 p7 μ)
set_option maxHeartbeats 4000000 in
set_option maxRecDepth 100000 in
theorem gL_drop_E {X : Ctx} {z : Int32 × Mem} (hX : Fx wC X cL_drop 3 RL (some .int) (rmx 8 134 1 6)) (hQ : Qh wC X z [(0, 5, 8, 19)] 1 6) (hcs : cx_cells X = 0 ∧ cx_slots X = 0) (N : Nat) (p1 : Int32) (μ : Mem) : G wC X z 0 [(0, .ref (cx_ad X 0)), (1, .int p1)] [] μ (fL_drop N p1 μ) := by
  unfold fL_drop
  refine G_aload_n hX 0 rfl rfl dL_drop_0 ?_
  refine G_iload_n hX 1 rfl rfl dL_drop_1 ?_
  refine G_hv hX hQ hcs 0 10 (fun ad adK => [.int p1]) (fun ad adK => []) (fun ad adK => [(0, .ref (ad 0)), (1, .int p1)]) (fun z2 h2 => cX10_drop_ok (cx_l X) hQ.2.1 N p1 μ z2 h2) ok_X10_drop lm_L_39 atC0.1 atC0.2 rfl rfl rfl (fun _ _ => rfl) (fun _ _ => Nat.le_of_ble_eq_true rfl) ⟨rfl, rfl, by decide, by decide⟩ ⟨by decide, by decide⟩ dL_drop_2 (fun X e μ qa he hX hQ hcs => ?_) (fun X r μ hX hQ hcs => ?_)
  · refine GE_if (fun he0 => ?_) (fun he0 => ?_)
    · subst he0
      refine GE_catch hX hQ he [] ⟨0, 5, 8, 19⟩ [] rfl (fun q hq => by cases hq) (by decide) (by decide) ll_19 ?_
      refine G_astore_n hX [(2, .ref qa), (0, .ref (cx_ad X 0)), (1, .int p1)] rfl (by decide) rfl dL_drop_8 ?_
      refine G_iconst hX (1 : Int32) rfl dL_drop_9 ?_
      exact G_iretH hX hQ hcs ⟨by decide, by decide⟩ dL_drop_10
    exact GE_none
  refine G_goto hX 11 (by decide) dL_drop_5 ?_
  refine G_iconst hX (0 : Int32) rfl dL_drop_11 ?_
  exact G_iretH hX hQ hcs ⟨by decide, by decide⟩ dL_drop_12
theorem cL_drop_ok (l : Launch) (hl0 : l.stackTraces = false) (N : Nat) (p1 : Int32) (μ : Mem) (z : Int32 × Mem) (h : fL_drop N p1 μ = some z) : Hi wC l yL_drop cL_drop 3 [(0, 5, 8, 19)] (rmx 8 134 1 6) 1 6 (fun ad adK => [.ref (ad 0), .int p1]) μ z := Hi.of hl0 h (by decide +kernel) (fun _ _ => Nat.le_of_ble_eq_true rfl) (fun X hX hQ hcs => gL_drop_E hX hQ hcs N p1 μ)
set_option maxHeartbeats 4000000 in
set_option maxRecDepth 100000 in
theorem gL_price_E {X : Ctx} {z : Int32 × Mem} (hX : Fx wC X cL_price 5 RL (some .int) (rmx 8 146 2 12)) (hQ : Qh wC X z [(0, 10, 13, 19), (0, 10, 17, 13)] 2 12) (hcs : cx_cells X = 0 ∧ cx_slots X = 0) (N : Nat) (p1 : Int32) (p2 : Int32) (μ : Mem) : G wC X z 0 [(0, .ref (cx_ad X 0)), (1, .int p1), (2, .int p2), (3, .ref (cx_ad X 90))] [] μ (fL_price N p1 p2 μ) := by
  unfold fL_price
  refine G_aload_n hX 3 rfl rfl dL_price_0 ?_
  refine G_iconst hX (0 : Int32) rfl dL_price_1 ?_
  refine G_aload_n hX 0 rfl rfl dL_price_2 ?_
  refine G_iload_n hX 1 rfl rfl dL_price_3 ?_
  refine G_iload_n hX 2 rfl rfl dL_price_4 ?_
  refine G_hi hX hQ hcs 0 10 (fun ad adK => [.int p1, .int p2]) (fun ad adK => [.int (0 : Int32), .ref (ad 90)]) (fun ad adK => [(0, .ref (ad 0)), (1, .int p1), (2, .int p2), (3, .ref (ad 90))]) (fun z2 h2 => cX10_price_ok (cx_l X) hQ.2.1 N p1 p2 μ z2 h2) ok_X10_price lm_L_43 atC0.1 atC0.2 rfl rfl rfl (fun _ _ => rfl) (fun _ _ => Nat.le_of_ble_eq_true rfl) ⟨rfl, rfl, by decide, by decide⟩ ⟨by decide, by decide⟩ dL_price_5 (fun X e μ qa he hX hQ hcs => ?_) (fun X r μ hX hQ hcs => ?_)
  · refine GE_if (fun he0 => ?_) (fun he0 => ?_)
    · subst he0
      refine GE_catch hX hQ he [] ⟨0, 10, 13, 19⟩ [⟨0, 10, 17, 13⟩] rfl (fun q hq => by cases hq) (by decide) (by decide) ll_19 ?_
      refine G_astore hX [(4, .ref qa), (0, .ref (cx_ad X 0)), (1, .int p1), (2, .int p2), (3, .ref (cx_ad X 90))] (by decide) rfl dL_price_13 ?_
      refine G_iconst hX (1 : Int32) rfl dL_price_15 ?_
      exact G_iretH hX hQ hcs ⟨by decide, by decide⟩ dL_price_16
    refine GE_if (fun he1 => ?_) (fun he1 => ?_)
    · subst he1
      refine GE_catch hX hQ he [⟨0, 10, 13, 19⟩] ⟨0, 10, 17, 13⟩ [] rfl (fun q hq => by rcases List.mem_cons.mp hq with rfl | hq; exact ⟨by decide, 0, by decide, by decide, ll_19⟩; cases hq) (by decide) (by decide) ll_13 ?_
      refine G_astore hX [(4, .ref qa), (0, .ref (cx_ad X 0)), (1, .int p1), (2, .int p2), (3, .ref (cx_ad X 90))] (by decide) rfl dL_price_17 ?_
      refine G_iconst hX (2 : Int32) rfl dL_price_19 ?_
      exact G_iretH hX hQ hcs ⟨by decide, by decide⟩ dL_price_20
    exact GE_none
  refine G_i2l hX dL_price_8 ?_
  refine G_sL hX atC90 dL_price_9 (fun μ => ?_)
  refine G_goto hX 21 (by decide) dL_price_10 ?_
  refine G_iconst hX (0 : Int32) rfl dL_price_21 ?_
  exact G_iretH hX hQ hcs ⟨by decide, by decide⟩ dL_price_22
theorem cL_price_ok (l : Launch) (hl0 : l.stackTraces = false) (N : Nat) (p1 : Int32) (p2 : Int32) (μ : Mem) (z : Int32 × Mem) (h : fL_price N p1 p2 μ = some z) : Hi wC l yL_price cL_price 5 [(0, 10, 13, 19), (0, 10, 17, 13)] (rmx 8 146 2 12) 2 12 (fun ad adK => [.ref (ad 0), .int p1, .int p2, .ref (ad 90)]) μ z := Hi.of hl0 h (by decide +kernel) (fun _ _ => Nat.le_of_ble_eq_true rfl) (fun X hX hQ hcs => gL_price_E hX hQ hcs N p1 p2 μ)
set_option maxHeartbeats 4000000 in
set_option maxRecDepth 100000 in
theorem gL_costs_E {X : Ctx} {z : Int32 × Mem} (hX : Fx wC X cL_costs 6 RL (some .int) (rmx 8 149 3 18)) (hQ : Qh wC X z [(0, 12, 15, 19), (0, 12, 19, 13)] 3 18) (hcs : cx_cells X = 0 ∧ cx_slots X = 0) (N : Nat) (p1 : Int32) (p2 : Int32) (p3 : Int32) (μ : Mem) : G wC X z 0 [(0, .ref (cx_ad X 0)), (1, .int p1), (2, .int p2), (3, .int p3), (4, .ref (cx_ad X 90))] [] μ (fL_costs N p1 p2 p3 μ) := by
  unfold fL_costs
  refine G_aload hX 4 rfl dL_costs_0 ?_
  refine G_iconst hX (0 : Int32) rfl dL_costs_2 ?_
  refine G_aload_n hX 0 rfl rfl dL_costs_3 ?_
  refine G_iload_n hX 1 rfl rfl dL_costs_4 ?_
  refine G_iload_n hX 2 rfl rfl dL_costs_5 ?_
  refine G_iload_n hX 3 rfl rfl dL_costs_6 ?_
  refine G_hi hX hQ hcs 0 10 (fun ad adK => [.int p1, .int p2, .int p3]) (fun ad adK => [.int (0 : Int32), .ref (ad 90)]) (fun ad adK => [(0, .ref (ad 0)), (1, .int p1), (2, .int p2), (3, .int p3), (4, .ref (ad 90))]) (fun z2 h2 => cX10_costs_ok (cx_l X) hQ.2.1 N p1 p2 p3 μ z2 h2) ok_X10_costs lm_L_46 atC0.1 atC0.2 rfl rfl rfl (fun _ _ => rfl) (fun _ _ => Nat.le_of_ble_eq_true rfl) ⟨rfl, rfl, by decide, by decide⟩ ⟨by decide, by decide⟩ dL_costs_7 (fun X e μ qa he hX hQ hcs => ?_) (fun X r μ hX hQ hcs => ?_)
  · refine GE_if (fun he0 => ?_) (fun he0 => ?_)
    · subst he0
      refine GE_catch hX hQ he [] ⟨0, 12, 15, 19⟩ [⟨0, 12, 19, 13⟩] rfl (fun q hq => by cases hq) (by decide) (by decide) ll_19 ?_
      refine G_astore hX [(5, .ref qa), (0, .ref (cx_ad X 0)), (1, .int p1), (2, .int p2), (3, .int p3), (4, .ref (cx_ad X 90))] (by decide) rfl dL_costs_15 ?_
      refine G_iconst hX (1 : Int32) rfl dL_costs_17 ?_
      exact G_iretH hX hQ hcs ⟨by decide, by decide⟩ dL_costs_18
    refine GE_if (fun he1 => ?_) (fun he1 => ?_)
    · subst he1
      refine GE_catch hX hQ he [⟨0, 12, 15, 19⟩] ⟨0, 12, 19, 13⟩ [] rfl (fun q hq => by rcases List.mem_cons.mp hq with rfl | hq; exact ⟨by decide, 0, by decide, by decide, ll_19⟩; cases hq) (by decide) (by decide) ll_13 ?_
      refine G_astore hX [(5, .ref qa), (0, .ref (cx_ad X 0)), (1, .int p1), (2, .int p2), (3, .int p3), (4, .ref (cx_ad X 90))] (by decide) rfl dL_costs_19 ?_
      refine G_iconst hX (2 : Int32) rfl dL_costs_21 ?_
      exact G_iretH hX hQ hcs ⟨by decide, by decide⟩ dL_costs_22
    exact GE_none
  refine G_i2l hX dL_costs_10 ?_
  refine G_sL hX atC90 dL_costs_11 (fun μ => ?_)
  refine G_goto hX 23 (by decide) dL_costs_12 ?_
  refine G_iconst hX (0 : Int32) rfl dL_costs_23 ?_
  exact G_iretH hX hQ hcs ⟨by decide, by decide⟩ dL_costs_24
theorem cL_costs_ok (l : Launch) (hl0 : l.stackTraces = false) (N : Nat) (p1 : Int32) (p2 : Int32) (p3 : Int32) (μ : Mem) (z : Int32 × Mem) (h : fL_costs N p1 p2 p3 μ = some z) : Hi wC l yL_costs cL_costs 6 [(0, 12, 15, 19), (0, 12, 19, 13)] (rmx 8 149 3 18) 3 18 (fun ad adK => [.ref (ad 0), .int p1, .int p2, .int p3, .ref (ad 90)]) μ z := Hi.of hl0 h (by decide +kernel) (fun _ _ => Nat.le_of_ble_eq_true rfl) (fun X hX hQ hcs => gL_costs_E hX hQ hcs N p1 p2 p3 μ)
set_option maxHeartbeats 4000000 in
set_option maxRecDepth 100000 in
theorem gL_set_E {X : Ctx} {z : Int32 × Mem} (hX : Fx wC X cL_set 5 RL (some .int) (rmx 8 137 1 6)) (hQ : Qh wC X z [(0, 10, 13, 25), (0, 10, 17, 13)] 1 6) (hcs : cx_cells X = 0 ∧ cx_slots X = 0) (N : Nat) (p1 : Int32) (p2 : Int32) (μ : Mem) : G wC X z 0 [(0, .ref (cx_ad X 0)), (1, .int p1), (2, .int p2), (3, .ref (cx_ad X 90))] [] μ (fL_set N p1 p2 μ) := by
  unfold fL_set
  refine G_aload_n hX 3 rfl rfl dL_set_0 ?_
  refine G_iconst hX (0 : Int32) rfl dL_set_1 ?_
  refine G_aload_n hX 0 rfl rfl dL_set_2 ?_
  refine G_iload_n hX 1 rfl rfl dL_set_3 ?_
  refine G_iload_n hX 2 rfl rfl dL_set_4 ?_
  refine G_hi hX hQ hcs 0 10 (fun ad adK => [.int p1, .int p2]) (fun ad adK => [.int (0 : Int32), .ref (ad 90)]) (fun ad adK => [(0, .ref (ad 0)), (1, .int p1), (2, .int p2), (3, .ref (ad 90))]) (fun z2 h2 => cX10_set_ok (cx_l X) hQ.2.1 N p1 p2 μ z2 h2) ok_X10_set lm_L_50 atC0.1 atC0.2 rfl rfl rfl (fun _ _ => rfl) (fun _ _ => Nat.le_of_ble_eq_true rfl) ⟨rfl, rfl, by decide, by decide⟩ ⟨by decide, by decide⟩ dL_set_5 (fun X e μ qa he hX hQ hcs => ?_) (fun X r μ hX hQ hcs => ?_)
  · refine GE_if (fun he0 => ?_) (fun he0 => ?_)
    · subst he0
      refine GE_catch hX hQ he [] ⟨0, 10, 13, 25⟩ [⟨0, 10, 17, 13⟩] rfl (fun q hq => by cases hq) (by decide) (by decide) ll_25 ?_
      refine G_astore hX [(4, .ref qa), (0, .ref (cx_ad X 0)), (1, .int p1), (2, .int p2), (3, .ref (cx_ad X 90))] (by decide) rfl dL_set_13 ?_
      refine G_iconst hX (1 : Int32) rfl dL_set_15 ?_
      exact G_iretH hX hQ hcs ⟨by decide, by decide⟩ dL_set_16
    refine GE_if (fun he1 => ?_) (fun he1 => ?_)
    · subst he1
      refine GE_catch hX hQ he [⟨0, 10, 13, 25⟩] ⟨0, 10, 17, 13⟩ [] rfl (fun q hq => by rcases List.mem_cons.mp hq with rfl | hq; exact ⟨by decide, 3, by decide, by decide, ll_25⟩; cases hq) (by decide) (by decide) ll_13 ?_
      refine G_astore hX [(4, .ref qa), (0, .ref (cx_ad X 0)), (1, .int p1), (2, .int p2), (3, .ref (cx_ad X 90))] (by decide) rfl dL_set_17 ?_
      refine G_iconst hX (2 : Int32) rfl dL_set_19 ?_
      exact G_iretH hX hQ hcs ⟨by decide, by decide⟩ dL_set_20
    exact GE_none
  refine G_i2l hX dL_set_8 ?_
  refine G_sL hX atC90 dL_set_9 (fun μ => ?_)
  refine G_goto hX 21 (by decide) dL_set_10 ?_
  refine G_iconst hX (0 : Int32) rfl dL_set_21 ?_
  exact G_iretH hX hQ hcs ⟨by decide, by decide⟩ dL_set_22
theorem cL_set_ok (l : Launch) (hl0 : l.stackTraces = false) (N : Nat) (p1 : Int32) (p2 : Int32) (μ : Mem) (z : Int32 × Mem) (h : fL_set N p1 p2 μ = some z) : Hi wC l yL_set cL_set 5 [(0, 10, 13, 25), (0, 10, 17, 13)] (rmx 8 137 1 6) 1 6 (fun ad adK => [.ref (ad 0), .int p1, .int p2, .ref (ad 90)]) μ z := Hi.of hl0 h (by decide +kernel) (fun _ _ => Nat.le_of_ble_eq_true rfl) (fun X hX hQ hcs => gL_set_E hX hQ hcs N p1 p2 μ)
set_option maxHeartbeats 4000000 in
set_option maxRecDepth 100000 in
theorem gL_silent_E {X : Ctx} {z : Int32 × Mem} (hX : Fx wC X cL_silent 5 RL (some .int) (rmx 8 136 1 6)) (hQ : Qh wC X z [(0, 17, 20, 19)] 1 6) (hcs : cx_cells X = 0 ∧ cx_slots X = 0) (N : Nat) (p1 : Int32) (p2 : Int32) (μ : Mem) : G wC X z 0 [(0, .ref (cx_ad X 0)), (1, .int p1), (2, .int p2), (3, .ref (cx_ad X 90))] [] μ (fL_silent N p1 p2 μ) := by
  unfold fL_silent
  refine G_aload_n hX 3 rfl rfl dL_silent_0 ?_
  refine G_iconst hX (0 : Int32) rfl dL_silent_1 ?_
  refine G_aload_n hX 0 rfl rfl dL_silent_2 ?_
  refine G_iload_n hX 1 rfl rfl dL_silent_3 ?_
  refine G_iload_n hX 2 rfl rfl dL_silent_4 ?_
  refine G_hi hX hQ hcs 0 10 (fun ad adK => [.int p1, .int p2]) (fun ad adK => [.int (0 : Int32), .ref (ad 90)]) (fun ad adK => [(0, .ref (ad 0)), (1, .int p1), (2, .int p2), (3, .ref (ad 90))]) (fun z2 h2 => cX10_silent_ok (cx_l X) hQ.2.1 N p1 p2 μ z2 h2) ok_X10_silent lm_L_53 atC0.1 atC0.2 rfl rfl rfl (fun _ _ => rfl) (fun _ _ => Nat.le_of_ble_eq_true rfl) ⟨rfl, rfl, by decide, by decide⟩ ⟨by decide, by decide⟩ dL_silent_5 (fun X e μ qa he hX hQ hcs => ?_) (fun X r μ hX hQ hcs => ?_)
  · refine GE_if (fun he0 => ?_) (fun he0 => ?_)
    · subst he0
      refine GE_catch hX hQ he [] ⟨0, 17, 20, 19⟩ [] rfl (fun q hq => by cases hq) (by decide) (by decide) ll_19 ?_
      refine G_astore hX [(4, .ref qa), (0, .ref (cx_ad X 0)), (1, .int p1), (2, .int p2), (3, .ref (cx_ad X 90))] (by decide) rfl dL_silent_20 ?_
      refine G_iconst hX (1 : Int32) rfl dL_silent_22 ?_
      exact G_iretH hX hQ hcs ⟨by decide, by decide⟩ dL_silent_23
    exact GE_none
  refine G_if_eq hX 15 (by decide) dL_silent_8 ?_ ?_
  · refine G_lconst hX (0 : Int64) rfl dL_silent_15 ?_
    refine G_sL hX atC90 dL_silent_16 (fun μ => ?_)
    refine G_goto hX 24 (by decide) dL_silent_17 ?_
    refine G_iconst hX (0 : Int32) rfl dL_silent_24 ?_
    exact G_iretH hX hQ hcs ⟨by decide, by decide⟩ dL_silent_25
  · refine G_lconst hX (1 : Int64) rfl dL_silent_11 ?_
    refine G_goto hX 16 (by decide) dL_silent_12 ?_
    refine G_sL hX atC90 dL_silent_16 (fun μ => ?_)
    refine G_goto hX 24 (by decide) dL_silent_17 ?_
    refine G_iconst hX (0 : Int32) rfl dL_silent_24 ?_
    exact G_iretH hX hQ hcs ⟨by decide, by decide⟩ dL_silent_25
theorem cL_silent_ok (l : Launch) (hl0 : l.stackTraces = false) (N : Nat) (p1 : Int32) (p2 : Int32) (μ : Mem) (z : Int32 × Mem) (h : fL_silent N p1 p2 μ = some z) : Hi wC l yL_silent cL_silent 5 [(0, 17, 20, 19)] (rmx 8 136 1 6) 1 6 (fun ad adK => [.ref (ad 0), .int p1, .int p2, .ref (ad 90)]) μ z := Hi.of hl0 h (by decide +kernel) (fun _ _ => Nat.le_of_ble_eq_true rfl) (fun X hX hQ hcs => gL_silent_E hX hQ hcs N p1 p2 μ)
set_option maxHeartbeats 4000000 in
set_option maxRecDepth 100000 in
theorem gL_base_E {X : Ctx} {z : Int32 × Mem} (hX : Fx wC X cL_base 4 RL (some .int) (rmx 8 134 1 6)) (hQ : Qh wC X z [(0, 9, 12, 19)] 1 6) (hcs : cx_cells X = 0 ∧ cx_slots X = 0) (N : Nat) (p1 : Int32) (μ : Mem) : G wC X z 0 [(0, .ref (cx_ad X 0)), (1, .int p1), (2, .ref (cx_ad X 90))] [] μ (fL_base N p1 μ) := by
  unfold fL_base
  refine G_aload_n hX 2 rfl rfl dL_base_0 ?_
  refine G_iconst hX (0 : Int32) rfl dL_base_1 ?_
  refine G_aload_n hX 0 rfl rfl dL_base_2 ?_
  refine G_iload_n hX 1 rfl rfl dL_base_3 ?_
  refine G_hi hX hQ hcs 0 10 (fun ad adK => [.int p1]) (fun ad adK => [.int (0 : Int32), .ref (ad 90)]) (fun ad adK => [(0, .ref (ad 0)), (1, .int p1), (2, .ref (ad 90))]) (fun z2 h2 => cX10_base_ok (cx_l X) hQ.2.1 N p1 μ z2 h2) ok_X10_base lm_L_57 atC0.1 atC0.2 rfl rfl rfl (fun _ _ => rfl) (fun _ _ => Nat.le_of_ble_eq_true rfl) ⟨rfl, rfl, by decide, by decide⟩ ⟨by decide, by decide⟩ dL_base_4 (fun X e μ qa he hX hQ hcs => ?_) (fun X r μ hX hQ hcs => ?_)
  · refine GE_if (fun he0 => ?_) (fun he0 => ?_)
    · subst he0
      refine GE_catch hX hQ he [] ⟨0, 9, 12, 19⟩ [] rfl (fun q hq => by cases hq) (by decide) (by decide) ll_19 ?_
      refine G_astore_n hX [(3, .ref qa), (0, .ref (cx_ad X 0)), (1, .int p1), (2, .ref (cx_ad X 90))] rfl (by decide) rfl dL_base_12 ?_
      refine G_iconst hX (1 : Int32) rfl dL_base_13 ?_
      exact G_iretH hX hQ hcs ⟨by decide, by decide⟩ dL_base_14
    exact GE_none
  refine G_i2l hX dL_base_7 ?_
  refine G_sL hX atC90 dL_base_8 (fun μ => ?_)
  refine G_goto hX 15 (by decide) dL_base_9 ?_
  refine G_iconst hX (0 : Int32) rfl dL_base_15 ?_
  exact G_iretH hX hQ hcs ⟨by decide, by decide⟩ dL_base_16
theorem cL_base_ok (l : Launch) (hl0 : l.stackTraces = false) (N : Nat) (p1 : Int32) (μ : Mem) (z : Int32 × Mem) (h : fL_base N p1 μ = some z) : Hi wC l yL_base cL_base 4 [(0, 9, 12, 19)] (rmx 8 134 1 6) 1 6 (fun ad adK => [.ref (ad 0), .int p1, .ref (ad 90)]) μ z := Hi.of hl0 h (by decide +kernel) (fun _ _ => Nat.le_of_ble_eq_true rfl) (fun X hX hQ hcs => gL_base_E hX hQ hcs N p1 μ)
set_option maxHeartbeats 4000000 in
set_option maxRecDepth 100000 in
theorem gL_below_E {X : Ctx} {z : Int32 × Mem} (hX : Fx wC X cL_below 6 RL (some .int) (rmx 8 136 3 18)) (hQ : Qh wC X z [(0, 12, 15, 19), (0, 12, 19, 25)] 3 18) (hcs : cx_cells X = 0 ∧ cx_slots X = 0) (N : Nat) (p1 : Int32) (p2 : Int32) (p3 : Int32) (μ : Mem) : G wC X z 0 [(0, .ref (cx_ad X 0)), (1, .int p1), (2, .int p2), (3, .int p3), (4, .ref (cx_ad X 90))] [] μ (fL_below N p1 p2 p3 μ) := by
  unfold fL_below
  refine G_aload hX 4 rfl dL_below_0 ?_
  refine G_iconst hX (0 : Int32) rfl dL_below_2 ?_
  refine G_aload_n hX 0 rfl rfl dL_below_3 ?_
  refine G_iload_n hX 1 rfl rfl dL_below_4 ?_
  refine G_iload_n hX 2 rfl rfl dL_below_5 ?_
  refine G_iload_n hX 3 rfl rfl dL_below_6 ?_
  refine G_hi hX hQ hcs 0 10 (fun ad adK => [.int p1, .int p2, .int p3]) (fun ad adK => [.int (0 : Int32), .ref (ad 90)]) (fun ad adK => [(0, .ref (ad 0)), (1, .int p1), (2, .int p2), (3, .int p3), (4, .ref (ad 90))]) (fun z2 h2 => cX10_below_ok (cx_l X) hQ.2.1 N p1 p2 p3 μ z2 h2) ok_X10_below lm_L_61 atC0.1 atC0.2 rfl rfl rfl (fun _ _ => rfl) (fun _ _ => Nat.le_of_ble_eq_true rfl) ⟨rfl, rfl, by decide, by decide⟩ ⟨by decide, by decide⟩ dL_below_7 (fun X e μ qa he hX hQ hcs => ?_) (fun X r μ hX hQ hcs => ?_)
  · refine GE_if (fun he0 => ?_) (fun he0 => ?_)
    · subst he0
      refine GE_catch hX hQ he [] ⟨0, 12, 15, 19⟩ [⟨0, 12, 19, 25⟩] rfl (fun q hq => by cases hq) (by decide) (by decide) ll_19 ?_
      refine G_astore hX [(5, .ref qa), (0, .ref (cx_ad X 0)), (1, .int p1), (2, .int p2), (3, .int p3), (4, .ref (cx_ad X 90))] (by decide) rfl dL_below_15 ?_
      refine G_iconst hX (1 : Int32) rfl dL_below_17 ?_
      exact G_iretH hX hQ hcs ⟨by decide, by decide⟩ dL_below_18
    refine GE_if (fun he1 => ?_) (fun he1 => ?_)
    · subst he1
      refine GE_catch hX hQ he [⟨0, 12, 15, 19⟩] ⟨0, 12, 19, 25⟩ [] rfl (fun q hq => by rcases List.mem_cons.mp hq with rfl | hq; exact ⟨by decide, 0, by decide, by decide, ll_19⟩; cases hq) (by decide) (by decide) ll_25 ?_
      refine G_astore hX [(5, .ref qa), (0, .ref (cx_ad X 0)), (1, .int p1), (2, .int p2), (3, .int p3), (4, .ref (cx_ad X 90))] (by decide) rfl dL_below_19 ?_
      refine G_iconst hX (2 : Int32) rfl dL_below_21 ?_
      exact G_iretH hX hQ hcs ⟨by decide, by decide⟩ dL_below_22
    exact GE_none
  refine G_i2l hX dL_below_10 ?_
  refine G_sL hX atC90 dL_below_11 (fun μ => ?_)
  refine G_goto hX 23 (by decide) dL_below_12 ?_
  refine G_iconst hX (0 : Int32) rfl dL_below_23 ?_
  exact G_iretH hX hQ hcs ⟨by decide, by decide⟩ dL_below_24
theorem cL_below_ok (l : Launch) (hl0 : l.stackTraces = false) (N : Nat) (p1 : Int32) (p2 : Int32) (p3 : Int32) (μ : Mem) (z : Int32 × Mem) (h : fL_below N p1 p2 p3 μ = some z) : Hi wC l yL_below cL_below 6 [(0, 12, 15, 19), (0, 12, 19, 25)] (rmx 8 136 3 18) 3 18 (fun ad adK => [.ref (ad 0), .int p1, .int p2, .int p3, .ref (ad 90)]) μ z := Hi.of hl0 h (by decide +kernel) (fun _ _ => Nat.le_of_ble_eq_true rfl) (fun X hX hQ hcs => gL_below_E hX hQ hcs N p1 p2 p3 μ)
set_option maxHeartbeats 4000000 in
set_option maxRecDepth 100000 in
theorem gL_worth_E {X : Ctx} {z : Int32 × Mem} (hX : Fx wC X cL_worth 7 RL (some .int) (rmx 8 138 4 24)) (hQ : Qh wC X z [(0, 13, 16, 19), (0, 13, 20, 13)] 4 24) (hcs : cx_cells X = 0 ∧ cx_slots X = 0) (N : Nat) (p1 : Int32) (p2 : Int32) (p3 : Int32) (p4 : Int32) (μ : Mem) : G wC X z 0 [(0, .ref (cx_ad X 0)), (1, .int p1), (2, .int p2), (3, .int p3), (4, .int p4), (5, .ref (cx_ad X 90))] [] μ (fL_worth N p1 p2 p3 p4 μ) := by
  unfold fL_worth
  refine G_aload hX 5 rfl dL_worth_0 ?_
  refine G_iconst hX (0 : Int32) rfl dL_worth_2 ?_
  refine G_aload_n hX 0 rfl rfl dL_worth_3 ?_
  refine G_iload_n hX 1 rfl rfl dL_worth_4 ?_
  refine G_iload_n hX 2 rfl rfl dL_worth_5 ?_
  refine G_iload_n hX 3 rfl rfl dL_worth_6 ?_
  refine G_iload hX 4 rfl dL_worth_7 ?_
  refine G_hl hX hQ hcs 0 10 (fun ad adK => [.int p1, .int p2, .int p3, .int p4]) (fun ad adK => [.int (0 : Int32), .ref (ad 90)]) (fun ad adK => [(0, .ref (ad 0)), (1, .int p1), (2, .int p2), (3, .int p3), (4, .int p4), (5, .ref (ad 90))]) (fun z2 h2 => cX10_worth_ok (cx_l X) hQ.2.1 N p1 p2 p3 p4 μ z2 h2) ok_X10_worth lm_L_64 atC0.1 atC0.2 rfl rfl rfl (fun _ _ => rfl) (fun _ _ => Nat.le_of_ble_eq_true rfl) ⟨rfl, rfl, by decide, by decide⟩ ⟨by decide, by decide⟩ dL_worth_9 (fun X e μ qa he hX hQ hcs => ?_) (fun X r μ hX hQ hcs => ?_)
  · refine GE_if (fun he0 => ?_) (fun he0 => ?_)
    · subst he0
      refine GE_catch hX hQ he [] ⟨0, 13, 16, 19⟩ [⟨0, 13, 20, 13⟩] rfl (fun q hq => by cases hq) (by decide) (by decide) ll_19 ?_
      refine G_astore hX [(6, .ref qa), (0, .ref (cx_ad X 0)), (1, .int p1), (2, .int p2), (3, .int p3), (4, .int p4), (5, .ref (cx_ad X 90))] (by decide) rfl dL_worth_16 ?_
      refine G_iconst hX (1 : Int32) rfl dL_worth_18 ?_
      exact G_iretH hX hQ hcs ⟨by decide, by decide⟩ dL_worth_19
    refine GE_if (fun he1 => ?_) (fun he1 => ?_)
    · subst he1
      refine GE_catch hX hQ he [⟨0, 13, 16, 19⟩] ⟨0, 13, 20, 13⟩ [] rfl (fun q hq => by rcases List.mem_cons.mp hq with rfl | hq; exact ⟨by decide, 0, by decide, by decide, ll_19⟩; cases hq) (by decide) (by decide) ll_13 ?_
      refine G_astore hX [(6, .ref qa), (0, .ref (cx_ad X 0)), (1, .int p1), (2, .int p2), (3, .int p3), (4, .int p4), (5, .ref (cx_ad X 90))] (by decide) rfl dL_worth_20 ?_
      refine G_iconst hX (2 : Int32) rfl dL_worth_22 ?_
      exact G_iretH hX hQ hcs ⟨by decide, by decide⟩ dL_worth_23
    exact GE_none
  refine G_sL hX atC90 dL_worth_12 (fun μ => ?_)
  refine G_goto hX 24 (by decide) dL_worth_13 ?_
  refine G_iconst hX (0 : Int32) rfl dL_worth_24 ?_
  exact G_iretH hX hQ hcs ⟨by decide, by decide⟩ dL_worth_25
theorem cL_worth_ok (l : Launch) (hl0 : l.stackTraces = false) (N : Nat) (p1 : Int32) (p2 : Int32) (p3 : Int32) (p4 : Int32) (μ : Mem) (z : Int32 × Mem) (h : fL_worth N p1 p2 p3 p4 μ = some z) : Hi wC l yL_worth cL_worth 7 [(0, 13, 16, 19), (0, 13, 20, 13)] (rmx 8 138 4 24) 4 24 (fun ad adK => [.ref (ad 0), .int p1, .int p2, .int p3, .int p4, .ref (ad 90)]) μ z := Hi.of hl0 h (by decide +kernel) (fun _ _ => Nat.le_of_ble_eq_true rfl) (fun X hX hQ hcs => gL_worth_E hX hQ hcs N p1 p2 p3 p4 μ)
set_option maxHeartbeats 4000000 in
set_option maxRecDepth 100000 in
theorem gL_found_E {X : Ctx} {z : Int32 × Mem} (hX : Fx wC X cL_found 7 RL (some .int) (rmx 8 139 4 24)) (hQ : Qh wC X z [(0, 14, 17, 19), (0, 14, 21, 13), (0, 14, 25, 25)] 4 24) (hcs : cx_cells X = 0 ∧ cx_slots X = 0) (N : Nat) (p1 : Int32) (p2 : Int32) (p3 : Int32) (p4 : Int32) (μ : Mem) : G wC X z 0 [(0, .ref (cx_ad X 0)), (1, .int p1), (2, .int p2), (3, .int p3), (4, .int p4), (5, .ref (cx_ad X 90))] [] μ (fL_found N p1 p2 p3 p4 μ) := by
  unfold fL_found
  refine G_aload hX 5 rfl dL_found_0 ?_
  refine G_iconst hX (0 : Int32) rfl dL_found_2 ?_
  refine G_aload_n hX 0 rfl rfl dL_found_3 ?_
  refine G_iload_n hX 1 rfl rfl dL_found_4 ?_
  refine G_iload_n hX 2 rfl rfl dL_found_5 ?_
  refine G_iload_n hX 3 rfl rfl dL_found_6 ?_
  refine G_iload hX 4 rfl dL_found_7 ?_
  refine G_hi hX hQ hcs 0 10 (fun ad adK => [.int p1, .int p2, .int p3, .int p4]) (fun ad adK => [.int (0 : Int32), .ref (ad 90)]) (fun ad adK => [(0, .ref (ad 0)), (1, .int p1), (2, .int p2), (3, .int p3), (4, .int p4), (5, .ref (ad 90))]) (fun z2 h2 => cX10_found_ok (cx_l X) hQ.2.1 N p1 p2 p3 p4 μ z2 h2) ok_X10_found lm_L_68 atC0.1 atC0.2 rfl rfl rfl (fun _ _ => rfl) (fun _ _ => Nat.le_of_ble_eq_true rfl) ⟨rfl, rfl, by decide, by decide⟩ ⟨by decide, by decide⟩ dL_found_9 (fun X e μ qa he hX hQ hcs => ?_) (fun X r μ hX hQ hcs => ?_)
  · refine GE_if (fun he0 => ?_) (fun he0 => ?_)
    · subst he0
      refine GE_catch hX hQ he [] ⟨0, 14, 17, 19⟩ [⟨0, 14, 21, 13⟩, ⟨0, 14, 25, 25⟩] rfl (fun q hq => by cases hq) (by decide) (by decide) ll_19 ?_
      refine G_astore hX [(6, .ref qa), (0, .ref (cx_ad X 0)), (1, .int p1), (2, .int p2), (3, .int p3), (4, .int p4), (5, .ref (cx_ad X 90))] (by decide) rfl dL_found_17 ?_
      refine G_iconst hX (1 : Int32) rfl dL_found_19 ?_
      exact G_iretH hX hQ hcs ⟨by decide, by decide⟩ dL_found_20
    refine GE_if (fun he1 => ?_) (fun he1 => ?_)
    · subst he1
      refine GE_catch hX hQ he [⟨0, 14, 17, 19⟩] ⟨0, 14, 21, 13⟩ [⟨0, 14, 25, 25⟩] rfl (fun q hq => by rcases List.mem_cons.mp hq with rfl | hq; exact ⟨by decide, 0, by decide, by decide, ll_19⟩; cases hq) (by decide) (by decide) ll_13 ?_
      refine G_astore hX [(6, .ref qa), (0, .ref (cx_ad X 0)), (1, .int p1), (2, .int p2), (3, .int p3), (4, .int p4), (5, .ref (cx_ad X 90))] (by decide) rfl dL_found_21 ?_
      refine G_iconst hX (2 : Int32) rfl dL_found_23 ?_
      exact G_iretH hX hQ hcs ⟨by decide, by decide⟩ dL_found_24
    refine GE_if (fun he2 => ?_) (fun he2 => ?_)
    · subst he2
      refine GE_catch hX hQ he [⟨0, 14, 17, 19⟩, ⟨0, 14, 21, 13⟩] ⟨0, 14, 25, 25⟩ [] rfl (fun q hq => by rcases List.mem_cons.mp hq with rfl | hq; exact ⟨by decide, 0, by decide, by decide, ll_19⟩; rcases List.mem_cons.mp hq with rfl | hq; exact ⟨by decide, 1, by decide, by decide, ll_13⟩; cases hq) (by decide) (by decide) ll_25 ?_
      refine G_astore hX [(6, .ref qa), (0, .ref (cx_ad X 0)), (1, .int p1), (2, .int p2), (3, .int p3), (4, .int p4), (5, .ref (cx_ad X 90))] (by decide) rfl dL_found_25 ?_
      refine G_iconst hX (3 : Int32) rfl dL_found_27 ?_
      exact G_iretH hX hQ hcs ⟨by decide, by decide⟩ dL_found_28
    exact GE_none
  refine G_i2l hX dL_found_12 ?_
  refine G_sL hX atC90 dL_found_13 (fun μ => ?_)
  refine G_goto hX 29 (by decide) dL_found_14 ?_
  refine G_iconst hX (0 : Int32) rfl dL_found_29 ?_
  exact G_iretH hX hQ hcs ⟨by decide, by decide⟩ dL_found_30
theorem cL_found_ok (l : Launch) (hl0 : l.stackTraces = false) (N : Nat) (p1 : Int32) (p2 : Int32) (p3 : Int32) (p4 : Int32) (μ : Mem) (z : Int32 × Mem) (h : fL_found N p1 p2 p3 p4 μ = some z) : Hi wC l yL_found cL_found 7 [(0, 14, 17, 19), (0, 14, 21, 13), (0, 14, 25, 25)] (rmx 8 139 4 24) 4 24 (fun ad adK => [.ref (ad 0), .int p1, .int p2, .int p3, .int p4, .ref (ad 90)]) μ z := Hi.of hl0 h (by decide +kernel) (fun _ _ => Nat.le_of_ble_eq_true rfl) (fun X hX hQ hcs => gL_found_E hX hQ hcs N p1 p2 p3 p4 μ)
set_option maxHeartbeats 4000000 in
set_option maxRecDepth 100000 in
theorem gL_match_E {X : Ctx} {z : Int32 × Mem} (hX : Fx wC X cL_match 4 RL (some .int) (rmx 9 155 2 12)) (hQ : Qh wC X z [(0, 9, 12, 19), (0, 9, 15, 13)] 2 12) (hcs : cx_cells X = 0 ∧ cx_slots X = 0) (N : Nat) (p1 : Int32) (μ : Mem) : G wC X z 0 [(0, .ref (cx_ad X 0)), (1, .int p1), (2, .ref (cx_ad X 90))] [] μ (fL_match N p1 μ) := by
  unfold fL_match
  refine G_aload_n hX 2 rfl rfl dL_match_0 ?_
  refine G_iconst hX (0 : Int32) rfl dL_match_1 ?_
  refine G_aload_n hX 0 rfl rfl dL_match_2 ?_
  refine G_iload_n hX 1 rfl rfl dL_match_3 ?_
  refine G_hi hX hQ hcs 0 10 (fun ad adK => [.int p1]) (fun ad adK => [.int (0 : Int32), .ref (ad 90)]) (fun ad adK => [(0, .ref (ad 0)), (1, .int p1), (2, .ref (ad 90))]) (fun z2 h2 => cX10_match_ok (cx_l X) hQ.2.1 N p1 μ z2 h2) ok_X10_match lm_L_72 atC0.1 atC0.2 rfl rfl rfl (fun _ _ => rfl) (fun _ _ => Nat.le_of_ble_eq_true rfl) ⟨rfl, rfl, by decide, by decide⟩ ⟨by decide, by decide⟩ dL_match_4 (fun X e μ qa he hX hQ hcs => ?_) (fun X r μ hX hQ hcs => ?_)
  · refine GE_if (fun he0 => ?_) (fun he0 => ?_)
    · subst he0
      refine GE_catch hX hQ he [] ⟨0, 9, 12, 19⟩ [⟨0, 9, 15, 13⟩] rfl (fun q hq => by cases hq) (by decide) (by decide) ll_19 ?_
      refine G_astore_n hX [(3, .ref qa), (0, .ref (cx_ad X 0)), (1, .int p1), (2, .ref (cx_ad X 90))] rfl (by decide) rfl dL_match_12 ?_
      refine G_iconst hX (1 : Int32) rfl dL_match_13 ?_
      exact G_iretH hX hQ hcs ⟨by decide, by decide⟩ dL_match_14
    refine GE_if (fun he1 => ?_) (fun he1 => ?_)
    · subst he1
      refine GE_catch hX hQ he [⟨0, 9, 12, 19⟩] ⟨0, 9, 15, 13⟩ [] rfl (fun q hq => by rcases List.mem_cons.mp hq with rfl | hq; exact ⟨by decide, 0, by decide, by decide, ll_19⟩; cases hq) (by decide) (by decide) ll_13 ?_
      refine G_astore_n hX [(3, .ref qa), (0, .ref (cx_ad X 0)), (1, .int p1), (2, .ref (cx_ad X 90))] rfl (by decide) rfl dL_match_15 ?_
      refine G_iconst hX (2 : Int32) rfl dL_match_16 ?_
      exact G_iretH hX hQ hcs ⟨by decide, by decide⟩ dL_match_17
    exact GE_none
  refine G_i2l hX dL_match_7 ?_
  refine G_sL hX atC90 dL_match_8 (fun μ => ?_)
  refine G_goto hX 18 (by decide) dL_match_9 ?_
  refine G_iconst hX (0 : Int32) rfl dL_match_18 ?_
  exact G_iretH hX hQ hcs ⟨by decide, by decide⟩ dL_match_19
theorem cL_match_ok (l : Launch) (hl0 : l.stackTraces = false) (N : Nat) (p1 : Int32) (μ : Mem) (z : Int32 × Mem) (h : fL_match N p1 μ = some z) : Hi wC l yL_match cL_match 4 [(0, 9, 12, 19), (0, 9, 15, 13)] (rmx 9 155 2 12) 2 12 (fun ad adK => [.ref (ad 0), .int p1, .ref (ad 90)]) μ z := Hi.of hl0 h (by decide +kernel) (fun _ _ => Nat.le_of_ble_eq_true rfl) (fun X hX hQ hcs => gL_match_E hX hQ hcs N p1 μ)
set_option maxHeartbeats 4000000 in
set_option maxRecDepth 100000 in
theorem gL_difference_E {X : Ctx} {z : Int32 × Mem} (hX : Fx wC X cL_difference 5 RL (some .int) (rmx 9 156 3 18)) (hQ : Qh wC X z [(0, 9, 12, 19), (0, 9, 16, 13)] 3 18) (hcs : cx_cells X = 0 ∧ cx_slots X = 0) (N : Nat) (p1 : Int32) (p2 : Int32) (μ : Mem) : G wC X z 0 [(0, .ref (cx_ad X 0)), (1, .int p1), (2, .int p2), (3, .ref (cx_ad X 90))] [] μ (fL_difference N p1 p2 μ) := by
  unfold fL_difference
  refine G_aload_n hX 3 rfl rfl dL_difference_0 ?_
  refine G_iconst hX (0 : Int32) rfl dL_difference_1 ?_
  refine G_aload_n hX 0 rfl rfl dL_difference_2 ?_
  refine G_iload_n hX 1 rfl rfl dL_difference_3 ?_
  refine G_iload_n hX 2 rfl rfl dL_difference_4 ?_
  refine G_hl hX hQ hcs 0 10 (fun ad adK => [.int p1, .int p2]) (fun ad adK => [.int (0 : Int32), .ref (ad 90)]) (fun ad adK => [(0, .ref (ad 0)), (1, .int p1), (2, .int p2), (3, .ref (ad 90))]) (fun z2 h2 => cX10_difference_ok (cx_l X) hQ.2.1 N p1 p2 μ z2 h2) ok_X10_difference lm_L_75 atC0.1 atC0.2 rfl rfl rfl (fun _ _ => rfl) (fun _ _ => Nat.le_of_ble_eq_true rfl) ⟨rfl, rfl, by decide, by decide⟩ ⟨by decide, by decide⟩ dL_difference_5 (fun X e μ qa he hX hQ hcs => ?_) (fun X r μ hX hQ hcs => ?_)
  · refine GE_if (fun he0 => ?_) (fun he0 => ?_)
    · subst he0
      refine GE_catch hX hQ he [] ⟨0, 9, 12, 19⟩ [⟨0, 9, 16, 13⟩] rfl (fun q hq => by cases hq) (by decide) (by decide) ll_19 ?_
      refine G_astore hX [(4, .ref qa), (0, .ref (cx_ad X 0)), (1, .int p1), (2, .int p2), (3, .ref (cx_ad X 90))] (by decide) rfl dL_difference_12 ?_
      refine G_iconst hX (1 : Int32) rfl dL_difference_14 ?_
      exact G_iretH hX hQ hcs ⟨by decide, by decide⟩ dL_difference_15
    refine GE_if (fun he1 => ?_) (fun he1 => ?_)
    · subst he1
      refine GE_catch hX hQ he [⟨0, 9, 12, 19⟩] ⟨0, 9, 16, 13⟩ [] rfl (fun q hq => by rcases List.mem_cons.mp hq with rfl | hq; exact ⟨by decide, 0, by decide, by decide, ll_19⟩; cases hq) (by decide) (by decide) ll_13 ?_
      refine G_astore hX [(4, .ref qa), (0, .ref (cx_ad X 0)), (1, .int p1), (2, .int p2), (3, .ref (cx_ad X 90))] (by decide) rfl dL_difference_16 ?_
      refine G_iconst hX (2 : Int32) rfl dL_difference_18 ?_
      exact G_iretH hX hQ hcs ⟨by decide, by decide⟩ dL_difference_19
    exact GE_none
  refine G_sL hX atC90 dL_difference_8 (fun μ => ?_)
  refine G_goto hX 20 (by decide) dL_difference_9 ?_
  refine G_iconst hX (0 : Int32) rfl dL_difference_20 ?_
  exact G_iretH hX hQ hcs ⟨by decide, by decide⟩ dL_difference_21
theorem cL_difference_ok (l : Launch) (hl0 : l.stackTraces = false) (N : Nat) (p1 : Int32) (p2 : Int32) (μ : Mem) (z : Int32 × Mem) (h : fL_difference N p1 p2 μ = some z) : Hi wC l yL_difference cL_difference 5 [(0, 9, 12, 19), (0, 9, 16, 13)] (rmx 9 156 3 18) 3 18 (fun ad adK => [.ref (ad 0), .int p1, .int p2, .ref (ad 90)]) μ z := Hi.of hl0 h (by decide +kernel) (fun _ _ => Nat.le_of_ble_eq_true rfl) (fun X hX hQ hcs => gL_difference_E hX hQ hcs N p1 p2 μ)
set_option maxHeartbeats 4000000 in
set_option maxRecDepth 100000 in
theorem gL_groups_E {X : Ctx} {z : Int32 × Mem} (hX : Fx wC X cL_groups 4 RL (some .int) (rmx 8 148 1 6)) (hQ : Qh wC X z [(0, 9, 12, 19)] 1 6) (hcs : cx_cells X = 0 ∧ cx_slots X = 0) (N : Nat) (p1 : Int32) (μ : Mem) : G wC X z 0 [(0, .ref (cx_ad X 0)), (1, .int p1), (2, .ref (cx_ad X 90))] [] μ (fL_groups N p1 μ) := by
  unfold fL_groups
  refine G_aload_n hX 2 rfl rfl dL_groups_0 ?_
  refine G_iconst hX (0 : Int32) rfl dL_groups_1 ?_
  refine G_aload_n hX 0 rfl rfl dL_groups_2 ?_
  refine G_iload_n hX 1 rfl rfl dL_groups_3 ?_
  refine G_hi hX hQ hcs 0 10 (fun ad adK => [.int p1]) (fun ad adK => [.int (0 : Int32), .ref (ad 90)]) (fun ad adK => [(0, .ref (ad 0)), (1, .int p1), (2, .ref (ad 90))]) (fun z2 h2 => cX10_groups_ok (cx_l X) hQ.2.1 N p1 μ z2 h2) ok_X10_groups lm_L_79 atC0.1 atC0.2 rfl rfl rfl (fun _ _ => rfl) (fun _ _ => Nat.le_of_ble_eq_true rfl) ⟨rfl, rfl, by decide, by decide⟩ ⟨by decide, by decide⟩ dL_groups_4 (fun X e μ qa he hX hQ hcs => ?_) (fun X r μ hX hQ hcs => ?_)
  · refine GE_if (fun he0 => ?_) (fun he0 => ?_)
    · subst he0
      refine GE_catch hX hQ he [] ⟨0, 9, 12, 19⟩ [] rfl (fun q hq => by cases hq) (by decide) (by decide) ll_19 ?_
      refine G_astore_n hX [(3, .ref qa), (0, .ref (cx_ad X 0)), (1, .int p1), (2, .ref (cx_ad X 90))] rfl (by decide) rfl dL_groups_12 ?_
      refine G_iconst hX (1 : Int32) rfl dL_groups_13 ?_
      exact G_iretH hX hQ hcs ⟨by decide, by decide⟩ dL_groups_14
    exact GE_none
  refine G_i2l hX dL_groups_7 ?_
  refine G_sL hX atC90 dL_groups_8 (fun μ => ?_)
  refine G_goto hX 15 (by decide) dL_groups_9 ?_
  refine G_iconst hX (0 : Int32) rfl dL_groups_15 ?_
  exact G_iretH hX hQ hcs ⟨by decide, by decide⟩ dL_groups_16
theorem cL_groups_ok (l : Launch) (hl0 : l.stackTraces = false) (N : Nat) (p1 : Int32) (μ : Mem) (z : Int32 × Mem) (h : fL_groups N p1 μ = some z) : Hi wC l yL_groups cL_groups 4 [(0, 9, 12, 19)] (rmx 8 148 1 6) 1 6 (fun ad adK => [.ref (ad 0), .int p1, .ref (ad 90)]) μ z := Hi.of hl0 h (by decide +kernel) (fun _ _ => Nat.le_of_ble_eq_true rfl) (fun X hX hQ hcs => gL_groups_E hX hQ hcs N p1 μ)
set_option maxHeartbeats 4000000 in
set_option maxRecDepth 100000 in
theorem gL_group_E {X : Ctx} {z : Int32 × Mem} (hX : Fx wC X cL_group 6 RL (some .int) (rmx 8 151 2 12)) (hQ : Qh wC X z [(0, 11, 14, 19), (0, 11, 18, 25)] 2 12) (hcs : cx_cells X = 0 ∧ cx_slots X = 0) (N : Nat) (p1 : Int32) (p2 : Int32) (p3 : Int32) (μ : Mem) : G wC X z 0 [(0, .ref (cx_ad X 0)), (1, .int p1), (2, .int p2), (3, .int p3), (4, .ref (cx_ad X 90))] [] μ (fL_group N p1 p2 p3 μ) := by
  unfold fL_group
  refine G_aload hX 4 rfl dL_group_0 ?_
  refine G_iconst hX (0 : Int32) rfl dL_group_2 ?_
  refine G_aload_n hX 0 rfl rfl dL_group_3 ?_
  refine G_iload_n hX 1 rfl rfl dL_group_4 ?_
  refine G_iload_n hX 2 rfl rfl dL_group_5 ?_
  refine G_iload_n hX 3 rfl rfl dL_group_6 ?_
  refine G_hl hX hQ hcs 0 10 (fun ad adK => [.int p1, .int p2, .int p3]) (fun ad adK => [.int (0 : Int32), .ref (ad 90)]) (fun ad adK => [(0, .ref (ad 0)), (1, .int p1), (2, .int p2), (3, .int p3), (4, .ref (ad 90))]) (fun z2 h2 => cX10_group_ok (cx_l X) hQ.2.1 N p1 p2 p3 μ z2 h2) ok_X10_group lm_L_82 atC0.1 atC0.2 rfl rfl rfl (fun _ _ => rfl) (fun _ _ => Nat.le_of_ble_eq_true rfl) ⟨rfl, rfl, by decide, by decide⟩ ⟨by decide, by decide⟩ dL_group_7 (fun X e μ qa he hX hQ hcs => ?_) (fun X r μ hX hQ hcs => ?_)
  · refine GE_if (fun he0 => ?_) (fun he0 => ?_)
    · subst he0
      refine GE_catch hX hQ he [] ⟨0, 11, 14, 19⟩ [⟨0, 11, 18, 25⟩] rfl (fun q hq => by cases hq) (by decide) (by decide) ll_19 ?_
      refine G_astore hX [(5, .ref qa), (0, .ref (cx_ad X 0)), (1, .int p1), (2, .int p2), (3, .int p3), (4, .ref (cx_ad X 90))] (by decide) rfl dL_group_14 ?_
      refine G_iconst hX (1 : Int32) rfl dL_group_16 ?_
      exact G_iretH hX hQ hcs ⟨by decide, by decide⟩ dL_group_17
    refine GE_if (fun he1 => ?_) (fun he1 => ?_)
    · subst he1
      refine GE_catch hX hQ he [⟨0, 11, 14, 19⟩] ⟨0, 11, 18, 25⟩ [] rfl (fun q hq => by rcases List.mem_cons.mp hq with rfl | hq; exact ⟨by decide, 0, by decide, by decide, ll_19⟩; cases hq) (by decide) (by decide) ll_25 ?_
      refine G_astore hX [(5, .ref qa), (0, .ref (cx_ad X 0)), (1, .int p1), (2, .int p2), (3, .int p3), (4, .ref (cx_ad X 90))] (by decide) rfl dL_group_18 ?_
      refine G_iconst hX (2 : Int32) rfl dL_group_20 ?_
      exact G_iretH hX hQ hcs ⟨by decide, by decide⟩ dL_group_21
    exact GE_none
  refine G_sL hX atC90 dL_group_10 (fun μ => ?_)
  refine G_goto hX 22 (by decide) dL_group_11 ?_
  refine G_iconst hX (0 : Int32) rfl dL_group_22 ?_
  exact G_iretH hX hQ hcs ⟨by decide, by decide⟩ dL_group_23
theorem cL_group_ok (l : Launch) (hl0 : l.stackTraces = false) (N : Nat) (p1 : Int32) (p2 : Int32) (p3 : Int32) (μ : Mem) (z : Int32 × Mem) (h : fL_group N p1 p2 p3 μ = some z) : Hi wC l yL_group cL_group 6 [(0, 11, 14, 19), (0, 11, 18, 25)] (rmx 8 151 2 12) 2 12 (fun ad adK => [.ref (ad 0), .int p1, .int p2, .int p3, .ref (ad 90)]) μ z := Hi.of hl0 h (by decide +kernel) (fun _ _ => Nat.le_of_ble_eq_true rfl) (fun X hX hQ hcs => gL_group_E hX hQ hcs N p1 p2 p3 μ)
set_option maxHeartbeats 4000000 in
set_option maxRecDepth 100000 in
theorem gL_sum_E {X : Ctx} {z : Int32 × Mem} (hX : Fx wC X cL_sum 6 RL (some .int) (rmx 8 150 2 12)) (hQ : Qh wC X z [(0, 11, 14, 19), (0, 11, 18, 13)] 2 12) (hcs : cx_cells X = 0 ∧ cx_slots X = 0) (N : Nat) (p1 : Int32) (p2 : Int32) (p3 : Int32) (μ : Mem) : G wC X z 0 [(0, .ref (cx_ad X 0)), (1, .int p1), (2, .int p2), (3, .int p3), (4, .ref (cx_ad X 90))] [] μ (fL_sum N p1 p2 p3 μ) := by
  unfold fL_sum
  refine G_aload hX 4 rfl dL_sum_0 ?_
  refine G_iconst hX (0 : Int32) rfl dL_sum_2 ?_
  refine G_aload_n hX 0 rfl rfl dL_sum_3 ?_
  refine G_iload_n hX 1 rfl rfl dL_sum_4 ?_
  refine G_iload_n hX 2 rfl rfl dL_sum_5 ?_
  refine G_iload_n hX 3 rfl rfl dL_sum_6 ?_
  refine G_hl hX hQ hcs 0 10 (fun ad adK => [.int p1, .int p2, .int p3]) (fun ad adK => [.int (0 : Int32), .ref (ad 90)]) (fun ad adK => [(0, .ref (ad 0)), (1, .int p1), (2, .int p2), (3, .int p3), (4, .ref (ad 90))]) (fun z2 h2 => cX10_sum_ok (cx_l X) hQ.2.1 N p1 p2 p3 μ z2 h2) ok_X10_sum lm_L_86 atC0.1 atC0.2 rfl rfl rfl (fun _ _ => rfl) (fun _ _ => Nat.le_of_ble_eq_true rfl) ⟨rfl, rfl, by decide, by decide⟩ ⟨by decide, by decide⟩ dL_sum_7 (fun X e μ qa he hX hQ hcs => ?_) (fun X r μ hX hQ hcs => ?_)
  · refine GE_if (fun he0 => ?_) (fun he0 => ?_)
    · subst he0
      refine GE_catch hX hQ he [] ⟨0, 11, 14, 19⟩ [⟨0, 11, 18, 13⟩] rfl (fun q hq => by cases hq) (by decide) (by decide) ll_19 ?_
      refine G_astore hX [(5, .ref qa), (0, .ref (cx_ad X 0)), (1, .int p1), (2, .int p2), (3, .int p3), (4, .ref (cx_ad X 90))] (by decide) rfl dL_sum_14 ?_
      refine G_iconst hX (1 : Int32) rfl dL_sum_16 ?_
      exact G_iretH hX hQ hcs ⟨by decide, by decide⟩ dL_sum_17
    refine GE_if (fun he1 => ?_) (fun he1 => ?_)
    · subst he1
      refine GE_catch hX hQ he [⟨0, 11, 14, 19⟩] ⟨0, 11, 18, 13⟩ [] rfl (fun q hq => by rcases List.mem_cons.mp hq with rfl | hq; exact ⟨by decide, 0, by decide, by decide, ll_19⟩; cases hq) (by decide) (by decide) ll_13 ?_
      refine G_astore hX [(5, .ref qa), (0, .ref (cx_ad X 0)), (1, .int p1), (2, .int p2), (3, .int p3), (4, .ref (cx_ad X 90))] (by decide) rfl dL_sum_18 ?_
      refine G_iconst hX (2 : Int32) rfl dL_sum_20 ?_
      exact G_iretH hX hQ hcs ⟨by decide, by decide⟩ dL_sum_21
    exact GE_none
  refine G_sL hX atC90 dL_sum_10 (fun μ => ?_)
  refine G_goto hX 22 (by decide) dL_sum_11 ?_
  refine G_iconst hX (0 : Int32) rfl dL_sum_22 ?_
  exact G_iretH hX hQ hcs ⟨by decide, by decide⟩ dL_sum_23
theorem cL_sum_ok (l : Launch) (hl0 : l.stackTraces = false) (N : Nat) (p1 : Int32) (p2 : Int32) (p3 : Int32) (μ : Mem) (z : Int32 × Mem) (h : fL_sum N p1 p2 p3 μ = some z) : Hi wC l yL_sum cL_sum 6 [(0, 11, 14, 19), (0, 11, 18, 13)] (rmx 8 150 2 12) 2 12 (fun ad adK => [.ref (ad 0), .int p1, .int p2, .int p3, .ref (ad 90)]) μ z := Hi.of hl0 h (by decide +kernel) (fun _ _ => Nat.le_of_ble_eq_true rfl) (fun X hX hQ hcs => gL_sum_E hX hQ hcs N p1 p2 p3 μ)
set_option maxHeartbeats 4000000 in
set_option maxRecDepth 100000 in
theorem gL_value_E {X : Ctx} {z : Int32 × Mem} (hX : Fx wC X cL_value 4 RL (some .int) (rmx 8 134 1 6)) (hQ : Qh wC X z [(0, 8, 11, 19)] 1 6) (hcs : cx_cells X = 0 ∧ cx_slots X = 0) (N : Nat) (p1 : Int32) (μ : Mem) : G wC X z 0 [(0, .ref (cx_ad X 0)), (1, .int p1), (2, .ref (cx_ad X 90))] [] μ (fL_value N p1 μ) := by
  unfold fL_value
  refine G_aload_n hX 2 rfl rfl dL_value_0 ?_
  refine G_iconst hX (0 : Int32) rfl dL_value_1 ?_
  refine G_aload_n hX 0 rfl rfl dL_value_2 ?_
  refine G_iload_n hX 1 rfl rfl dL_value_3 ?_
  refine G_hl hX hQ hcs 0 10 (fun ad adK => [.int p1]) (fun ad adK => [.int (0 : Int32), .ref (ad 90)]) (fun ad adK => [(0, .ref (ad 0)), (1, .int p1), (2, .ref (ad 90))]) (fun z2 h2 => cX10_value_ok (cx_l X) hQ.2.1 N p1 μ z2 h2) ok_X10_value lm_L_90 atC0.1 atC0.2 rfl rfl rfl (fun _ _ => rfl) (fun _ _ => Nat.le_of_ble_eq_true rfl) ⟨rfl, rfl, by decide, by decide⟩ ⟨by decide, by decide⟩ dL_value_4 (fun X e μ qa he hX hQ hcs => ?_) (fun X r μ hX hQ hcs => ?_)
  · refine GE_if (fun he0 => ?_) (fun he0 => ?_)
    · subst he0
      refine GE_catch hX hQ he [] ⟨0, 8, 11, 19⟩ [] rfl (fun q hq => by cases hq) (by decide) (by decide) ll_19 ?_
      refine G_astore_n hX [(3, .ref qa), (0, .ref (cx_ad X 0)), (1, .int p1), (2, .ref (cx_ad X 90))] rfl (by decide) rfl dL_value_11 ?_
      refine G_iconst hX (1 : Int32) rfl dL_value_12 ?_
      exact G_iretH hX hQ hcs ⟨by decide, by decide⟩ dL_value_13
    exact GE_none
  refine G_sL hX atC90 dL_value_7 (fun μ => ?_)
  refine G_goto hX 14 (by decide) dL_value_8 ?_
  refine G_iconst hX (0 : Int32) rfl dL_value_14 ?_
  exact G_iretH hX hQ hcs ⟨by decide, by decide⟩ dL_value_15
theorem cL_value_ok (l : Launch) (hl0 : l.stackTraces = false) (N : Nat) (p1 : Int32) (μ : Mem) (z : Int32 × Mem) (h : fL_value N p1 μ = some z) : Hi wC l yL_value cL_value 4 [(0, 8, 11, 19)] (rmx 8 134 1 6) 1 6 (fun ad adK => [.ref (ad 0), .int p1, .ref (ad 90)]) μ z := Hi.of hl0 h (by decide +kernel) (fun _ _ => Nat.le_of_ble_eq_true rfl) (fun X hX hQ hcs => gL_value_E hX hQ hcs N p1 μ)
set_option maxHeartbeats 4000000 in
set_option maxRecDepth 100000 in
theorem gL_margin_E {X : Ctx} {z : Int32 × Mem} (hX : Fx wC X cL_margin 6 RL (some .int) (rmx 8 200 2 12)) (hQ : Qh wC X z [(0, 12, 15, 19), (0, 12, 19, 13)] 2 12) (hcs : cx_cells X = 0 ∧ cx_slots X = 0) (N : Nat) (p1 : Int32) (p2 : Int32) (p3 : Int32) (μ : Mem) : G wC X z 0 [(0, .ref (cx_ad X 0)), (1, .int p1), (2, .int p2), (3, .int p3), (4, .ref (cx_ad X 90))] [] μ (fL_margin N p1 p2 p3 μ) := by
  unfold fL_margin
  refine G_aload hX 4 rfl dL_margin_0 ?_
  refine G_iconst hX (0 : Int32) rfl dL_margin_2 ?_
  refine G_aload_n hX 0 rfl rfl dL_margin_3 ?_
  refine G_iload_n hX 1 rfl rfl dL_margin_4 ?_
  refine G_iload_n hX 2 rfl rfl dL_margin_5 ?_
  refine G_iload_n hX 3 rfl rfl dL_margin_6 ?_
  refine G_hi hX hQ hcs 0 10 (fun ad adK => [.int p1, .int p2, .int p3]) (fun ad adK => [.int (0 : Int32), .ref (ad 90)]) (fun ad adK => [(0, .ref (ad 0)), (1, .int p1), (2, .int p2), (3, .int p3), (4, .ref (ad 90))]) (fun z2 h2 => cX10_margin_ok (cx_l X) hQ.2.1 N p1 p2 p3 μ z2 h2) ok_X10_margin lm_L_94 atC0.1 atC0.2 rfl rfl rfl (fun _ _ => rfl) (fun _ _ => Nat.le_of_ble_eq_true rfl) ⟨rfl, rfl, by decide, by decide⟩ ⟨by decide, by decide⟩ dL_margin_7 (fun X e μ qa he hX hQ hcs => ?_) (fun X r μ hX hQ hcs => ?_)
  · refine GE_if (fun he0 => ?_) (fun he0 => ?_)
    · subst he0
      refine GE_catch hX hQ he [] ⟨0, 12, 15, 19⟩ [⟨0, 12, 19, 13⟩] rfl (fun q hq => by cases hq) (by decide) (by decide) ll_19 ?_
      refine G_astore hX [(5, .ref qa), (0, .ref (cx_ad X 0)), (1, .int p1), (2, .int p2), (3, .int p3), (4, .ref (cx_ad X 90))] (by decide) rfl dL_margin_15 ?_
      refine G_iconst hX (1 : Int32) rfl dL_margin_17 ?_
      exact G_iretH hX hQ hcs ⟨by decide, by decide⟩ dL_margin_18
    refine GE_if (fun he1 => ?_) (fun he1 => ?_)
    · subst he1
      refine GE_catch hX hQ he [⟨0, 12, 15, 19⟩] ⟨0, 12, 19, 13⟩ [] rfl (fun q hq => by rcases List.mem_cons.mp hq with rfl | hq; exact ⟨by decide, 0, by decide, by decide, ll_19⟩; cases hq) (by decide) (by decide) ll_13 ?_
      refine G_astore hX [(5, .ref qa), (0, .ref (cx_ad X 0)), (1, .int p1), (2, .int p2), (3, .int p3), (4, .ref (cx_ad X 90))] (by decide) rfl dL_margin_19 ?_
      refine G_iconst hX (2 : Int32) rfl dL_margin_21 ?_
      exact G_iretH hX hQ hcs ⟨by decide, by decide⟩ dL_margin_22
    exact GE_none
  refine G_i2l hX dL_margin_10 ?_
  refine G_sL hX atC90 dL_margin_11 (fun μ => ?_)
  refine G_goto hX 23 (by decide) dL_margin_12 ?_
  refine G_iconst hX (0 : Int32) rfl dL_margin_23 ?_
  exact G_iretH hX hQ hcs ⟨by decide, by decide⟩ dL_margin_24
theorem cL_margin_ok (l : Launch) (hl0 : l.stackTraces = false) (N : Nat) (p1 : Int32) (p2 : Int32) (p3 : Int32) (μ : Mem) (z : Int32 × Mem) (h : fL_margin N p1 p2 p3 μ = some z) : Hi wC l yL_margin cL_margin 6 [(0, 12, 15, 19), (0, 12, 19, 13)] (rmx 8 200 2 12) 2 12 (fun ad adK => [.ref (ad 0), .int p1, .int p2, .int p3, .ref (ad 90)]) μ z := Hi.of hl0 h (by decide +kernel) (fun _ _ => Nat.le_of_ble_eq_true rfl) (fun X hX hQ hcs => gL_margin_E hX hQ hcs N p1 p2 p3 μ)
set_option maxHeartbeats 4000000 in
set_option maxRecDepth 100000 in
theorem gL_negligible_E {X : Ctx} {z : Int32 × Mem} (hX : Fx wC X cL_negligible 4 RL (some .int) (rmx 8 134 1 6)) (hQ : Qh wC X z [(0, 16, 19, 19)] 1 6) (hcs : cx_cells X = 0 ∧ cx_slots X = 0) (N : Nat) (p1 : Int32) (μ : Mem) : G wC X z 0 [(0, .ref (cx_ad X 0)), (1, .int p1), (2, .ref (cx_ad X 90))] [] μ (fL_negligible N p1 μ) := by
  unfold fL_negligible
  refine G_aload_n hX 2 rfl rfl dL_negligible_0 ?_
  refine G_iconst hX (0 : Int32) rfl dL_negligible_1 ?_
  refine G_aload_n hX 0 rfl rfl dL_negligible_2 ?_
  refine G_iload_n hX 1 rfl rfl dL_negligible_3 ?_
  refine G_hi hX hQ hcs 0 10 (fun ad adK => [.int p1]) (fun ad adK => [.int (0 : Int32), .ref (ad 90)]) (fun ad adK => [(0, .ref (ad 0)), (1, .int p1), (2, .ref (ad 90))]) (fun z2 h2 => cX10_negligible_ok (cx_l X) hQ.2.1 N p1 μ z2 h2) ok_X10_negligible lm_L_98 atC0.1 atC0.2 rfl rfl rfl (fun _ _ => rfl) (fun _ _ => Nat.le_of_ble_eq_true rfl) ⟨rfl, rfl, by decide, by decide⟩ ⟨by decide, by decide⟩ dL_negligible_4 (fun X e μ qa he hX hQ hcs => ?_) (fun X r μ hX hQ hcs => ?_)
  · refine GE_if (fun he0 => ?_) (fun he0 => ?_)
    · subst he0
      refine GE_catch hX hQ he [] ⟨0, 16, 19, 19⟩ [] rfl (fun q hq => by cases hq) (by decide) (by decide) ll_19 ?_
      refine G_astore_n hX [(3, .ref qa), (0, .ref (cx_ad X 0)), (1, .int p1), (2, .ref (cx_ad X 90))] rfl (by decide) rfl dL_negligible_19 ?_
      refine G_iconst hX (1 : Int32) rfl dL_negligible_20 ?_
      exact G_iretH hX hQ hcs ⟨by decide, by decide⟩ dL_negligible_21
    exact GE_none
  refine G_if_eq hX 14 (by decide) dL_negligible_7 ?_ ?_
  · refine G_lconst hX (0 : Int64) rfl dL_negligible_14 ?_
    refine G_sL hX atC90 dL_negligible_15 (fun μ => ?_)
    refine G_goto hX 22 (by decide) dL_negligible_16 ?_
    refine G_iconst hX (0 : Int32) rfl dL_negligible_22 ?_
    exact G_iretH hX hQ hcs ⟨by decide, by decide⟩ dL_negligible_23
  · refine G_lconst hX (1 : Int64) rfl dL_negligible_10 ?_
    refine G_goto hX 15 (by decide) dL_negligible_11 ?_
    refine G_sL hX atC90 dL_negligible_15 (fun μ => ?_)
    refine G_goto hX 22 (by decide) dL_negligible_16 ?_
    refine G_iconst hX (0 : Int32) rfl dL_negligible_22 ?_
    exact G_iretH hX hQ hcs ⟨by decide, by decide⟩ dL_negligible_23
theorem cL_negligible_ok (l : Launch) (hl0 : l.stackTraces = false) (N : Nat) (p1 : Int32) (μ : Mem) (z : Int32 × Mem) (h : fL_negligible N p1 μ = some z) : Hi wC l yL_negligible cL_negligible 4 [(0, 16, 19, 19)] (rmx 8 134 1 6) 1 6 (fun ad adK => [.ref (ad 0), .int p1, .ref (ad 90)]) μ z := Hi.of hl0 h (by decide +kernel) (fun _ _ => Nat.le_of_ble_eq_true rfl) (fun X hX hQ hcs => gL_negligible_E hX hQ hcs N p1 μ)
set_option maxHeartbeats 4000000 in
set_option maxRecDepth 100000 in
theorem gL_duty_E {X : Ctx} {z : Int32 × Mem} (hX : Fx wC X cL_duty 5 RL (some .int) (rmx 8 196 2 12)) (hQ : Qh wC X z [(0, 10, 13, 19), (0, 10, 17, 25)] 2 12) (hcs : cx_cells X = 0 ∧ cx_slots X = 0) (N : Nat) (p1 : Int32) (p2 : Int32) (μ : Mem) : G wC X z 0 [(0, .ref (cx_ad X 0)), (1, .int p1), (2, .int p2), (3, .ref (cx_ad X 90))] [] μ (fL_duty N p1 p2 μ) := by
  unfold fL_duty
  refine G_aload_n hX 3 rfl rfl dL_duty_0 ?_
  refine G_iconst hX (0 : Int32) rfl dL_duty_1 ?_
  refine G_aload_n hX 0 rfl rfl dL_duty_2 ?_
  refine G_iload_n hX 1 rfl rfl dL_duty_3 ?_
  refine G_iload_n hX 2 rfl rfl dL_duty_4 ?_
  refine G_hi hX hQ hcs 0 10 (fun ad adK => [.int p1, .int p2]) (fun ad adK => [.int (0 : Int32), .ref (ad 90)]) (fun ad adK => [(0, .ref (ad 0)), (1, .int p1), (2, .int p2), (3, .ref (ad 90))]) (fun z2 h2 => cX10_duty_ok (cx_l X) hQ.2.1 N p1 p2 μ z2 h2) ok_X10_duty lm_L_102 atC0.1 atC0.2 rfl rfl rfl (fun _ _ => rfl) (fun _ _ => Nat.le_of_ble_eq_true rfl) ⟨rfl, rfl, by decide, by decide⟩ ⟨by decide, by decide⟩ dL_duty_5 (fun X e μ qa he hX hQ hcs => ?_) (fun X r μ hX hQ hcs => ?_)
  · refine GE_if (fun he0 => ?_) (fun he0 => ?_)
    · subst he0
      refine GE_catch hX hQ he [] ⟨0, 10, 13, 19⟩ [⟨0, 10, 17, 25⟩] rfl (fun q hq => by cases hq) (by decide) (by decide) ll_19 ?_
      refine G_astore hX [(4, .ref qa), (0, .ref (cx_ad X 0)), (1, .int p1), (2, .int p2), (3, .ref (cx_ad X 90))] (by decide) rfl dL_duty_13 ?_
      refine G_iconst hX (1 : Int32) rfl dL_duty_15 ?_
      exact G_iretH hX hQ hcs ⟨by decide, by decide⟩ dL_duty_16
    refine GE_if (fun he1 => ?_) (fun he1 => ?_)
    · subst he1
      refine GE_catch hX hQ he [⟨0, 10, 13, 19⟩] ⟨0, 10, 17, 25⟩ [] rfl (fun q hq => by rcases List.mem_cons.mp hq with rfl | hq; exact ⟨by decide, 0, by decide, by decide, ll_19⟩; cases hq) (by decide) (by decide) ll_25 ?_
      refine G_astore hX [(4, .ref qa), (0, .ref (cx_ad X 0)), (1, .int p1), (2, .int p2), (3, .ref (cx_ad X 90))] (by decide) rfl dL_duty_17 ?_
      refine G_iconst hX (2 : Int32) rfl dL_duty_19 ?_
      exact G_iretH hX hQ hcs ⟨by decide, by decide⟩ dL_duty_20
    exact GE_none
  refine G_i2l hX dL_duty_8 ?_
  refine G_sL hX atC90 dL_duty_9 (fun μ => ?_)
  refine G_goto hX 21 (by decide) dL_duty_10 ?_
  refine G_iconst hX (0 : Int32) rfl dL_duty_21 ?_
  exact G_iretH hX hQ hcs ⟨by decide, by decide⟩ dL_duty_22
theorem cL_duty_ok (l : Launch) (hl0 : l.stackTraces = false) (N : Nat) (p1 : Int32) (p2 : Int32) (μ : Mem) (z : Int32 × Mem) (h : fL_duty N p1 p2 μ = some z) : Hi wC l yL_duty cL_duty 5 [(0, 10, 13, 19), (0, 10, 17, 25)] (rmx 8 196 2 12) 2 12 (fun ad adK => [.ref (ad 0), .int p1, .int p2, .ref (ad 90)]) μ z := Hi.of hl0 h (by decide +kernel) (fun _ _ => Nat.le_of_ble_eq_true rfl) (fun X hX hQ hcs => gL_duty_E hX hQ hcs N p1 p2 μ)
set_option maxHeartbeats 4000000 in
set_option maxRecDepth 100000 in
theorem gL_method_E {X : Ctx} {z : Int32 × Mem} (hX : Fx wC X cL_method 5 RL (some .int) (rmx 8 203 2 12)) (hQ : Qh wC X z [(0, 10, 13, 19), (0, 10, 17, 25)] 2 12) (hcs : cx_cells X = 0 ∧ cx_slots X = 0) (N : Nat) (p1 : Int32) (p2 : Int32) (μ : Mem) : G wC X z 0 [(0, .ref (cx_ad X 0)), (1, .int p1), (2, .int p2), (3, .ref (cx_ad X 90))] [] μ (fL_method N p1 p2 μ) := by
  unfold fL_method
  refine G_aload_n hX 3 rfl rfl dL_method_0 ?_
  refine G_iconst hX (0 : Int32) rfl dL_method_1 ?_
  refine G_aload_n hX 0 rfl rfl dL_method_2 ?_
  refine G_iload_n hX 1 rfl rfl dL_method_3 ?_
  refine G_iload_n hX 2 rfl rfl dL_method_4 ?_
  refine G_hi hX hQ hcs 0 10 (fun ad adK => [.int p1, .int p2]) (fun ad adK => [.int (0 : Int32), .ref (ad 90)]) (fun ad adK => [(0, .ref (ad 0)), (1, .int p1), (2, .int p2), (3, .ref (ad 90))]) (fun z2 h2 => cX10_method_ok (cx_l X) hQ.2.1 N p1 p2 μ z2 h2) ok_X10_method lm_L_105 atC0.1 atC0.2 rfl rfl rfl (fun _ _ => rfl) (fun _ _ => Nat.le_of_ble_eq_true rfl) ⟨rfl, rfl, by decide, by decide⟩ ⟨by decide, by decide⟩ dL_method_5 (fun X e μ qa he hX hQ hcs => ?_) (fun X r μ hX hQ hcs => ?_)
  · refine GE_if (fun he0 => ?_) (fun he0 => ?_)
    · subst he0
      refine GE_catch hX hQ he [] ⟨0, 10, 13, 19⟩ [⟨0, 10, 17, 25⟩] rfl (fun q hq => by cases hq) (by decide) (by decide) ll_19 ?_
      refine G_astore hX [(4, .ref qa), (0, .ref (cx_ad X 0)), (1, .int p1), (2, .int p2), (3, .ref (cx_ad X 90))] (by decide) rfl dL_method_13 ?_
      refine G_iconst hX (1 : Int32) rfl dL_method_15 ?_
      exact G_iretH hX hQ hcs ⟨by decide, by decide⟩ dL_method_16
    refine GE_if (fun he1 => ?_) (fun he1 => ?_)
    · subst he1
      refine GE_catch hX hQ he [⟨0, 10, 13, 19⟩] ⟨0, 10, 17, 25⟩ [] rfl (fun q hq => by rcases List.mem_cons.mp hq with rfl | hq; exact ⟨by decide, 0, by decide, by decide, ll_19⟩; cases hq) (by decide) (by decide) ll_25 ?_
      refine G_astore hX [(4, .ref qa), (0, .ref (cx_ad X 0)), (1, .int p1), (2, .int p2), (3, .ref (cx_ad X 90))] (by decide) rfl dL_method_17 ?_
      refine G_iconst hX (2 : Int32) rfl dL_method_19 ?_
      exact G_iretH hX hQ hcs ⟨by decide, by decide⟩ dL_method_20
    exact GE_none
  refine G_i2l hX dL_method_8 ?_
  refine G_sL hX atC90 dL_method_9 (fun μ => ?_)
  refine G_goto hX 21 (by decide) dL_method_10 ?_
  refine G_iconst hX (0 : Int32) rfl dL_method_21 ?_
  exact G_iretH hX hQ hcs ⟨by decide, by decide⟩ dL_method_22
theorem cL_method_ok (l : Launch) (hl0 : l.stackTraces = false) (N : Nat) (p1 : Int32) (p2 : Int32) (μ : Mem) (z : Int32 × Mem) (h : fL_method N p1 p2 μ = some z) : Hi wC l yL_method cL_method 5 [(0, 10, 13, 19), (0, 10, 17, 25)] (rmx 8 203 2 12) 2 12 (fun ad adK => [.ref (ad 0), .int p1, .int p2, .ref (ad 90)]) μ z := Hi.of hl0 h (by decide +kernel) (fun _ _ => Nat.le_of_ble_eq_true rfl) (fun X hX hQ hcs => gL_method_E hX hQ hcs N p1 p2 μ)
set_option maxHeartbeats 4000000 in
set_option maxRecDepth 100000 in
theorem gL_undertaking_E {X : Ctx} {z : Int32 × Mem} (hX : Fx wC X cL_undertaking 4 RL (some .int) (rmx 8 148 2 12)) (hQ : Qh wC X z [(0, 9, 12, 19), (0, 9, 15, 37)] 2 12) (hcs : cx_cells X = 0 ∧ cx_slots X = 0) (N : Nat) (p1 : Int32) (μ : Mem) : G wC X z 0 [(0, .ref (cx_ad X 0)), (1, .int p1), (2, .ref (cx_ad X 90))] [] μ (fL_undertaking N p1 μ) := by
  unfold fL_undertaking
  refine G_aload_n hX 2 rfl rfl dL_undertaking_0 ?_
  refine G_iconst hX (0 : Int32) rfl dL_undertaking_1 ?_
  refine G_aload_n hX 0 rfl rfl dL_undertaking_2 ?_
  refine G_iload_n hX 1 rfl rfl dL_undertaking_3 ?_
  refine G_hi hX hQ hcs 0 10 (fun ad adK => [.int p1]) (fun ad adK => [.int (0 : Int32), .ref (ad 90)]) (fun ad adK => [(0, .ref (ad 0)), (1, .int p1), (2, .ref (ad 90))]) (fun z2 h2 => cX10_undertaking_ok (cx_l X) hQ.2.1 N p1 μ z2 h2) ok_X10_undertaking lm_L_108 atC0.1 atC0.2 rfl rfl rfl (fun _ _ => rfl) (fun _ _ => Nat.le_of_ble_eq_true rfl) ⟨rfl, rfl, by decide, by decide⟩ ⟨by decide, by decide⟩ dL_undertaking_4 (fun X e μ qa he hX hQ hcs => ?_) (fun X r μ hX hQ hcs => ?_)
  · refine GE_if (fun he0 => ?_) (fun he0 => ?_)
    · subst he0
      refine GE_catch hX hQ he [] ⟨0, 9, 12, 19⟩ [⟨0, 9, 15, 37⟩] rfl (fun q hq => by cases hq) (by decide) (by decide) ll_19 ?_
      refine G_astore_n hX [(3, .ref qa), (0, .ref (cx_ad X 0)), (1, .int p1), (2, .ref (cx_ad X 90))] rfl (by decide) rfl dL_undertaking_12 ?_
      refine G_iconst hX (1 : Int32) rfl dL_undertaking_13 ?_
      exact G_iretH hX hQ hcs ⟨by decide, by decide⟩ dL_undertaking_14
    refine GE_if (fun he1 => ?_) (fun he1 => ?_)
    · subst he1
      refine GE_catch hX hQ he [⟨0, 9, 12, 19⟩] ⟨0, 9, 15, 37⟩ [] rfl (fun q hq => by rcases List.mem_cons.mp hq with rfl | hq; exact ⟨by decide, 0, by decide, by decide, ll_19⟩; cases hq) (by decide) (by decide) ll_37 ?_
      refine G_astore_n hX [(3, .ref qa), (0, .ref (cx_ad X 0)), (1, .int p1), (2, .ref (cx_ad X 90))] rfl (by decide) rfl dL_undertaking_15 ?_
      refine G_iconst hX (2 : Int32) rfl dL_undertaking_16 ?_
      exact G_iretH hX hQ hcs ⟨by decide, by decide⟩ dL_undertaking_17
    exact GE_none
  refine G_i2l hX dL_undertaking_7 ?_
  refine G_sL hX atC90 dL_undertaking_8 (fun μ => ?_)
  refine G_goto hX 18 (by decide) dL_undertaking_9 ?_
  refine G_iconst hX (0 : Int32) rfl dL_undertaking_18 ?_
  exact G_iretH hX hQ hcs ⟨by decide, by decide⟩ dL_undertaking_19
theorem cL_undertaking_ok (l : Launch) (hl0 : l.stackTraces = false) (N : Nat) (p1 : Int32) (μ : Mem) (z : Int32 × Mem) (h : fL_undertaking N p1 μ = some z) : Hi wC l yL_undertaking cL_undertaking 4 [(0, 9, 12, 19), (0, 9, 15, 37)] (rmx 8 148 2 12) 2 12 (fun ad adK => [.ref (ad 0), .int p1, .ref (ad 90)]) μ z := Hi.of hl0 h (by decide +kernel) (fun _ _ => Nat.le_of_ble_eq_true rfl) (fun X hX hQ hcs => gL_undertaking_E hX hQ hcs N p1 μ)
set_option maxHeartbeats 4000000 in
set_option maxRecDepth 100000 in
theorem gL_picked_E {X : Ctx} {z : Int32 × Mem} (hX : Fx wC X cL_picked 4 RL (some .int) (rmx 8 134 1 6)) (hQ : Qh wC X z [(0, 9, 12, 19)] 1 6) (hcs : cx_cells X = 0 ∧ cx_slots X = 0) (N : Nat) (p1 : Int32) (μ : Mem) : G wC X z 0 [(0, .ref (cx_ad X 0)), (1, .int p1), (2, .ref (cx_ad X 90))] [] μ (fL_picked N p1 μ) := by
  unfold fL_picked
  refine G_aload_n hX 2 rfl rfl dL_picked_0 ?_
  refine G_iconst hX (0 : Int32) rfl dL_picked_1 ?_
  refine G_aload_n hX 0 rfl rfl dL_picked_2 ?_
  refine G_iload_n hX 1 rfl rfl dL_picked_3 ?_
  refine G_hi hX hQ hcs 0 10 (fun ad adK => [.int p1]) (fun ad adK => [.int (0 : Int32), .ref (ad 90)]) (fun ad adK => [(0, .ref (ad 0)), (1, .int p1), (2, .ref (ad 90))]) (fun z2 h2 => cX10_picked_ok (cx_l X) hQ.2.1 N p1 μ z2 h2) ok_X10_picked lm_L_111 atC0.1 atC0.2 rfl rfl rfl (fun _ _ => rfl) (fun _ _ => Nat.le_of_ble_eq_true rfl) ⟨rfl, rfl, by decide, by decide⟩ ⟨by decide, by decide⟩ dL_picked_4 (fun X e μ qa he hX hQ hcs => ?_) (fun X r μ hX hQ hcs => ?_)
  · refine GE_if (fun he0 => ?_) (fun he0 => ?_)
    · subst he0
      refine GE_catch hX hQ he [] ⟨0, 9, 12, 19⟩ [] rfl (fun q hq => by cases hq) (by decide) (by decide) ll_19 ?_
      refine G_astore_n hX [(3, .ref qa), (0, .ref (cx_ad X 0)), (1, .int p1), (2, .ref (cx_ad X 90))] rfl (by decide) rfl dL_picked_12 ?_
      refine G_iconst hX (1 : Int32) rfl dL_picked_13 ?_
      exact G_iretH hX hQ hcs ⟨by decide, by decide⟩ dL_picked_14
    exact GE_none
  refine G_i2l hX dL_picked_7 ?_
  refine G_sL hX atC90 dL_picked_8 (fun μ => ?_)
  refine G_goto hX 15 (by decide) dL_picked_9 ?_
  refine G_iconst hX (0 : Int32) rfl dL_picked_15 ?_
  exact G_iretH hX hQ hcs ⟨by decide, by decide⟩ dL_picked_16
theorem cL_picked_ok (l : Launch) (hl0 : l.stackTraces = false) (N : Nat) (p1 : Int32) (μ : Mem) (z : Int32 × Mem) (h : fL_picked N p1 μ = some z) : Hi wC l yL_picked cL_picked 4 [(0, 9, 12, 19)] (rmx 8 134 1 6) 1 6 (fun ad adK => [.ref (ad 0), .int p1, .ref (ad 90)]) μ z := Hi.of hl0 h (by decide +kernel) (fun _ _ => Nat.le_of_ble_eq_true rfl) (fun X hX hQ hcs => gL_picked_E hX hQ hcs N p1 μ)
set_option maxHeartbeats 4000000 in
set_option maxRecDepth 100000 in
theorem gL_collected_E {X : Ctx} {z : Int32 × Mem} (hX : Fx wC X cL_collected 5 RL (some .int) (rmx 9 196 2 12)) (hQ : Qh wC X z [(0, 9, 12, 19), (0, 9, 16, 13)] 2 12) (hcs : cx_cells X = 0 ∧ cx_slots X = 0) (N : Nat) (p1 : Int32) (p2 : Int32) (μ : Mem) : G wC X z 0 [(0, .ref (cx_ad X 0)), (1, .int p1), (2, .int p2), (3, .ref (cx_ad X 90))] [] μ (fL_collected N p1 p2 μ) := by
  unfold fL_collected
  refine G_aload_n hX 3 rfl rfl dL_collected_0 ?_
  refine G_iconst hX (0 : Int32) rfl dL_collected_1 ?_
  refine G_aload_n hX 0 rfl rfl dL_collected_2 ?_
  refine G_iload_n hX 1 rfl rfl dL_collected_3 ?_
  refine G_iload_n hX 2 rfl rfl dL_collected_4 ?_
  refine G_hl hX hQ hcs 0 10 (fun ad adK => [.int p1, .int p2]) (fun ad adK => [.int (0 : Int32), .ref (ad 90)]) (fun ad adK => [(0, .ref (ad 0)), (1, .int p1), (2, .int p2), (3, .ref (ad 90))]) (fun z2 h2 => cX10_collected_ok (cx_l X) hQ.2.1 N p1 p2 μ z2 h2) ok_X10_collected lm_L_114 atC0.1 atC0.2 rfl rfl rfl (fun _ _ => rfl) (fun _ _ => Nat.le_of_ble_eq_true rfl) ⟨rfl, rfl, by decide, by decide⟩ ⟨by decide, by decide⟩ dL_collected_5 (fun X e μ qa he hX hQ hcs => ?_) (fun X r μ hX hQ hcs => ?_)
  · refine GE_if (fun he0 => ?_) (fun he0 => ?_)
    · subst he0
      refine GE_catch hX hQ he [] ⟨0, 9, 12, 19⟩ [⟨0, 9, 16, 13⟩] rfl (fun q hq => by cases hq) (by decide) (by decide) ll_19 ?_
      refine G_astore hX [(4, .ref qa), (0, .ref (cx_ad X 0)), (1, .int p1), (2, .int p2), (3, .ref (cx_ad X 90))] (by decide) rfl dL_collected_12 ?_
      refine G_iconst hX (1 : Int32) rfl dL_collected_14 ?_
      exact G_iretH hX hQ hcs ⟨by decide, by decide⟩ dL_collected_15
    refine GE_if (fun he1 => ?_) (fun he1 => ?_)
    · subst he1
      refine GE_catch hX hQ he [⟨0, 9, 12, 19⟩] ⟨0, 9, 16, 13⟩ [] rfl (fun q hq => by rcases List.mem_cons.mp hq with rfl | hq; exact ⟨by decide, 0, by decide, by decide, ll_19⟩; cases hq) (by decide) (by decide) ll_13 ?_
      refine G_astore hX [(4, .ref qa), (0, .ref (cx_ad X 0)), (1, .int p1), (2, .int p2), (3, .ref (cx_ad X 90))] (by decide) rfl dL_collected_16 ?_
      refine G_iconst hX (2 : Int32) rfl dL_collected_18 ?_
      exact G_iretH hX hQ hcs ⟨by decide, by decide⟩ dL_collected_19
    exact GE_none
  refine G_sL hX atC90 dL_collected_8 (fun μ => ?_)
  refine G_goto hX 20 (by decide) dL_collected_9 ?_
  refine G_iconst hX (0 : Int32) rfl dL_collected_20 ?_
  exact G_iretH hX hQ hcs ⟨by decide, by decide⟩ dL_collected_21
theorem cL_collected_ok (l : Launch) (hl0 : l.stackTraces = false) (N : Nat) (p1 : Int32) (p2 : Int32) (μ : Mem) (z : Int32 × Mem) (h : fL_collected N p1 p2 μ = some z) : Hi wC l yL_collected cL_collected 5 [(0, 9, 12, 19), (0, 9, 16, 13)] (rmx 9 196 2 12) 2 12 (fun ad adK => [.ref (ad 0), .int p1, .int p2, .ref (ad 90)]) μ z := Hi.of hl0 h (by decide +kernel) (fun _ _ => Nat.le_of_ble_eq_true rfl) (fun X hX hQ hcs => gL_collected_E hX hQ hcs N p1 p2 μ)
set_option maxHeartbeats 4000000 in
set_option maxRecDepth 100000 in
theorem gL_back_E {X : Ctx} {z : Int32 × Mem} (hX : Fx wC X cL_back 4 RL (some .int) (rmx 8 197 1 6)) (hQ : Qh wC X z [(0, 8, 11, 19)] 1 6) (hcs : cx_cells X = 0 ∧ cx_slots X = 0) (N : Nat) (p1 : Int32) (μ : Mem) : G wC X z 0 [(0, .ref (cx_ad X 0)), (1, .int p1), (2, .ref (cx_ad X 90))] [] μ (fL_back N p1 μ) := by
  unfold fL_back
  refine G_aload_n hX 2 rfl rfl dL_back_0 ?_
  refine G_iconst hX (0 : Int32) rfl dL_back_1 ?_
  refine G_aload_n hX 0 rfl rfl dL_back_2 ?_
  refine G_iload_n hX 1 rfl rfl dL_back_3 ?_
  refine G_hl hX hQ hcs 0 10 (fun ad adK => [.int p1]) (fun ad adK => [.int (0 : Int32), .ref (ad 90)]) (fun ad adK => [(0, .ref (ad 0)), (1, .int p1), (2, .ref (ad 90))]) (fun z2 h2 => cX10_back_ok (cx_l X) hQ.2.1 N p1 μ z2 h2) ok_X10_back lm_L_118 atC0.1 atC0.2 rfl rfl rfl (fun _ _ => rfl) (fun _ _ => Nat.le_of_ble_eq_true rfl) ⟨rfl, rfl, by decide, by decide⟩ ⟨by decide, by decide⟩ dL_back_4 (fun X e μ qa he hX hQ hcs => ?_) (fun X r μ hX hQ hcs => ?_)
  · refine GE_if (fun he0 => ?_) (fun he0 => ?_)
    · subst he0
      refine GE_catch hX hQ he [] ⟨0, 8, 11, 19⟩ [] rfl (fun q hq => by cases hq) (by decide) (by decide) ll_19 ?_
      refine G_astore_n hX [(3, .ref qa), (0, .ref (cx_ad X 0)), (1, .int p1), (2, .ref (cx_ad X 90))] rfl (by decide) rfl dL_back_11 ?_
      refine G_iconst hX (1 : Int32) rfl dL_back_12 ?_
      exact G_iretH hX hQ hcs ⟨by decide, by decide⟩ dL_back_13
    exact GE_none
  refine G_sL hX atC90 dL_back_7 (fun μ => ?_)
  refine G_goto hX 14 (by decide) dL_back_8 ?_
  refine G_iconst hX (0 : Int32) rfl dL_back_14 ?_
  exact G_iretH hX hQ hcs ⟨by decide, by decide⟩ dL_back_15
theorem cL_back_ok (l : Launch) (hl0 : l.stackTraces = false) (N : Nat) (p1 : Int32) (μ : Mem) (z : Int32 × Mem) (h : fL_back N p1 μ = some z) : Hi wC l yL_back cL_back 4 [(0, 8, 11, 19)] (rmx 8 197 1 6) 1 6 (fun ad adK => [.ref (ad 0), .int p1, .ref (ad 90)]) μ z := Hi.of hl0 h (by decide +kernel) (fun _ _ => Nat.le_of_ble_eq_true rfl) (fun X hX hQ hcs => gL_back_E hX hQ hcs N p1 μ)
set_option maxHeartbeats 4000000 in
set_option maxRecDepth 100000 in
theorem gL_weight_E {X : Ctx} {z : Int32 × Mem} (hX : Fx wC X cL_weight 4 RL (some .int) (rmx 8 194 1 6)) (hQ : Qh wC X z [(0, 9, 12, 19)] 1 6) (hcs : cx_cells X = 0 ∧ cx_slots X = 0) (N : Nat) (p1 : Int32) (μ : Mem) : G wC X z 0 [(0, .ref (cx_ad X 0)), (1, .int p1), (2, .ref (cx_ad X 90))] [] μ (fL_weight N p1 μ) := by
  unfold fL_weight
  refine G_aload_n hX 2 rfl rfl dL_weight_0 ?_
  refine G_iconst hX (0 : Int32) rfl dL_weight_1 ?_
  refine G_aload_n hX 0 rfl rfl dL_weight_2 ?_
  refine G_iload_n hX 1 rfl rfl dL_weight_3 ?_
  refine G_hi hX hQ hcs 0 10 (fun ad adK => [.int p1]) (fun ad adK => [.int (0 : Int32), .ref (ad 90)]) (fun ad adK => [(0, .ref (ad 0)), (1, .int p1), (2, .ref (ad 90))]) (fun z2 h2 => cX10_weight_ok (cx_l X) hQ.2.1 N p1 μ z2 h2) ok_X10_weight lm_L_121 atC0.1 atC0.2 rfl rfl rfl (fun _ _ => rfl) (fun _ _ => Nat.le_of_ble_eq_true rfl) ⟨rfl, rfl, by decide, by decide⟩ ⟨by decide, by decide⟩ dL_weight_4 (fun X e μ qa he hX hQ hcs => ?_) (fun X r μ hX hQ hcs => ?_)
  · refine GE_if (fun he0 => ?_) (fun he0 => ?_)
    · subst he0
      refine GE_catch hX hQ he [] ⟨0, 9, 12, 19⟩ [] rfl (fun q hq => by cases hq) (by decide) (by decide) ll_19 ?_
      refine G_astore_n hX [(3, .ref qa), (0, .ref (cx_ad X 0)), (1, .int p1), (2, .ref (cx_ad X 90))] rfl (by decide) rfl dL_weight_12 ?_
      refine G_iconst hX (1 : Int32) rfl dL_weight_13 ?_
      exact G_iretH hX hQ hcs ⟨by decide, by decide⟩ dL_weight_14
    exact GE_none
  refine G_i2l hX dL_weight_7 ?_
  refine G_sL hX atC90 dL_weight_8 (fun μ => ?_)
  refine G_goto hX 15 (by decide) dL_weight_9 ?_
  refine G_iconst hX (0 : Int32) rfl dL_weight_15 ?_
  exact G_iretH hX hQ hcs ⟨by decide, by decide⟩ dL_weight_16
theorem cL_weight_ok (l : Launch) (hl0 : l.stackTraces = false) (N : Nat) (p1 : Int32) (μ : Mem) (z : Int32 × Mem) (h : fL_weight N p1 μ = some z) : Hi wC l yL_weight cL_weight 4 [(0, 9, 12, 19)] (rmx 8 194 1 6) 1 6 (fun ad adK => [.ref (ad 0), .int p1, .ref (ad 90)]) μ z := Hi.of hl0 h (by decide +kernel) (fun _ _ => Nat.le_of_ble_eq_true rfl) (fun X hX hQ hcs => gL_weight_E hX hQ hcs N p1 μ)
set_option maxHeartbeats 4000000 in
set_option maxRecDepth 100000 in
theorem gL_heaviest_E {X : Ctx} {z : Int32 × Mem} (hX : Fx wC X cL_heaviest 5 RL (some .int) (rmx 8 199 1 6)) (hQ : Qh wC X z [(0, 10, 13, 19)] 1 6) (hcs : cx_cells X = 0 ∧ cx_slots X = 0) (N : Nat) (p1 : Int32) (p2 : Int32) (μ : Mem) : G wC X z 0 [(0, .ref (cx_ad X 0)), (1, .int p1), (2, .int p2), (3, .ref (cx_ad X 90))] [] μ (fL_heaviest N p1 p2 μ) := by
  unfold fL_heaviest
  refine G_aload_n hX 3 rfl rfl dL_heaviest_0 ?_
  refine G_iconst hX (0 : Int32) rfl dL_heaviest_1 ?_
  refine G_aload_n hX 0 rfl rfl dL_heaviest_2 ?_
  refine G_iload_n hX 1 rfl rfl dL_heaviest_3 ?_
  refine G_iload_n hX 2 rfl rfl dL_heaviest_4 ?_
  refine G_hi hX hQ hcs 0 10 (fun ad adK => [.int p1, .int p2]) (fun ad adK => [.int (0 : Int32), .ref (ad 90)]) (fun ad adK => [(0, .ref (ad 0)), (1, .int p1), (2, .int p2), (3, .ref (ad 90))]) (fun z2 h2 => cX10_heaviest_ok (cx_l X) hQ.2.1 N p1 p2 μ z2 h2) ok_X10_heaviest lm_L_124 atC0.1 atC0.2 rfl rfl rfl (fun _ _ => rfl) (fun _ _ => Nat.le_of_ble_eq_true rfl) ⟨rfl, rfl, by decide, by decide⟩ ⟨by decide, by decide⟩ dL_heaviest_5 (fun X e μ qa he hX hQ hcs => ?_) (fun X r μ hX hQ hcs => ?_)
  · refine GE_if (fun he0 => ?_) (fun he0 => ?_)
    · subst he0
      refine GE_catch hX hQ he [] ⟨0, 10, 13, 19⟩ [] rfl (fun q hq => by cases hq) (by decide) (by decide) ll_19 ?_
      refine G_astore hX [(4, .ref qa), (0, .ref (cx_ad X 0)), (1, .int p1), (2, .int p2), (3, .ref (cx_ad X 90))] (by decide) rfl dL_heaviest_13 ?_
      refine G_iconst hX (1 : Int32) rfl dL_heaviest_15 ?_
      exact G_iretH hX hQ hcs ⟨by decide, by decide⟩ dL_heaviest_16
    exact GE_none
  refine G_i2l hX dL_heaviest_8 ?_
  refine G_sL hX atC90 dL_heaviest_9 (fun μ => ?_)
  refine G_goto hX 17 (by decide) dL_heaviest_10 ?_
  refine G_iconst hX (0 : Int32) rfl dL_heaviest_17 ?_
  exact G_iretH hX hQ hcs ⟨by decide, by decide⟩ dL_heaviest_18
theorem cL_heaviest_ok (l : Launch) (hl0 : l.stackTraces = false) (N : Nat) (p1 : Int32) (p2 : Int32) (μ : Mem) (z : Int32 × Mem) (h : fL_heaviest N p1 p2 μ = some z) : Hi wC l yL_heaviest cL_heaviest 5 [(0, 10, 13, 19)] (rmx 8 199 1 6) 1 6 (fun ad adK => [.ref (ad 0), .int p1, .int p2, .ref (ad 90)]) μ z := Hi.of hl0 h (by decide +kernel) (fun _ _ => Nat.le_of_ble_eq_true rfl) (fun X hX hQ hcs => gL_heaviest_E hX hQ hcs N p1 p2 μ)
set_option maxHeartbeats 4000000 in
set_option maxRecDepth 100000 in
theorem gL_write_E {X : Ctx} {z : Int32 × Mem} (hX : Fx wC X cL_write 4 RL (some .int) (rmx 8 196 1 6)) (hQ : Qh wC X z [(0, 9, 12, 19)] 1 6) (hcs : cx_cells X = 0 ∧ cx_slots X = 0) (N : Nat) (p1 : Int32) (μ : Mem) : G wC X z 0 [(0, .ref (cx_ad X 0)), (1, .int p1), (2, .ref (cx_ad X 90))] [] μ (fL_write N p1 μ) := by
  unfold fL_write
  refine G_aload_n hX 2 rfl rfl dL_write_0 ?_
  refine G_iconst hX (0 : Int32) rfl dL_write_1 ?_
  refine G_aload_n hX 0 rfl rfl dL_write_2 ?_
  refine G_iload_n hX 1 rfl rfl dL_write_3 ?_
  refine G_hi hX hQ hcs 0 10 (fun ad adK => [.int p1]) (fun ad adK => [.int (0 : Int32), .ref (ad 90)]) (fun ad adK => [(0, .ref (ad 0)), (1, .int p1), (2, .ref (ad 90))]) (fun z2 h2 => cX10_write_ok (cx_l X) hQ.2.1 N p1 μ z2 h2) ok_X10_write lm_L_128 atC0.1 atC0.2 rfl rfl rfl (fun _ _ => rfl) (fun _ _ => Nat.le_of_ble_eq_true rfl) ⟨rfl, rfl, by decide, by decide⟩ ⟨by decide, by decide⟩ dL_write_4 (fun X e μ qa he hX hQ hcs => ?_) (fun X r μ hX hQ hcs => ?_)
  · refine GE_if (fun he0 => ?_) (fun he0 => ?_)
    · subst he0
      refine GE_catch hX hQ he [] ⟨0, 9, 12, 19⟩ [] rfl (fun q hq => by cases hq) (by decide) (by decide) ll_19 ?_
      refine G_astore_n hX [(3, .ref qa), (0, .ref (cx_ad X 0)), (1, .int p1), (2, .ref (cx_ad X 90))] rfl (by decide) rfl dL_write_12 ?_
      refine G_iconst hX (1 : Int32) rfl dL_write_13 ?_
      exact G_iretH hX hQ hcs ⟨by decide, by decide⟩ dL_write_14
    exact GE_none
  refine G_i2l hX dL_write_7 ?_
  refine G_sL hX atC90 dL_write_8 (fun μ => ?_)
  refine G_goto hX 15 (by decide) dL_write_9 ?_
  refine G_iconst hX (0 : Int32) rfl dL_write_15 ?_
  exact G_iretH hX hQ hcs ⟨by decide, by decide⟩ dL_write_16
theorem cL_write_ok (l : Launch) (hl0 : l.stackTraces = false) (N : Nat) (p1 : Int32) (μ : Mem) (z : Int32 × Mem) (h : fL_write N p1 μ = some z) : Hi wC l yL_write cL_write 4 [(0, 9, 12, 19)] (rmx 8 196 1 6) 1 6 (fun ad adK => [.ref (ad 0), .int p1, .ref (ad 90)]) μ z := Hi.of hl0 h (by decide +kernel) (fun _ _ => Nat.le_of_ble_eq_true rfl) (fun X hX hQ hcs => gL_write_E hX hQ hcs N p1 μ)
