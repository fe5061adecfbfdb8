/-! ===== DutyCase$Reader.append(I)V ===== -/
set_option maxHeartbeats 4000000 in
set_option maxRecDepth 100000 in
theorem gX5_append_3 {X : Ctx} {z : Unit × Mem} (hX : Fx wC X cX5_append 3 RX5 none (rmo 0 0)) (hQ : Qx_v wC X z) (hcs : cx_cells X = 0 ∧ cx_slots X = 0) (N : Nat) : ∀ (n : Nat) (v1 : Int32) (v2 : Int32) (μ : Mem), G wC X z 3 [(0, .ref (cx_ad X 1)), (1, .int v1), (2, .int v2)] [] μ (fX5_append_3 N n v1 v2 μ) := by
  intro n
  induction n with
  | zero =>
    intro v1 v2 μ
    exact G_none
  | succ n ih =>
    intro v1 v2 μ
    unfold fX5_append_3
    refine G_iload_n hX 2 rfl rfl dX5_append_3 ?_
    refine G_if_lt hX 46 (by decide) dX5_append_4 ?_ ?_
    · exact G_vret hX hQ dX5_append_46
    · refine G_aload_n hX 0 rfl rfl dX5_append_7 ?_
      refine gf_X5_23_C1 hX dX5_append_8 ?_
      refine G_nmi (fun x1 => ?_)
      refine G_sipush hX (400 : Int32) rfl dX5_append_11 ?_
      refine G_icmp_ge hX 40 (by decide) dX5_append_14 ?_ ?_
      · refine G_iincN hX 2 (fun x2 => [(2, .int x2), (0, .ref (cx_ad X 1)), (1, .int v1)]) rfl rfl (by decide) (fun _ => rfl) dX5_append_40 (fun x2 => ?_)
        refine G_goto hX 3 (by decide) dX5_append_43 ?_
        exact G_sub [1, 2, 0] rfl (ih v1 x2 μ)
      · refine G_aload_n hX 0 rfl rfl dX5_append_17 ?_
        refine gf_X5_9_C1 hX dX5_append_18 ?_
        refine G_aload_n hX 0 rfl rfl dX5_append_21 ?_
        refine gf_X5_23_C1 hX dX5_append_22 ?_
        refine G_nmi (fun x3 => ?_)
        refine G_iload_n hX 1 rfl rfl dX5_append_25 ?_
        refine G_iload_n hX 2 rfl rfl dX5_append_26 ?_
        refine G_ishr hX dX5_append_27 ?_
        refine G_i2b hX dX5_append_28 ?_
        refine G_sB hX atC7 dX5_append_29 (fun μ => ?_)
        refine G_aload_n hX 0 rfl rfl dX5_append_30 ?_
        refine G_dup hX rfl dX5_append_31 ?_
        refine gf_X5_23_C1 hX dX5_append_32 ?_
        refine G_nmi (fun x4 => ?_)
        refine G_iconst hX (1 : Int32) rfl dX5_append_35 ?_
        refine G_iadd hX dX5_append_36 ?_
        refine G_nmi (fun x5 => ?_)
        refine pf_X5_23_C1 hX dX5_append_37 (fun μ => ?_)
        refine G_iincN hX 2 (fun x6 => [(2, .int x6), (0, .ref (cx_ad X 1)), (1, .int v1)]) rfl rfl (by decide) (fun _ => rfl) dX5_append_40 (fun x6 => ?_)
        refine G_goto hX 3 (by decide) dX5_append_43 ?_
        exact G_sub [1, 2, 0] rfl (ih v1 x6 μ)
set_option maxHeartbeats 4000000 in
set_option maxRecDepth 100000 in
theorem gX5_append_E {X : Ctx} {z : Unit × Mem} (hX : Fx wC X cX5_append 3 RX5 none (rmo 0 0)) (hQ : Qx_v wC X z) (hcs : cx_cells X = 0 ∧ cx_slots X = 0) (N : Nat) (p0 : Int32) (μ : Mem) : G wC X z 0 [(0, .ref (cx_ad X 1)), (1, .int p0)] [] μ (fX5_append N p0 μ) := by
  unfold fX5_append
  refine G_bipush hX (24 : Int32) rfl dX5_append_0 ?_
  refine G_istore_n hX [(2, .int (24 : Int32)), (0, .ref (cx_ad X 1)), (1, .int p0)] rfl (by decide) rfl dX5_append_2 ?_
  exact G_sub [1, 2, 0] rfl (gX5_append_3 hX hQ hcs N N p0 (24 : Int32) μ)
theorem cX5_append_ok (l : Launch) (N : Nat) (p0 : Int32) (μ : Mem) (z : Unit × Mem) (h : fX5_append N p0 μ = some z) : Mv wC l yX5_append cX5_append 3 (rmo 0 0) (fun ad adK => [.ref (ad 1), .int p0]) μ z := Mv.of h (by decide +kernel) (fun _ _ => Nat.le_of_ble_eq_true rfl) (fun X hX hQ hl hcs => gX5_append_E hX hQ hcs N p0 μ)
/-! ===== DutyCase$Reader.spells(Ljava/lang/String;)Z ===== -/
set_option maxHeartbeats 4000000 in
set_option maxRecDepth 100000 in
theorem gX5_spells_20 {X : Ctx} {z : Int32 × Mem} (hX : Fx wC X cX5_spells 3 RX5 (some .boolean) (rmo 4 85)) (hQ : Qx_i wC X z) (hcs : cx_cells X = 0 ∧ cx_slots X = 0) (N : Nat) : ∀ (n : Nat) (b0 : Nat) (v2 : Int32) (hb0 : kT b0) (μ : Mem), G wC X z 20 [(0, .ref (cx_ad X 1)), (1, .ref (cx_adK X b0)), (2, .int v2)] [] μ (fX5_spells_20 N n b0 v2 μ) := by
  intro n
  induction n with
  | zero =>
    intro b0 v2 hb0 μ
    exact G_none
  | succ n ih =>
    intro b0 v2 hb0 μ
    unfold fX5_spells_20
    refine G_iload_n hX 2 rfl rfl dX5_spells_20 ?_
    refine G_aload_n hX 1 rfl rfl dX5_spells_21 ?_
    refine G_cTi hX b0 (fun ad adK => []) [.int v2] (fun z2 h2 => cJ0_length_ok wC (cx_l X) b0 μ z2 h2) ok_J0_length_8abf5 lm_X5_199 hb0 rfl rfl (fun _ _ => rfl) (Nat.le_of_ble_eq_true rfl) ⟨rfl, rfl, by decide, by decide⟩ (cs0 hcs) dX5_spells_22 (fun r4 μ => ?_)
    refine G_icmp_ge hX 55 (by decide) dX5_spells_25 ?_ ?_
    · refine G_iconst hX (1 : Int32) rfl dX5_spells_55 ?_
      exact G_zret hX hQ rfl dX5_spells_56
    · refine G_aload_n hX 0 rfl rfl dX5_spells_28 ?_
      refine gf_X5_9_C1 hX dX5_spells_29 ?_
      refine G_aload_n hX 0 rfl rfl dX5_spells_32 ?_
      refine gf_X5_159_C1 hX dX5_spells_33 ?_
      refine G_nmi (fun x5 => ?_)
      refine G_iload_n hX 2 rfl rfl dX5_spells_36 ?_
      refine G_iadd hX dX5_spells_37 ?_
      refine G_aB hX atC7 dX5_spells_38 (fun x6 => ?_)
      refine G_aload_n hX 1 rfl rfl dX5_spells_39 ?_
      refine G_iload_n hX 2 rfl rfl dX5_spells_40 ?_
      refine G_cTi hX b0 (fun ad adK => [.int v2]) [.int x6] (fun z2 h2 => cJ0_charAt_ok wC (cx_l X) b0 v2 μ z2 h2) ok_J0_charAt_5068e lm_X5_203 hb0 rfl rfl (fun _ _ => rfl) (Nat.le_of_ble_eq_true rfl) ⟨rfl, rfl, by decide, by decide⟩ (cs0 hcs) dX5_spells_41 (fun r7 μ => ?_)
      refine G_icmp_eq hX 49 (by decide) dX5_spells_44 ?_ ?_
      · refine G_iincN hX 2 (fun x8 => [(2, .int x8), (0, .ref (cx_ad X 1)), (1, .ref (cx_adK X b0))]) rfl rfl (by decide) (fun _ => rfl) dX5_spells_49 (fun x8 => ?_)
        refine G_goto hX 20 (by decide) dX5_spells_52 ?_
        exact G_sub [1, 2, 0] rfl (ih b0 x8 hb0 μ)
      · refine G_iconst hX (0 : Int32) rfl dX5_spells_47 ?_
        exact G_zret hX hQ rfl dX5_spells_48
set_option maxHeartbeats 4000000 in
set_option maxRecDepth 100000 in
theorem gX5_spells_E {X : Ctx} {z : Int32 × Mem} (hX : Fx wC X cX5_spells 3 RX5 (some .boolean) (rmo 4 85)) (hQ : Qx_i wC X z) (hcs : cx_cells X = 0 ∧ cx_slots X = 0) (N : Nat) (p0 : Nat) (μ : Mem) : G wC X z 0 [(0, .ref (cx_ad X 1)), (1, .ref (cx_adK X p0))] [] μ (fX5_spells N p0 μ) := by
  unfold fX5_spells
  refine G_guard (fun hp0 => ?_)
  refine G_aload_n hX 0 rfl rfl dX5_spells_0 ?_
  refine gf_X5_31_C1 hX dX5_spells_1 ?_
  refine G_nmi (fun x1 => ?_)
  refine G_aload_n hX 0 rfl rfl dX5_spells_4 ?_
  refine gf_X5_159_C1 hX dX5_spells_5 ?_
  refine G_nmi (fun x2 => ?_)
  refine G_isub hX dX5_spells_8 ?_
  refine G_aload_n hX 1 rfl rfl dX5_spells_9 ?_
  refine G_cTi hX p0 (fun ad adK => []) [.int (x1 - x2)] (fun z2 h2 => cJ0_length_ok wC (cx_l X) p0 μ z2 h2) ok_J0_length_8abf5 lm_X5_199 hp0 rfl rfl (fun _ _ => rfl) (Nat.le_of_ble_eq_true rfl) ⟨rfl, rfl, by decide, by decide⟩ (cs0 hcs) dX5_spells_10 (fun r3 μ => ?_)
  refine G_icmp_eq hX 18 (by decide) dX5_spells_13 ?_ ?_
  · refine G_iconst hX (0 : Int32) rfl dX5_spells_18 ?_
    refine G_istore_n hX [(2, .int (0 : Int32)), (0, .ref (cx_ad X 1)), (1, .ref (cx_adK X p0))] rfl (by decide) rfl dX5_spells_19 ?_
    exact G_sub [1, 2, 0] rfl (gX5_spells_20 hX hQ hcs N N p0 (0 : Int32) hp0 μ)
  · refine G_iconst hX (0 : Int32) rfl dX5_spells_16 ?_
    exact G_zret hX hQ rfl dX5_spells_17
theorem cX5_spells_ok (l : Launch) (N : Nat) (p0 : Nat) (μ : Mem) (z : Int32 × Mem) (h : fX5_spells N p0 μ = some z) : Mi wC l yX5_spells cX5_spells 3 .boolean (rmo 4 85) (fun ad adK => [.ref (ad 1), .ref (adK p0)]) μ z := Mi.of h (by decide +kernel) (fun _ _ => Nat.le_of_ble_eq_true rfl) (fun X hX hQ hl hcs => gX5_spells_E hX hQ hcs N p0 μ)
/-! ===== DutyCase$Reader.keyword()I ===== -/
set_option maxHeartbeats 4000000 in
set_option maxRecDepth 100000 in
theorem gX5_keyword_E {X : Ctx} {z : Int32 × Mem} (hX : Fx wC X cX5_keyword 1 RX5 (some .int) (rmo 5 107)) (hQ : Qx_i wC X z) (hcs : cx_cells X = 0 ∧ cx_slots X = 0) (N : Nat) (μ : Mem) : G wC X z 0 [(0, .ref (cx_ad X 1))] [] μ (fX5_keyword N μ) := by
  unfold fX5_keyword
  refine G_aload_n hX 0 rfl rfl dX5_keyword_0 ?_
  refine gf_X5_37_C1 hX dX5_keyword_1 ?_
  refine G_nmi (fun x1 => ?_)
  refine G_sipush hX (256 : Int32) rfl dX5_keyword_4 ?_
  refine G_icmp_eq hX 12 (by decide) dX5_keyword_7 ?_ ?_
  · refine G_aload_n hX 0 rfl rfl dX5_keyword_12 ?_
    refine G_ldcS hX (tx := "model") 0 (by decide +kernel) dX5_keyword_13 ?_
    refine G_cVi hX 1 5 (fun ad adK => [.ref (adK 0)]) [] (fun z2 h2 => cX5_spells_ok (cx_l X) N 0 μ z2 h2) ok_X5_spells lm_X5_177 atC1.1 atC1.2 rfl rfl (fun _ _ => rfl) (Nat.le_of_ble_eq_true rfl) ⟨rfl, rfl, by decide, by decide⟩ (cs0 hcs) dX5_keyword_15 (fun r2 μ => ?_)
    refine G_if_eq hX 23 (by decide) dX5_keyword_18 ?_ ?_
    · refine G_aload_n hX 0 rfl rfl dX5_keyword_23 ?_
      refine G_ldcS hX (tx := "firm") 1 (by decide +kernel) dX5_keyword_24 ?_
      refine G_cVi hX 1 5 (fun ad adK => [.ref (adK 1)]) [] (fun z2 h2 => cX5_spells_ok (cx_l X) N 1 μ z2 h2) ok_X5_spells lm_X5_177 atC1.1 atC1.2 rfl rfl (fun _ _ => rfl) (Nat.le_of_ble_eq_true rfl) ⟨rfl, rfl, by decide, by decide⟩ (cs0 hcs) dX5_keyword_26 (fun r3 μ => ?_)
      refine G_if_eq hX 34 (by decide) dX5_keyword_29 ?_ ?_
      · refine G_aload_n hX 0 rfl rfl dX5_keyword_34 ?_
        refine G_ldcS hX (tx := "silent") 2 (by decide +kernel) dX5_keyword_35 ?_
        refine G_cVi hX 1 5 (fun ad adK => [.ref (adK 2)]) [] (fun z2 h2 => cX5_spells_ok (cx_l X) N 2 μ z2 h2) ok_X5_spells lm_X5_177 atC1.1 atC1.2 rfl rfl (fun _ _ => rfl) (Nat.le_of_ble_eq_true rfl) ⟨rfl, rfl, by decide, by decide⟩ (cs0 hcs) dX5_keyword_37 (fun r4 μ => ?_)
        refine G_if_eq hX 45 (by decide) dX5_keyword_40 ?_ ?_
        · refine G_aload_n hX 0 rfl rfl dX5_keyword_45 ?_
          refine G_ldcS hX (tx := "cost") 3 (by decide +kernel) dX5_keyword_46 ?_
          refine G_cVi hX 1 5 (fun ad adK => [.ref (adK 3)]) [] (fun z2 h2 => cX5_spells_ok (cx_l X) N 3 μ z2 h2) ok_X5_spells lm_X5_177 atC1.1 atC1.2 rfl rfl (fun _ _ => rfl) (Nat.le_of_ble_eq_true rfl) ⟨rfl, rfl, by decide, by decide⟩ (cs0 hcs) dX5_keyword_48 (fun r5 μ => ?_)
          refine G_if_eq hX 56 (by decide) dX5_keyword_51 ?_ ?_
          · refine G_aload_n hX 0 rfl rfl dX5_keyword_56 ?_
            refine G_ldcS hX (tx := "adjust") 4 (by decide +kernel) dX5_keyword_57 ?_
            refine G_cVi hX 1 5 (fun ad adK => [.ref (adK 4)]) [] (fun z2 h2 => cX5_spells_ok (cx_l X) N 4 μ z2 h2) ok_X5_spells lm_X5_177 atC1.1 atC1.2 rfl rfl (fun _ _ => rfl) (Nat.le_of_ble_eq_true rfl) ⟨rfl, rfl, by decide, by decide⟩ (cs0 hcs) dX5_keyword_59 (fun r6 μ => ?_)
            refine G_if_eq hX 67 (by decide) dX5_keyword_62 ?_ ?_
            · refine G_aload_n hX 0 rfl rfl dX5_keyword_67 ?_
              refine G_ldcS hX (tx := "sell") 5 (by decide +kernel) dX5_keyword_68 ?_
              refine G_cVi hX 1 5 (fun ad adK => [.ref (adK 5)]) [] (fun z2 h2 => cX5_spells_ok (cx_l X) N 5 μ z2 h2) ok_X5_spells lm_X5_177 atC1.1 atC1.2 rfl rfl (fun _ _ => rfl) (Nat.le_of_ble_eq_true rfl) ⟨rfl, rfl, by decide, by decide⟩ (cs0 hcs) dX5_keyword_70 (fun r7 μ => ?_)
              refine G_if_eq hX 78 (by decide) dX5_keyword_73 ?_ ?_
              · refine G_aload_n hX 0 rfl rfl dX5_keyword_78 ?_
                refine G_ldcS hX (tx := "profit") 6 (by decide +kernel) dX5_keyword_79 ?_
                refine G_cVi hX 1 5 (fun ad adK => [.ref (adK 6)]) [] (fun z2 h2 => cX5_spells_ok (cx_l X) N 6 μ z2 h2) ok_X5_spells lm_X5_177 atC1.1 atC1.2 rfl rfl (fun _ _ => rfl) (Nat.le_of_ble_eq_true rfl) ⟨rfl, rfl, by decide, by decide⟩ (cs0 hcs) dX5_keyword_81 (fun r8 μ => ?_)
                refine G_if_eq hX 90 (by decide) dX5_keyword_84 ?_ ?_
                · refine G_aload_n hX 0 rfl rfl dX5_keyword_90 ?_
                  refine G_ldcS hX (tx := "step") 7 (by decide +kernel) dX5_keyword_91 ?_
                  refine G_cVi hX 1 5 (fun ad adK => [.ref (adK 7)]) [] (fun z2 h2 => cX5_spells_ok (cx_l X) N 7 μ z2 h2) ok_X5_spells lm_X5_177 atC1.1 atC1.2 rfl rfl (fun _ _ => rfl) (Nat.le_of_ble_eq_true rfl) ⟨rfl, rfl, by decide, by decide⟩ (cs0 hcs) dX5_keyword_93 (fun r9 μ => ?_)
                  refine G_if_eq hX 102 (by decide) dX5_keyword_96 ?_ ?_
                  · refine G_aload_n hX 0 rfl rfl dX5_keyword_102 ?_
                    refine G_ldcS hX (tx := "home") 8 (by decide +kernel) dX5_keyword_103 ?_
                    refine G_cVi hX 1 5 (fun ad adK => [.ref (adK 8)]) [] (fun z2 h2 => cX5_spells_ok (cx_l X) N 8 μ z2 h2) ok_X5_spells lm_X5_177 atC1.1 atC1.2 rfl rfl (fun _ _ => rfl) (Nat.le_of_ble_eq_true rfl) ⟨rfl, rfl, by decide, by decide⟩ (cs0 hcs) dX5_keyword_105 (fun r10 μ => ?_)
                    refine G_if_eq hX 114 (by decide) dX5_keyword_108 ?_ ?_
                    · refine G_aload_n hX 0 rfl rfl dX5_keyword_114 ?_
                      refine G_ldcS hX (tx := "export") 9 (by decide +kernel) dX5_keyword_115 ?_
                      refine G_cVi hX 1 5 (fun ad adK => [.ref (adK 9)]) [] (fun z2 h2 => cX5_spells_ok (cx_l X) N 9 μ z2 h2) ok_X5_spells lm_X5_177 atC1.1 atC1.2 rfl rfl (fun _ _ => rfl) (Nat.le_of_ble_eq_true rfl) ⟨rfl, rfl, by decide, by decide⟩ (cs0 hcs) dX5_keyword_117 (fun r11 μ => ?_)
                      refine G_if_eq hX 126 (by decide) dX5_keyword_120 ?_ ?_
                      · refine G_aload_n hX 0 rfl rfl dX5_keyword_126 ?_
                        refine G_ldcS hX (tx := "third") 10 (by decide +kernel) dX5_keyword_127 ?_
                        refine G_cVi hX 1 5 (fun ad adK => [.ref (adK 10)]) [] (fun z2 h2 => cX5_spells_ok (cx_l X) N 10 μ z2 h2) ok_X5_spells lm_X5_177 atC1.1 atC1.2 rfl rfl (fun _ _ => rfl) (Nat.le_of_ble_eq_true rfl) ⟨rfl, rfl, by decide, by decide⟩ (cs0 hcs) dX5_keyword_129 (fun r12 μ => ?_)
                        refine G_if_eq hX 138 (by decide) dX5_keyword_132 ?_ ?_
                        · refine G_iconst hX (-1 : Int32) rfl dX5_keyword_138 ?_
                          exact G_iret hX hQ dX5_keyword_139
                        · refine G_bipush hX (10 : Int32) rfl dX5_keyword_135 ?_
                          exact G_iret hX hQ dX5_keyword_137
                      · refine G_bipush hX (9 : Int32) rfl dX5_keyword_123 ?_
                        exact G_iret hX hQ dX5_keyword_125
                    · refine G_bipush hX (8 : Int32) rfl dX5_keyword_111 ?_
                      exact G_iret hX hQ dX5_keyword_113
                  · refine G_bipush hX (7 : Int32) rfl dX5_keyword_99 ?_
                    exact G_iret hX hQ dX5_keyword_101
                · refine G_bipush hX (6 : Int32) rfl dX5_keyword_87 ?_
                  exact G_iret hX hQ dX5_keyword_89
              · refine G_iconst hX (5 : Int32) rfl dX5_keyword_76 ?_
                exact G_iret hX hQ dX5_keyword_77
            · refine G_iconst hX (4 : Int32) rfl dX5_keyword_65 ?_
              exact G_iret hX hQ dX5_keyword_66
          · refine G_iconst hX (3 : Int32) rfl dX5_keyword_54 ?_
            exact G_iret hX hQ dX5_keyword_55
        · refine G_iconst hX (2 : Int32) rfl dX5_keyword_43 ?_
          exact G_iret hX hQ dX5_keyword_44
      · refine G_iconst hX (1 : Int32) rfl dX5_keyword_32 ?_
        exact G_iret hX hQ dX5_keyword_33
    · refine G_iconst hX (0 : Int32) rfl dX5_keyword_21 ?_
      exact G_iret hX hQ dX5_keyword_22
  · refine G_iconst hX (-1 : Int32) rfl dX5_keyword_10 ?_
    exact G_iret hX hQ dX5_keyword_11
theorem cX5_keyword_ok (l : Launch) (N : Nat) (μ : Mem) (z : Int32 × Mem) (h : fX5_keyword N μ = some z) : Mi wC l yX5_keyword cX5_keyword 1 .int (rmo 5 107) (fun ad adK => [.ref (ad 1)]) μ z := Mi.of h (by decide +kernel) (fun _ _ => Nat.le_of_ble_eq_true rfl) (fun X hX hQ hl hcs => gX5_keyword_E hX hQ hcs N μ)
/-! ===== DutyCase$Reader.newName(LDutyCase$Names;)V ===== -/
set_option maxHeartbeats 4000000 in
set_option maxRecDepth 100000 in
theorem gX5_newName_46 {X : Ctx} {z : Unit × Mem} (hX : Fx wC X cX5_newName 3 RX5 none (rmo 6 127)) (hQ : Qx_v wC X z) (hcs : cx_cells X = 0 ∧ cx_slots X = 0) (N : Nat) (b0 : Nat) (s0 : Int32) (hb0 : kN b0) (μ : Mem) : G wC X z 46 [(0, .ref (cx_ad X 1)), (1, .ref (cx_ad X b0))] [.int s0] μ (fX5_newName_46 N b0 s0 μ) := by
  unfold fX5_newName_46
  refine G_istore_n hX [(2, .int s0), (0, .ref (cx_ad X 1)), (1, .ref (cx_ad X b0))] rfl (by decide) rfl dX5_newName_46 ?_
  refine G_iload_n hX 0 rfl rfl dX5_newName_47 ?_
  refine G_if_eq hX 71 (by decide) dX5_newName_48 ?_ ?_
  · refine G_aload_n hX 1 rfl rfl dX5_newName_71 ?_
    refine G_cVv hX 1 5 (fun ad adK => []) [] (fun z2 h2 => cX5_fail_ok (cx_l X) N μ z2 h2) ok_X5_fail lm_X5_75 atC1.1 atC1.2 rfl rfl (fun _ _ => rfl) (Nat.le_of_ble_eq_true rfl) ⟨rfl, rfl, by decide, by decide⟩ (cs0 hcs) dX5_newName_72 (fun μ => ?_)
    exact G_vret hX hQ dX5_newName_75
  · refine G_aload_n hX 2 rfl rfl dX5_newName_51 ?_
    refine G_aload_n hX 1 rfl rfl dX5_newName_52 ?_
    refine gf_X5_9_C1 hX dX5_newName_53 ?_
    refine G_aload_n hX 1 rfl rfl dX5_newName_56 ?_
    refine gf_X5_159_C1 hX dX5_newName_57 ?_
    refine G_nmi (fun x6 => ?_)
    refine G_aload_n hX 1 rfl rfl dX5_newName_60 ?_
    refine gf_X5_31_C1 hX dX5_newName_61 ?_
    refine G_nmi (fun x7 => ?_)
    refine G_cVi hX b0 4 (fun ad adK => [.ref (ad 7), .int x6, .int x7]) [] (fun z2 h2 => cX4_find_ok (cx_l X) N b0 x6 x7 μ z2 h2) ok_X4_find lm_X5_168 (atN_0 hb0).1 (atN_0 hb0).2 rfl rfl (fun _ _ => rfl) (Nat.le_of_ble_eq_true rfl) ⟨rfl, rfl, by decide, by decide⟩ (cs0 hcs) dX5_newName_64 (fun r8 μ => ?_)
    refine G_iconst hX (-1 : Int32) rfl dX5_newName_67 ?_
    refine G_icmp_eq hX 76 (by decide) dX5_newName_68 ?_ ?_
    · refine G_aload_n hX 2 rfl rfl dX5_newName_76 ?_
      refine G_aload_n hX 1 rfl rfl dX5_newName_77 ?_
      refine gf_X5_9_C1 hX dX5_newName_78 ?_
      refine G_aload_n hX 1 rfl rfl dX5_newName_81 ?_
      refine gf_X5_159_C1 hX dX5_newName_82 ?_
      refine G_nmi (fun x9 => ?_)
      refine G_aload_n hX 1 rfl rfl dX5_newName_85 ?_
      refine gf_X5_31_C1 hX dX5_newName_86 ?_
      refine G_nmi (fun x10 => ?_)
      refine G_cVv hX b0 4 (fun ad adK => [.ref (ad 7), .int x9, .int x10]) [] (fun z2 h2 => cX4_add_ok (cx_l X) N b0 x9 x10 μ z2 h2) ok_X4_add lm_X5_172 (atN_0 hb0).1 (atN_0 hb0).2 rfl rfl (fun _ _ => rfl) (Nat.le_of_ble_eq_true rfl) ⟨rfl, rfl, by decide, by decide⟩ (cs0 hcs) dX5_newName_89 (fun μ => ?_)
      refine G_aload_n hX 1 rfl rfl dX5_newName_92 ?_
      refine G_cVv hX 1 5 (fun ad adK => []) [] (fun z2 h2 => cX5_step_ok (cx_l X) N μ z2 h2) ok_X5_step lm_X5_34 atC1.1 atC1.2 rfl rfl (fun _ _ => rfl) (Nat.le_of_ble_eq_true rfl) ⟨rfl, rfl, by decide, by decide⟩ (cs0 hcs) dX5_newName_93 (fun μ => ?_)
      exact G_vret hX hQ dX5_newName_96
    · refine G_aload_n hX 1 rfl rfl dX5_newName_71 ?_
      refine G_cVv hX 1 5 (fun ad adK => []) [] (fun z2 h2 => cX5_fail_ok (cx_l X) N μ z2 h2) ok_X5_fail lm_X5_75 atC1.1 atC1.2 rfl rfl (fun _ _ => rfl) (Nat.le_of_ble_eq_true rfl) ⟨rfl, rfl, by decide, by decide⟩ (cs0 hcs) dX5_newName_72 (fun μ => ?_)
      exact G_vret hX hQ dX5_newName_75
set_option maxHeartbeats 4000000 in
set_option maxRecDepth 100000 in
theorem gX5_newName_E {X : Ctx} {z : Unit × Mem} (hX : Fx wC X cX5_newName 3 RX5 none (rmo 6 127)) (hQ : Qx_v wC X z) (hcs : cx_cells X = 0 ∧ cx_slots X = 0) (N : Nat) (p0 : Nat) (μ : Mem) : G wC X z 0 [(0, .ref (cx_ad X 1)), (1, .ref (cx_ad X p0))] [] μ (fX5_newName N p0 μ) := by
  unfold fX5_newName
  refine G_guard (fun hp0 => ?_)
  refine G_aload_n hX 0 rfl rfl dX5_newName_0 ?_
  refine gf_X5_15_C1 hX dX5_newName_1 ?_
  refine G_nmi (fun x1 => ?_)
  refine G_iconst hX (-1 : Int32) rfl dX5_newName_4 ?_
  refine G_icmp_eq hX 9 (by decide) dX5_newName_5 ?_ ?_
  · refine G_aload_n hX 0 rfl rfl dX5_newName_9 ?_
    refine gf_X5_37_C1 hX dX5_newName_10 ?_
    refine G_nmi (fun x2 => ?_)
    refine G_sipush hX (256 : Int32) rfl dX5_newName_13 ?_
    refine G_icmp_ne hX 45 (by decide) dX5_newName_16 ?_ ?_
    · refine G_iconst hX (0 : Int32) rfl dX5_newName_45 ?_
      exact G_sub [0, 1] rfl (gX5_newName_46 hX hQ hcs N p0 (0 : Int32) hp0 μ)
    · refine G_aload_n hX 0 rfl rfl dX5_newName_19 ?_
      refine gf_X5_31_C1 hX dX5_newName_20 ?_
      refine G_nmi (fun x3 => ?_)
      refine G_aload_n hX 0 rfl rfl dX5_newName_23 ?_
      refine gf_X5_159_C1 hX dX5_newName_24 ?_
      refine G_nmi (fun x4 => ?_)
      refine G_isub hX dX5_newName_27 ?_
      refine G_bipush hX (6 : Int32) rfl dX5_newName_28 ?_
      refine G_icmp_gt hX 45 (by decide) dX5_newName_30 ?_ ?_
      · refine G_iconst hX (0 : Int32) rfl dX5_newName_45 ?_
        exact G_sub [0, 1] rfl (gX5_newName_46 hX hQ hcs N p0 (0 : Int32) hp0 μ)
      · refine G_aload_n hX 0 rfl rfl dX5_newName_33 ?_
        refine G_cVi hX 1 5 (fun ad adK => []) [] (fun z2 h2 => cX5_keyword_ok (cx_l X) N μ z2 h2) ok_X5_keyword lm_X5_50 atC1.1 atC1.2 rfl rfl (fun _ _ => rfl) (Nat.le_of_ble_eq_true rfl) ⟨rfl, rfl, by decide, by decide⟩ (cs0 hcs) dX5_newName_34 (fun r5 μ => ?_)
        refine G_iconst hX (-1 : Int32) rfl dX5_newName_37 ?_
        refine G_icmp_ne hX 45 (by decide) dX5_newName_38 ?_ ?_
        · refine G_iconst hX (0 : Int32) rfl dX5_newName_45 ?_
          exact G_sub [0, 1] rfl (gX5_newName_46 hX hQ hcs N p0 (0 : Int32) hp0 μ)
        · refine G_iconst hX (1 : Int32) rfl dX5_newName_41 ?_
          refine G_goto hX 46 (by decide) dX5_newName_42 ?_
          exact G_sub [0, 1] rfl (gX5_newName_46 hX hQ hcs N p0 (1 : Int32) hp0 μ)
  · exact G_vret hX hQ dX5_newName_8
theorem cX5_newName_ok (l : Launch) (N : Nat) (p0 : Nat) (μ : Mem) (z : Unit × Mem) (h : fX5_newName N p0 μ = some z) : Mv wC l yX5_newName cX5_newName 3 (rmo 6 127) (fun ad adK => [.ref (ad 1), .ref (ad p0)]) μ z := Mv.of h (by decide +kernel) (fun _ _ => Nat.le_of_ble_eq_true rfl) (fun X hX hQ hl hcs => gX5_newName_E hX hQ hcs N p0 μ)
/-! ===== DutyCase$Reader.number(II)I ===== -/
set_option maxHeartbeats 4000000 in
set_option maxRecDepth 100000 in
theorem gX5_number_41 {X : Ctx} {z : Int32 × Mem} (hX : Fx wC X cX5_number 4 RX5 (some .int) (rmo 2 40)) (hQ : Qx_i wC X z) (hcs : cx_cells X = 0 ∧ cx_slots X = 0) (N : Nat) (v1 : Int32) (v2 : Int32) (s0 : Int32) (μ : Mem) : G wC X z 41 [(0, .ref (cx_ad X 1)), (1, .int v1), (2, .int v2)] [.int s0] μ (fX5_number_41 N v1 v2 s0 μ) := by
  unfold fX5_number_41
  refine G_istore_n hX [(3, .int s0), (0, .ref (cx_ad X 1)), (1, .int v1), (2, .int v2)] rfl (by decide) rfl dX5_number_41 ?_
  refine G_iload_n hX 0 rfl rfl dX5_number_42 ?_
  refine G_iload_n hX 2 rfl rfl dX5_number_43 ?_
  refine G_icmp_lt hX 52 (by decide) dX5_number_44 ?_ ?_
  · refine G_aload_n hX 1 rfl rfl dX5_number_52 ?_
    refine G_cVv hX 1 5 (fun ad adK => []) [] (fun z2 h2 => cX5_fail_ok (cx_l X) N μ z2 h2) ok_X5_fail lm_X5_75 atC1.1 atC1.2 rfl rfl (fun _ _ => rfl) (Nat.le_of_ble_eq_true rfl) ⟨rfl, rfl, by decide, by decide⟩ (cs0 hcs) dX5_number_53 (fun μ => ?_)
    refine G_iconst hX (-1 : Int32) rfl dX5_number_56 ?_
    exact G_iret hX hQ dX5_number_57
  · refine G_iload_n hX 0 rfl rfl dX5_number_47 ?_
    refine G_iload_n hX 3 rfl rfl dX5_number_48 ?_
    refine G_icmp_le hX 58 (by decide) dX5_number_49 ?_ ?_
    · refine G_aload_n hX 1 rfl rfl dX5_number_58 ?_
      refine G_cVv hX 1 5 (fun ad adK => []) [] (fun z2 h2 => cX5_step_ok (cx_l X) N μ z2 h2) ok_X5_step lm_X5_34 atC1.1 atC1.2 rfl rfl (fun _ _ => rfl) (Nat.le_of_ble_eq_true rfl) ⟨rfl, rfl, by decide, by decide⟩ (cs0 hcs) dX5_number_59 (fun μ => ?_)
      refine G_iload_n hX 0 rfl rfl dX5_number_62 ?_
      exact G_iret hX hQ dX5_number_63
    · refine G_aload_n hX 1 rfl rfl dX5_number_52 ?_
      refine G_cVv hX 1 5 (fun ad adK => []) [] (fun z2 h2 => cX5_fail_ok (cx_l X) N μ z2 h2) ok_X5_fail lm_X5_75 atC1.1 atC1.2 rfl rfl (fun _ _ => rfl) (Nat.le_of_ble_eq_true rfl) ⟨rfl, rfl, by decide, by decide⟩ (cs0 hcs) dX5_number_53 (fun μ => ?_)
      refine G_iconst hX (-1 : Int32) rfl dX5_number_56 ?_
      exact G_iret hX hQ dX5_number_57
set_option maxHeartbeats 4000000 in
set_option maxRecDepth 100000 in
theorem gX5_number_E {X : Ctx} {z : Int32 × Mem} (hX : Fx wC X cX5_number 4 RX5 (some .int) (rmo 2 40)) (hQ : Qx_i wC X z) (hcs : cx_cells X = 0 ∧ cx_slots X = 0) (N : Nat) (p0 : Int32) (p1 : Int32) (μ : Mem) : G wC X z 0 [(0, .ref (cx_ad X 1)), (1, .int p0), (2, .int p1)] [] μ (fX5_number N p0 p1 μ) := by
  unfold fX5_number
  refine G_aload_n hX 0 rfl rfl dX5_number_0 ?_
  refine gf_X5_15_C1 hX dX5_number_1 ?_
  refine G_nmi (fun x1 => ?_)
  refine G_iconst hX (-1 : Int32) rfl dX5_number_4 ?_
  refine G_icmp_eq hX 10 (by decide) dX5_number_5 ?_ ?_
  · refine G_aload_n hX 0 rfl rfl dX5_number_10 ?_
    refine gf_X5_37_C1 hX dX5_number_11 ?_
    refine G_nmi (fun x2 => ?_)
    refine G_sipush hX (257 : Int32) rfl dX5_number_14 ?_
    refine G_icmp_ne hX 40 (by decide) dX5_number_17 ?_ ?_
    · refine G_iconst hX (-1 : Int32) rfl dX5_number_40 ?_
      exact G_sub [0, 1, 2] rfl (gX5_number_41 hX hQ hcs N p0 p1 (-1 : Int32) μ)
    · refine G_aload_n hX 0 rfl rfl dX5_number_20 ?_
      refine gf_X5_31_C1 hX dX5_number_21 ?_
      refine G_nmi (fun x3 => ?_)
      refine G_aload_n hX 0 rfl rfl dX5_number_24 ?_
      refine gf_X5_159_C1 hX dX5_number_25 ?_
      refine G_nmi (fun x4 => ?_)
      refine G_isub hX dX5_number_28 ?_
      refine G_iconst hX (5 : Int32) rfl dX5_number_29 ?_
      refine G_icmp_gt hX 40 (by decide) dX5_number_30 ?_ ?_
      · refine G_iconst hX (-1 : Int32) rfl dX5_number_40 ?_
        exact G_sub [0, 1, 2] rfl (gX5_number_41 hX hQ hcs N p0 p1 (-1 : Int32) μ)
      · refine G_aload_n hX 0 rfl rfl dX5_number_33 ?_
        refine G_cVi hX 1 5 (fun ad adK => []) [] (fun z2 h2 => cX5_digits_ok (cx_l X) N μ z2 h2) ok_X5_digits lm_X5_162 atC1.1 atC1.2 rfl rfl (fun _ _ => rfl) (Nat.le_of_ble_eq_true rfl) ⟨rfl, rfl, by decide, by decide⟩ (cs0 hcs) dX5_number_34 (fun r5 μ => ?_)
        refine G_goto hX 41 (by decide) dX5_number_37 ?_
        exact G_sub [0, 1, 2] rfl (gX5_number_41 hX hQ hcs N p0 p1 r5 μ)
  · refine G_iconst hX (-1 : Int32) rfl dX5_number_8 ?_
    exact G_iret hX hQ dX5_number_9
theorem cX5_number_ok (l : Launch) (N : Nat) (p0 : Int32) (p1 : Int32) (μ : Mem) (z : Int32 × Mem) (h : fX5_number N p0 p1 μ = some z) : Mi wC l yX5_number cX5_number 4 .int (rmo 2 40) (fun ad adK => [.ref (ad 1), .int p0, .int p1]) μ z := Mi.of h (by decide +kernel) (fun _ _ => Nat.le_of_ble_eq_true rfl) (fun X hX hQ hl hcs => gX5_number_E hX hQ hcs N p0 p1 μ)
/-! ===== DutyCase$Reader.modelLine()V ===== -/
set_option maxHeartbeats 4000000 in
set_option maxRecDepth 100000 in
theorem gX5_modelLine_E {X : Ctx} {z : Unit × Mem} (hX : Fx wC X cX5_modelLine 2 RX5 none (rmo 7 149)) (hQ : Qx_v wC X z) (hcs : cx_cells X = 0 ∧ cx_slots X = 0) (N : Nat) (μ : Mem) : G wC X z 0 [(0, .ref (cx_ad X 1))] [] μ (fX5_modelLine N μ) := by
  unfold fX5_modelLine
  refine G_aload_n hX 0 rfl rfl dX5_modelLine_0 ?_
  refine gf_X5_19_C1 hX dX5_modelLine_1 (fun b_1 hb_1 => ?_)
  refine gf_X5_78_B0 hX hb_1 dX5_modelLine_4 ?_
  refine gf_X5_82_B1 hX hb_1 dX5_modelLine_7 ?_
  refine G_nmi (fun x2 => ?_)
  refine G_istore_n hX [(1, .int x2), (0, .ref (cx_ad X 1))] rfl (by decide) rfl dX5_modelLine_10 ?_
  refine G_iload_n hX 0 rfl rfl dX5_modelLine_11 ?_
  refine G_bipush hX (6 : Int32) rfl dX5_modelLine_12 ?_
  refine G_icmp_lt hX 22 (by decide) dX5_modelLine_14 ?_ ?_
  · refine G_aload_n hX 1 rfl rfl dX5_modelLine_22 ?_
    refine G_cVv hX 1 5 (fun ad adK => []) [] (fun z2 h2 => cX5_step_ok (cx_l X) N μ z2 h2) ok_X5_step lm_X5_34 atC1.1 atC1.2 rfl rfl (fun _ _ => rfl) (Nat.le_of_ble_eq_true rfl) ⟨rfl, rfl, by decide, by decide⟩ (cs0 hcs) dX5_modelLine_23 (fun μ => ?_)
    refine G_aload_n hX 1 rfl rfl dX5_modelLine_26 ?_
    refine G_aload_n hX 1 rfl rfl dX5_modelLine_27 ?_
    refine gf_X5_19_C1 hX dX5_modelLine_28 (fun b_3 hb_3 => ?_)
    refine gf_X5_78_B0 hX hb_3 dX5_modelLine_31 ?_
    refine G_cVv hX 1 5 (fun ad adK => [.ref (ad (b_3 + 1))]) [] (fun z2 h2 => cX5_newName_ok (cx_l X) N (b_3 + 1) μ z2 h2) ok_X5_newName lm_X5_87 atC1.1 atC1.2 rfl rfl (fun _ _ => rfl) (Nat.le_of_ble_eq_true rfl) ⟨rfl, rfl, by decide, by decide⟩ (cs0 hcs) dX5_modelLine_34 (fun μ => ?_)
    refine G_aload_n hX 1 rfl rfl dX5_modelLine_37 ?_
    refine gf_X5_19_C1 hX dX5_modelLine_38 (fun b_4 hb_4 => ?_)
    refine gf_X5_91_B0 hX hb_4 dX5_modelLine_41 ?_
    refine G_iload_n hX 0 rfl rfl dX5_modelLine_44 ?_
    refine G_aload_n hX 1 rfl rfl dX5_modelLine_45 ?_
    refine G_iconst hX (1 : Int32) rfl dX5_modelLine_46 ?_
    refine G_sipush hX (9999 : Int32) rfl dX5_modelLine_47 ?_
    refine G_cVi hX 1 5 (fun ad adK => [.int (1 : Int32), .int (9999 : Int32)]) [.int x2, .ref (cx_ad X (b_4 + 23))] (fun z2 h2 => cX5_number_ok (cx_l X) N (1 : Int32) (9999 : Int32) μ z2 h2) ok_X5_number lm_X5_95 atC1.1 atC1.2 rfl rfl (fun _ _ => rfl) (Nat.le_of_ble_eq_true rfl) ⟨rfl, rfl, by decide, by decide⟩ (cs0 hcs) dX5_modelLine_50 (fun r5 μ => ?_)
    refine G_sI hX (atB_23 hb_4) dX5_modelLine_53 (fun μ => ?_)
    refine G_aload_n hX 1 rfl rfl dX5_modelLine_54 ?_
    refine gf_X5_19_C1 hX dX5_modelLine_55 (fun b_6 hb_6 => ?_)
    refine gf_X5_99_B0 hX hb_6 dX5_modelLine_58 ?_
    refine G_iload_n hX 0 rfl rfl dX5_modelLine_61 ?_
    refine G_aload_n hX 1 rfl rfl dX5_modelLine_62 ?_
    refine G_iconst hX (0 : Int32) rfl dX5_modelLine_63 ?_
    refine G_bipush hX (99 : Int32) rfl dX5_modelLine_64 ?_
    refine G_cVi hX 1 5 (fun ad adK => [.int (0 : Int32), .int (99 : Int32)]) [.int x2, .ref (cx_ad X (b_6 + 24))] (fun z2 h2 => cX5_number_ok (cx_l X) N (0 : Int32) (99 : Int32) μ z2 h2) ok_X5_number lm_X5_95 atC1.1 atC1.2 rfl rfl (fun _ _ => rfl) (Nat.le_of_ble_eq_true rfl) ⟨rfl, rfl, by decide, by decide⟩ (cs0 hcs) dX5_modelLine_66 (fun r7 μ => ?_)
    refine G_sI hX (atB_24 hb_6) dX5_modelLine_69 (fun μ => ?_)
    refine G_aload_n hX 1 rfl rfl dX5_modelLine_70 ?_
    refine gf_X5_19_C1 hX dX5_modelLine_71 (fun b_8 hb_8 => ?_)
    refine gf_X5_102_B0 hX hb_8 dX5_modelLine_74 ?_
    refine G_iload_n hX 0 rfl rfl dX5_modelLine_77 ?_
    refine G_aload_n hX 1 rfl rfl dX5_modelLine_78 ?_
    refine G_iconst hX (0 : Int32) rfl dX5_modelLine_79 ?_
    refine G_sipush hX (9999 : Int32) rfl dX5_modelLine_80 ?_
    refine G_cVi hX 1 5 (fun ad adK => [.int (0 : Int32), .int (9999 : Int32)]) [.int x2, .ref (cx_ad X (b_8 + 25))] (fun z2 h2 => cX5_number_ok (cx_l X) N (0 : Int32) (9999 : Int32) μ z2 h2) ok_X5_number lm_X5_95 atC1.1 atC1.2 rfl rfl (fun _ _ => rfl) (Nat.le_of_ble_eq_true rfl) ⟨rfl, rfl, by decide, by decide⟩ (cs0 hcs) dX5_modelLine_83 (fun r9 μ => ?_)
    refine G_sI hX (atB_25 hb_8) dX5_modelLine_86 (fun μ => ?_)
    exact G_vret hX hQ dX5_modelLine_87
  · refine G_aload_n hX 1 rfl rfl dX5_modelLine_17 ?_
    refine G_cVv hX 1 5 (fun ad adK => []) [] (fun z2 h2 => cX5_fail_ok (cx_l X) N μ z2 h2) ok_X5_fail lm_X5_75 atC1.1 atC1.2 rfl rfl (fun _ _ => rfl) (Nat.le_of_ble_eq_true rfl) ⟨rfl, rfl, by decide, by decide⟩ (cs0 hcs) dX5_modelLine_18 (fun μ => ?_)
    exact G_vret hX hQ dX5_modelLine_21
theorem cX5_modelLine_ok (l : Launch) (N : Nat) (μ : Mem) (z : Unit × Mem) (h : fX5_modelLine N μ = some z) : Mv wC l yX5_modelLine cX5_modelLine 2 (rmo 7 149) (fun ad adK => [.ref (ad 1)]) μ z := Mv.of h (by decide +kernel) (fun _ _ => Nat.le_of_ble_eq_true rfl) (fun X hX hQ hl hcs => gX5_modelLine_E hX hQ hcs N μ)
/-! ===== DutyCase$Reader.firmLine()V ===== -/
set_option maxHeartbeats 4000000 in
set_option maxRecDepth 100000 in
theorem gX5_firmLine_E {X : Ctx} {z : Unit × Mem} (hX : Fx wC X cX5_firmLine 1 RX5 none (rmo 7 149)) (hQ : Qx_v wC X z) (hcs : cx_cells X = 0 ∧ cx_slots X = 0) (N : Nat) (μ : Mem) : G wC X z 0 [(0, .ref (cx_ad X 1))] [] μ (fX5_firmLine N μ) := by
  unfold fX5_firmLine
  refine G_aload_n hX 0 rfl rfl dX5_firmLine_0 ?_
  refine gf_X5_19_C1 hX dX5_firmLine_1 (fun b_1 hb_1 => ?_)
  refine gf_X5_105_B0 hX hb_1 dX5_firmLine_4 ?_
  refine gf_X5_82_B4 hX hb_1 dX5_firmLine_7 ?_
  refine G_nmi (fun x2 => ?_)
  refine G_iconst hX (4 : Int32) rfl dX5_firmLine_10 ?_
  refine G_icmp_lt hX 19 (by decide) dX5_firmLine_11 ?_ ?_
  · refine G_aload_n hX 0 rfl rfl dX5_firmLine_19 ?_
    refine G_cVv hX 1 5 (fun ad adK => []) [] (fun z2 h2 => cX5_step_ok (cx_l X) N μ z2 h2) ok_X5_step lm_X5_34 atC1.1 atC1.2 rfl rfl (fun _ _ => rfl) (Nat.le_of_ble_eq_true rfl) ⟨rfl, rfl, by decide, by decide⟩ (cs0 hcs) dX5_firmLine_20 (fun μ => ?_)
    refine G_aload_n hX 0 rfl rfl dX5_firmLine_23 ?_
    refine G_aload_n hX 0 rfl rfl dX5_firmLine_24 ?_
    refine gf_X5_19_C1 hX dX5_firmLine_25 (fun b_3 hb_3 => ?_)
    refine gf_X5_105_B0 hX hb_3 dX5_firmLine_28 ?_
    refine G_cVv hX 1 5 (fun ad adK => [.ref (ad (b_3 + 4))]) [] (fun z2 h2 => cX5_newName_ok (cx_l X) N (b_3 + 4) μ z2 h2) ok_X5_newName lm_X5_87 atC1.1 atC1.2 rfl rfl (fun _ _ => rfl) (Nat.le_of_ble_eq_true rfl) ⟨rfl, rfl, by decide, by decide⟩ (cs0 hcs) dX5_firmLine_31 (fun μ => ?_)
    exact G_vret hX hQ dX5_firmLine_34
  · refine G_aload_n hX 0 rfl rfl dX5_firmLine_14 ?_
    refine G_cVv hX 1 5 (fun ad adK => []) [] (fun z2 h2 => cX5_fail_ok (cx_l X) N μ z2 h2) ok_X5_fail lm_X5_75 atC1.1 atC1.2 rfl rfl (fun _ _ => rfl) (Nat.le_of_ble_eq_true rfl) ⟨rfl, rfl, by decide, by decide⟩ (cs0 hcs) dX5_firmLine_15 (fun μ => ?_)
    exact G_vret hX hQ dX5_firmLine_18
theorem cX5_firmLine_ok (l : Launch) (N : Nat) (μ : Mem) (z : Unit × Mem) (h : fX5_firmLine N μ = some z) : Mv wC l yX5_firmLine cX5_firmLine 1 (rmo 7 149) (fun ad adK => [.ref (ad 1)]) μ z := Mv.of h (by decide +kernel) (fun _ _ => Nat.le_of_ble_eq_true rfl) (fun X hX hQ hl hcs => gX5_firmLine_E hX hQ hcs N μ)
/-! ===== DutyCase$Reader.toldName(LDutyCase$Names;)I ===== -/
set_option maxHeartbeats 4000000 in
set_option maxRecDepth 100000 in
theorem gX5_toldName_40 {X : Ctx} {z : Int32 × Mem} (hX : Fx wC X cX5_toldName 3 RX5 (some .int) (rmo 2 48)) (hQ : Qx_i wC X z) (hcs : cx_cells X = 0 ∧ cx_slots X = 0) (N : Nat) (s0 : Int32) (μ : Mem) : G wC X z 40 [(0, .ref (cx_ad X 1))] [.int s0] μ (fX5_toldName_40 N s0 μ) := by
  unfold fX5_toldName_40
  refine G_istore_n hX [(2, .int s0), (0, .ref (cx_ad X 1))] rfl (by decide) rfl dX5_toldName_40 ?_
  refine G_iload_n hX 0 rfl rfl dX5_toldName_41 ?_
  refine G_iconst hX (-1 : Int32) rfl dX5_toldName_42 ?_
  refine G_icmp_ne hX 53 (by decide) dX5_toldName_43 ?_ ?_
  · refine G_aload_n hX 1 rfl rfl dX5_toldName_53 ?_
    refine G_cVv hX 1 5 (fun ad adK => []) [] (fun z2 h2 => cX5_step_ok (cx_l X) N μ z2 h2) ok_X5_step lm_X5_34 atC1.1 atC1.2 rfl rfl (fun _ _ => rfl) (Nat.le_of_ble_eq_true rfl) ⟨rfl, rfl, by decide, by decide⟩ (cs0 hcs) dX5_toldName_54 (fun μ => ?_)
    refine G_iload_n hX 0 rfl rfl dX5_toldName_57 ?_
    exact G_iret hX hQ dX5_toldName_58
  · refine G_aload_n hX 1 rfl rfl dX5_toldName_46 ?_
    refine G_cVv hX 1 5 (fun ad adK => []) [] (fun z2 h2 => cX5_fail_ok (cx_l X) N μ z2 h2) ok_X5_fail lm_X5_75 atC1.1 atC1.2 rfl rfl (fun _ _ => rfl) (Nat.le_of_ble_eq_true rfl) ⟨rfl, rfl, by decide, by decide⟩ (cs0 hcs) dX5_toldName_47 (fun μ => ?_)
    refine G_goto hX 57 (by decide) dX5_toldName_50 ?_
    refine G_iload_n hX 0 rfl rfl dX5_toldName_57 ?_
    exact G_iret hX hQ dX5_toldName_58
set_option maxHeartbeats 4000000 in
set_option maxRecDepth 100000 in
theorem gX5_toldName_E {X : Ctx} {z : Int32 × Mem} (hX : Fx wC X cX5_toldName 3 RX5 (some .int) (rmo 2 48)) (hQ : Qx_i wC X z) (hcs : cx_cells X = 0 ∧ cx_slots X = 0) (N : Nat) (p0 : Nat) (μ : Mem) : G wC X z 0 [(0, .ref (cx_ad X 1)), (1, .ref (cx_ad X p0))] [] μ (fX5_toldName N p0 μ) := by
  unfold fX5_toldName
  refine G_guard (fun hp0 => ?_)
  refine G_aload_n hX 0 rfl rfl dX5_toldName_0 ?_
  refine gf_X5_15_C1 hX dX5_toldName_1 ?_
  refine G_nmi (fun x1 => ?_)
  refine G_iconst hX (-1 : Int32) rfl dX5_toldName_4 ?_
  refine G_icmp_eq hX 10 (by decide) dX5_toldName_5 ?_ ?_
  · refine G_aload_n hX 0 rfl rfl dX5_toldName_10 ?_
    refine gf_X5_37_C1 hX dX5_toldName_11 ?_
    refine G_nmi (fun x2 => ?_)
    refine G_sipush hX (256 : Int32) rfl dX5_toldName_14 ?_
    refine G_icmp_ne hX 39 (by decide) dX5_toldName_17 ?_ ?_
    · refine G_iconst hX (-1 : Int32) rfl dX5_toldName_39 ?_
      exact G_sub [0] rfl (gX5_toldName_40 hX hQ hcs N (-1 : Int32) μ)
    · refine G_aload_n hX 1 rfl rfl dX5_toldName_20 ?_
      refine G_aload_n hX 0 rfl rfl dX5_toldName_21 ?_
      refine gf_X5_9_C1 hX dX5_toldName_22 ?_
      refine G_aload_n hX 0 rfl rfl dX5_toldName_25 ?_
      refine gf_X5_159_C1 hX dX5_toldName_26 ?_
      refine G_nmi (fun x3 => ?_)
      refine G_aload_n hX 0 rfl rfl dX5_toldName_29 ?_
      refine gf_X5_31_C1 hX dX5_toldName_30 ?_
      refine G_nmi (fun x4 => ?_)
      refine G_cVi hX p0 4 (fun ad adK => [.ref (ad 7), .int x3, .int x4]) [] (fun z2 h2 => cX4_find_ok (cx_l X) N p0 x3 x4 μ z2 h2) ok_X4_find lm_X5_168 (atN_0 hp0).1 (atN_0 hp0).2 rfl rfl (fun _ _ => rfl) (Nat.le_of_ble_eq_true rfl) ⟨rfl, rfl, by decide, by decide⟩ (cs0 hcs) dX5_toldName_33 (fun r5 μ => ?_)
      refine G_goto hX 40 (by decide) dX5_toldName_36 ?_
      exact G_sub [0] rfl (gX5_toldName_40 hX hQ hcs N r5 μ)
  · refine G_iconst hX (-1 : Int32) rfl dX5_toldName_8 ?_
    exact G_iret hX hQ dX5_toldName_9
theorem cX5_toldName_ok (l : Launch) (N : Nat) (p0 : Nat) (μ : Mem) (z : Int32 × Mem) (h : fX5_toldName N p0 μ = some z) : Mi wC l yX5_toldName cX5_toldName 3 .int (rmo 2 48) (fun ad adK => [.ref (ad 1), .ref (ad p0)]) μ z := Mi.of h (by decide +kernel) (fun _ _ => Nat.le_of_ble_eq_true rfl) (fun X hX hQ hl hcs => gX5_toldName_E hX hQ hcs N p0 μ)
/-! ===== DutyCase$Reader.silentLine()V ===== -/
set_option maxHeartbeats 4000000 in
set_option maxRecDepth 100000 in
theorem gX5_silentLine_E {X : Ctx} {z : Unit × Mem} (hX : Fx wC X cX5_silentLine 2 RX5 none (rmo 3 70)) (hQ : Qx_v wC X z) (hcs : cx_cells X = 0 ∧ cx_slots X = 0) (N : Nat) (μ : Mem) : G wC X z 0 [(0, .ref (cx_ad X 1))] [] μ (fX5_silentLine N μ) := by
  unfold fX5_silentLine
  refine G_aload_n hX 0 rfl rfl dX5_silentLine_0 ?_
  refine G_cVv hX 1 5 (fun ad adK => []) [] (fun z2 h2 => cX5_step_ok (cx_l X) N μ z2 h2) ok_X5_step lm_X5_34 atC1.1 atC1.2 rfl rfl (fun _ _ => rfl) (Nat.le_of_ble_eq_true rfl) ⟨rfl, rfl, by decide, by decide⟩ (cs0 hcs) dX5_silentLine_1 (fun μ => ?_)
  refine G_aload_n hX 0 rfl rfl dX5_silentLine_4 ?_
  refine G_aload_n hX 0 rfl rfl dX5_silentLine_5 ?_
  refine gf_X5_19_C1 hX dX5_silentLine_6 (fun b_1 hb_1 => ?_)
  refine gf_X5_105_B0 hX hb_1 dX5_silentLine_9 ?_
  refine G_cVi hX 1 5 (fun ad adK => [.ref (ad (b_1 + 4))]) [] (fun z2 h2 => cX5_toldName_ok (cx_l X) N (b_1 + 4) μ z2 h2) ok_X5_toldName lm_X5_108 atC1.1 atC1.2 rfl rfl (fun _ _ => rfl) (Nat.le_of_ble_eq_true rfl) ⟨rfl, rfl, by decide, by decide⟩ (cs0 hcs) dX5_silentLine_12 (fun r2 μ => ?_)
  refine G_istore_n hX [(1, .int r2), (0, .ref (cx_ad X 1))] rfl (by decide) rfl dX5_silentLine_15 ?_
  refine G_aload_n hX 1 rfl rfl dX5_silentLine_16 ?_
  refine gf_X5_15_C1 hX dX5_silentLine_17 ?_
  refine G_nmi (fun x3 => ?_)
  refine G_iconst hX (-1 : Int32) rfl dX5_silentLine_20 ?_
  refine G_icmp_ne hX 34 (by decide) dX5_silentLine_21 ?_ ?_
  · exact G_vret hX hQ dX5_silentLine_34
  · refine G_aload_n hX 1 rfl rfl dX5_silentLine_24 ?_
    refine gf_X5_19_C1 hX dX5_silentLine_25 (fun b_4 hb_4 => ?_)
    refine gf_X5_112_B0 hX hb_4 dX5_silentLine_28 ?_
    refine G_iload_n hX 0 rfl rfl dX5_silentLine_31 ?_
    refine G_iconst hX (1 : Int32) rfl dX5_silentLine_32 ?_
    refine G_sZ hX (atB_27 hb_4) dX5_silentLine_33 (fun μ => ?_)
    exact G_vret hX hQ dX5_silentLine_34
theorem cX5_silentLine_ok (l : Launch) (N : Nat) (μ : Mem) (z : Unit × Mem) (h : fX5_silentLine N μ = some z) : Mv wC l yX5_silentLine cX5_silentLine 2 (rmo 3 70) (fun ad adK => [.ref (ad 1)]) μ z := Mv.of h (by decide +kernel) (fun _ _ => Nat.le_of_ble_eq_true rfl) (fun X hX hQ hl hcs => gX5_silentLine_E hX hQ hcs N μ)
/-! ===== DutyCase$Reader.costLine()V ===== -/
set_option maxHeartbeats 4000000 in
set_option maxRecDepth 100000 in
theorem gX5_costLine_E {X : Ctx} {z : Unit × Mem} (hX : Fx wC X cX5_costLine 4 RX5 none (rmo 3 70)) (hQ : Qx_v wC X z) (hcs : cx_cells X = 0 ∧ cx_slots X = 0) (N : Nat) (μ : Mem) : G wC X z 0 [(0, .ref (cx_ad X 1))] [] μ (fX5_costLine N μ) := by
  unfold fX5_costLine
  refine G_aload_n hX 0 rfl rfl dX5_costLine_0 ?_
  refine G_cVv hX 1 5 (fun ad adK => []) [] (fun z2 h2 => cX5_step_ok (cx_l X) N μ z2 h2) ok_X5_step lm_X5_34 atC1.1 atC1.2 rfl rfl (fun _ _ => rfl) (Nat.le_of_ble_eq_true rfl) ⟨rfl, rfl, by decide, by decide⟩ (cs0 hcs) dX5_costLine_1 (fun μ => ?_)
  refine G_aload_n hX 0 rfl rfl dX5_costLine_4 ?_
  refine G_aload_n hX 0 rfl rfl dX5_costLine_5 ?_
  refine gf_X5_19_C1 hX dX5_costLine_6 (fun b_1 hb_1 => ?_)
  refine gf_X5_105_B0 hX hb_1 dX5_costLine_9 ?_
  refine G_cVi hX 1 5 (fun ad adK => [.ref (ad (b_1 + 4))]) [] (fun z2 h2 => cX5_toldName_ok (cx_l X) N (b_1 + 4) μ z2 h2) ok_X5_toldName lm_X5_108 atC1.1 atC1.2 rfl rfl (fun _ _ => rfl) (Nat.le_of_ble_eq_true rfl) ⟨rfl, rfl, by decide, by decide⟩ (cs0 hcs) dX5_costLine_12 (fun r2 μ => ?_)
  refine G_istore_n hX [(1, .int r2), (0, .ref (cx_ad X 1))] rfl (by decide) rfl dX5_costLine_15 ?_
  refine G_aload_n hX 1 rfl rfl dX5_costLine_16 ?_
  refine G_aload_n hX 1 rfl rfl dX5_costLine_17 ?_
  refine gf_X5_19_C1 hX dX5_costLine_18 (fun b_3 hb_3 => ?_)
  refine gf_X5_78_B0 hX hb_3 dX5_costLine_21 ?_
  refine G_cVi hX 1 5 (fun ad adK => [.ref (ad (b_3 + 1))]) [] (fun z2 h2 => cX5_toldName_ok (cx_l X) N (b_3 + 1) μ z2 h2) ok_X5_toldName lm_X5_108 atC1.1 atC1.2 rfl rfl (fun _ _ => rfl) (Nat.le_of_ble_eq_true rfl) ⟨rfl, rfl, by decide, by decide⟩ (cs0 hcs) dX5_costLine_24 (fun r4 μ => ?_)
  refine G_istore_n hX [(2, .int r4), (1, .int r2), (0, .ref (cx_ad X 1))] rfl (by decide) rfl dX5_costLine_27 ?_
  refine G_aload_n hX 2 rfl rfl dX5_costLine_28 ?_
  refine G_iconst hX (1 : Int32) rfl dX5_costLine_29 ?_
  refine G_sipush hX (9999 : Int32) rfl dX5_costLine_30 ?_
  refine G_cVi hX 1 5 (fun ad adK => [.int (1 : Int32), .int (9999 : Int32)]) [] (fun z2 h2 => cX5_number_ok (cx_l X) N (1 : Int32) (9999 : Int32) μ z2 h2) ok_X5_number lm_X5_95 atC1.1 atC1.2 rfl rfl (fun _ _ => rfl) (Nat.le_of_ble_eq_true rfl) ⟨rfl, rfl, by decide, by decide⟩ (cs0 hcs) dX5_costLine_33 (fun r5 μ => ?_)
  refine G_istore_n hX [(3, .int r5), (2, .int r4), (1, .int r2), (0, .ref (cx_ad X 1))] rfl (by decide) rfl dX5_costLine_36 ?_
  refine G_aload_n hX 3 rfl rfl dX5_costLine_37 ?_
  refine gf_X5_15_C1 hX dX5_costLine_38 ?_
  refine G_nmi (fun x6 => ?_)
  refine G_iconst hX (-1 : Int32) rfl dX5_costLine_41 ?_
  refine G_icmp_ne hX 60 (by decide) dX5_costLine_42 ?_ ?_
  · exact G_vret hX hQ dX5_costLine_60
  · refine G_aload_n hX 3 rfl rfl dX5_costLine_45 ?_
    refine gf_X5_19_C1 hX dX5_costLine_46 (fun b_7 hb_7 => ?_)
    refine gf_X5_116_B0 hX hb_7 dX5_costLine_49 ?_
    refine G_iload_n hX 2 rfl rfl dX5_costLine_52 ?_
    refine G_bipush hX (6 : Int32) rfl dX5_costLine_53 ?_
    refine G_imul hX dX5_costLine_55 ?_
    refine G_iload_n hX 1 rfl rfl dX5_costLine_56 ?_
    refine G_iadd hX dX5_costLine_57 ?_
    refine G_iload_n hX 0 rfl rfl dX5_costLine_58 ?_
    refine G_sI hX (atB_26 hb_7) dX5_costLine_59 (fun μ => ?_)
    exact G_vret hX hQ dX5_costLine_60
theorem cX5_costLine_ok (l : Launch) (N : Nat) (μ : Mem) (z : Unit × Mem) (h : fX5_costLine N μ = some z) : Mv wC l yX5_costLine cX5_costLine 4 (rmo 3 70) (fun ad adK => [.ref (ad 1)]) μ z := Mv.of h (by decide +kernel) (fun _ _ => Nat.le_of_ble_eq_true rfl) (fun X hX hQ hl hcs => gX5_costLine_E hX hQ hcs N μ)
/-! ===== DutyCase$Reader.marketWord()I ===== -/
set_option maxHeartbeats 4000000 in
set_option maxRecDepth 100000 in
theorem gX5_marketWord_E {X : Ctx} {z : Int32 × Mem} (hX : Fx wC X cX5_marketWord 2 RX5 (some .int) (rmo 6 127)) (hQ : Qx_i wC X z) (hcs : cx_cells X = 0 ∧ cx_slots X = 0) (N : Nat) (μ : Mem) : G wC X z 0 [(0, .ref (cx_ad X 1))] [] μ (fX5_marketWord N μ) := by
  unfold fX5_marketWord
  refine G_aload_n hX 0 rfl rfl dX5_marketWord_0 ?_
  refine G_cVi hX 1 5 (fun ad adK => []) [] (fun z2 h2 => cX5_keyword_ok (cx_l X) N μ z2 h2) ok_X5_keyword lm_X5_50 atC1.1 atC1.2 rfl rfl (fun _ _ => rfl) (Nat.le_of_ble_eq_true rfl) ⟨rfl, rfl, by decide, by decide⟩ (cs0 hcs) dX5_marketWord_1 (fun r1 μ => ?_)
  refine G_istore_n hX [(1, .int r1), (0, .ref (cx_ad X 1))] rfl (by decide) rfl dX5_marketWord_4 ?_
  refine G_aload_n hX 1 rfl rfl dX5_marketWord_5 ?_
  refine gf_X5_15_C1 hX dX5_marketWord_6 ?_
  refine G_nmi (fun x2 => ?_)
  refine G_iconst hX (-1 : Int32) rfl dX5_marketWord_9 ?_
  refine G_icmp_ne hX 25 (by decide) dX5_marketWord_10 ?_ ?_
  · refine G_aload_n hX 1 rfl rfl dX5_marketWord_25 ?_
    refine G_cVv hX 1 5 (fun ad adK => []) [] (fun z2 h2 => cX5_fail_ok (cx_l X) N μ z2 h2) ok_X5_fail lm_X5_75 atC1.1 atC1.2 rfl rfl (fun _ _ => rfl) (Nat.le_of_ble_eq_true rfl) ⟨rfl, rfl, by decide, by decide⟩ (cs0 hcs) dX5_marketWord_26 (fun μ => ?_)
    refine G_iconst hX (-1 : Int32) rfl dX5_marketWord_29 ?_
    exact G_iret hX hQ dX5_marketWord_30
  · refine G_iload_n hX 0 rfl rfl dX5_marketWord_13 ?_
    refine G_bipush hX (8 : Int32) rfl dX5_marketWord_14 ?_
    refine G_icmp_lt hX 25 (by decide) dX5_marketWord_16 ?_ ?_
    · refine G_aload_n hX 1 rfl rfl dX5_marketWord_25 ?_
      refine G_cVv hX 1 5 (fun ad adK => []) [] (fun z2 h2 => cX5_fail_ok (cx_l X) N μ z2 h2) ok_X5_fail lm_X5_75 atC1.1 atC1.2 rfl rfl (fun _ _ => rfl) (Nat.le_of_ble_eq_true rfl) ⟨rfl, rfl, by decide, by decide⟩ (cs0 hcs) dX5_marketWord_26 (fun μ => ?_)
      refine G_iconst hX (-1 : Int32) rfl dX5_marketWord_29 ?_
      exact G_iret hX hQ dX5_marketWord_30
    · refine G_iload_n hX 0 rfl rfl dX5_marketWord_19 ?_
      refine G_bipush hX (10 : Int32) rfl dX5_marketWord_20 ?_
      refine G_icmp_le hX 31 (by decide) dX5_marketWord_22 ?_ ?_
      · refine G_aload_n hX 1 rfl rfl dX5_marketWord_31 ?_
        refine G_cVv hX 1 5 (fun ad adK => []) [] (fun z2 h2 => cX5_step_ok (cx_l X) N μ z2 h2) ok_X5_step lm_X5_34 atC1.1 atC1.2 rfl rfl (fun _ _ => rfl) (Nat.le_of_ble_eq_true rfl) ⟨rfl, rfl, by decide, by decide⟩ (cs0 hcs) dX5_marketWord_32 (fun μ => ?_)
        refine G_iload_n hX 0 rfl rfl dX5_marketWord_35 ?_
        refine G_bipush hX (8 : Int32) rfl dX5_marketWord_36 ?_
        refine G_isub hX dX5_marketWord_38 ?_
        exact G_iret hX hQ dX5_marketWord_39
      · refine G_aload_n hX 1 rfl rfl dX5_marketWord_25 ?_
        refine G_cVv hX 1 5 (fun ad adK => []) [] (fun z2 h2 => cX5_fail_ok (cx_l X) N μ z2 h2) ok_X5_fail lm_X5_75 atC1.1 atC1.2 rfl rfl (fun _ _ => rfl) (Nat.le_of_ble_eq_true rfl) ⟨rfl, rfl, by decide, by decide⟩ (cs0 hcs) dX5_marketWord_26 (fun μ => ?_)
        refine G_iconst hX (-1 : Int32) rfl dX5_marketWord_29 ?_
        exact G_iret hX hQ dX5_marketWord_30
theorem cX5_marketWord_ok (l : Launch) (N : Nat) (μ : Mem) (z : Int32 × Mem) (h : fX5_marketWord N μ = some z) : Mi wC l yX5_marketWord cX5_marketWord 2 .int (rmo 6 127) (fun ad adK => [.ref (ad 1)]) μ z := Mi.of h (by decide +kernel) (fun _ _ => Nat.le_of_ble_eq_true rfl) (fun X hX hQ hl hcs => gX5_marketWord_E hX hQ hcs N μ)
/-! ===== DutyCase$Reader.adjustLine()V ===== -/
set_option maxHeartbeats 4000000 in
set_option maxRecDepth 100000 in
theorem gX5_adjustLine_E {X : Ctx} {z : Unit × Mem} (hX : Fx wC X cX5_adjustLine 3 RX5 none (rmo 28 649)) (hQ : Qx_v wC X z) (hcs : cx_cells X = 0 ∧ cx_slots X = 0) (N : Nat) (μ : Mem) : G wC X z 0 [(0, .ref (cx_ad X 1))] [] μ (fX5_adjustLine N μ) := by
  unfold fX5_adjustLine
  refine G_aload_n hX 0 rfl rfl dX5_adjustLine_0 ?_
  refine G_cVv hX 1 5 (fun ad adK => []) [] (fun z2 h2 => cX5_step_ok (cx_l X) N μ z2 h2) ok_X5_step lm_X5_34 atC1.1 atC1.2 rfl rfl (fun _ _ => rfl) (Nat.le_of_ble_eq_true rfl) ⟨rfl, rfl, by decide, by decide⟩ (cs0 hcs) dX5_adjustLine_1 (fun μ => ?_)
  refine G_aload_n hX 0 rfl rfl dX5_adjustLine_4 ?_
  refine G_cVi hX 1 5 (fun ad adK => []) [] (fun z2 h2 => cX5_marketWord_ok (cx_l X) N μ z2 h2) ok_X5_marketWord lm_X5_119 atC1.1 atC1.2 rfl rfl (fun _ _ => rfl) (Nat.le_of_ble_eq_true rfl) ⟨rfl, rfl, by decide, by decide⟩ (cs0 hcs) dX5_adjustLine_5 (fun r1 μ => ?_)
  refine G_istore_n hX [(1, .int r1), (0, .ref (cx_ad X 1))] rfl (by decide) rfl dX5_adjustLine_8 ?_
  refine G_aload_n hX 1 rfl rfl dX5_adjustLine_9 ?_
  refine gf_X5_19_C1 hX dX5_adjustLine_10 (fun b_2 hb_2 => ?_)
  refine gf_X5_122_B0 hX hb_2 dX5_adjustLine_13 ?_
  refine gf_X5_126_B7 hX hb_2 dX5_adjustLine_16 ?_
  refine G_nmi (fun x3 => ?_)
  refine G_istore_n hX [(2, .int x3), (1, .int r1), (0, .ref (cx_ad X 1))] rfl (by decide) rfl dX5_adjustLine_19 ?_
  refine G_aload_n hX 2 rfl rfl dX5_adjustLine_20 ?_
  refine G_iconst hX (0 : Int32) rfl dX5_adjustLine_21 ?_
  refine G_cVv hX 1 5 (fun ad adK => [.int (0 : Int32)]) [] (fun z2 h2 => cX5_rs8_ok (cx_l X) N (0 : Int32) μ z2 h2) ok_X5_readSum lm_X5_129 atC1.1 atC1.2 rfl rfl (fun _ _ => rfl) (Nat.le_of_ble_eq_true rfl) ⟨rfl, rfl, by decide, by decide⟩ (cs0 hcs) dX5_adjustLine_22 (fun μ => ?_)
  refine G_aload_n hX 2 rfl rfl dX5_adjustLine_25 ?_
  refine gf_X5_15_C1 hX dX5_adjustLine_26 ?_
  refine G_nmi (fun x4 => ?_)
  refine G_iconst hX (-1 : Int32) rfl dX5_adjustLine_29 ?_
  refine G_icmp_ne hX 45 (by decide) dX5_adjustLine_30 ?_ ?_
  · exact G_vret hX hQ dX5_adjustLine_45
  · refine G_aload_n hX 2 rfl rfl dX5_adjustLine_33 ?_
    refine gf_X5_19_C1 hX dX5_adjustLine_34 (fun b_5 hb_5 => ?_)
    refine gf_X5_122_B0 hX hb_5 dX5_adjustLine_37 ?_
    refine G_iload_n hX 1 rfl rfl dX5_adjustLine_40 ?_
    refine G_iload_n hX 0 rfl rfl dX5_adjustLine_41 ?_
    refine G_cVv hX (b_5 + 7) 9 (fun ad adK => [.int r1, .int x3]) [] (fun z2 h2 => cX9_tell_ok (cx_l X) N (b_5 + 7) r1 x3 μ z2 h2) ok_X9_tell lm_X5_132 (atB_7 hb_5).1 (atB_7 hb_5).2 rfl rfl (fun _ _ => rfl) (Nat.le_of_ble_eq_true rfl) ⟨rfl, rfl, by decide, by decide⟩ (cs0 hcs) dX5_adjustLine_42 (fun μ => ?_)
    exact G_vret hX hQ dX5_adjustLine_45
theorem cX5_adjustLine_ok (l : Launch) (N : Nat) (μ : Mem) (z : Unit × Mem) (h : fX5_adjustLine N μ = some z) : Mv wC l yX5_adjustLine cX5_adjustLine 3 (rmo 28 649) (fun ad adK => [.ref (ad 1)]) μ z := Mv.of h (by decide +kernel) (fun _ _ => Nat.le_of_ble_eq_true rfl) (fun X hX hQ hl hcs => gX5_adjustLine_E hX hQ hcs N μ)
/-! ===== DutyCase$Reader.sellLine()V ===== -/
set_option maxHeartbeats 4000000 in
set_option maxRecDepth 100000 in
theorem gX5_sellLine_E {X : Ctx} {z : Unit × Mem} (hX : Fx wC X cX5_sellLine 8 RX5 none (rmo 7 148)) (hQ : Qx_v wC X z) (hcs : cx_cells X = 0 ∧ cx_slots X = 0) (N : Nat) (μ : Mem) : G wC X z 0 [(0, .ref (cx_ad X 1))] [] μ (fX5_sellLine N μ) := by
  unfold fX5_sellLine
  refine G_aload_n hX 0 rfl rfl dX5_sellLine_0 ?_
  refine gf_X5_19_C1 hX dX5_sellLine_1 (fun b_1 hb_1 => ?_)
  refine gf_X5_136_B0 hX hb_1 dX5_sellLine_4 ?_
  refine gf_X5_140_B12 hX hb_1 dX5_sellLine_7 ?_
  refine G_nmi (fun x2 => ?_)
  refine G_bipush hX (40 : Int32) rfl dX5_sellLine_10 ?_
  refine G_icmp_lt hX 20 (by decide) dX5_sellLine_12 ?_ ?_
  · refine G_aload_n hX 0 rfl rfl dX5_sellLine_20 ?_
    refine G_cVv hX 1 5 (fun ad adK => []) [] (fun z2 h2 => cX5_step_ok (cx_l X) N μ z2 h2) ok_X5_step lm_X5_34 atC1.1 atC1.2 rfl rfl (fun _ _ => rfl) (Nat.le_of_ble_eq_true rfl) ⟨rfl, rfl, by decide, by decide⟩ (cs0 hcs) dX5_sellLine_21 (fun μ => ?_)
    refine G_aload_n hX 0 rfl rfl dX5_sellLine_24 ?_
    refine G_cVi hX 1 5 (fun ad adK => []) [] (fun z2 h2 => cX5_marketWord_ok (cx_l X) N μ z2 h2) ok_X5_marketWord lm_X5_119 atC1.1 atC1.2 rfl rfl (fun _ _ => rfl) (Nat.le_of_ble_eq_true rfl) ⟨rfl, rfl, by decide, by decide⟩ (cs0 hcs) dX5_sellLine_25 (fun r3 μ => ?_)
    refine G_istore_n hX [(1, .int r3), (0, .ref (cx_ad X 1))] rfl (by decide) rfl dX5_sellLine_28 ?_
    refine G_aload_n hX 1 rfl rfl dX5_sellLine_29 ?_
    refine G_aload_n hX 1 rfl rfl dX5_sellLine_30 ?_
    refine gf_X5_19_C1 hX dX5_sellLine_31 (fun b_4 hb_4 => ?_)
    refine gf_X5_105_B0 hX hb_4 dX5_sellLine_34 ?_
    refine G_cVi hX 1 5 (fun ad adK => [.ref (ad (b_4 + 4))]) [] (fun z2 h2 => cX5_toldName_ok (cx_l X) N (b_4 + 4) μ z2 h2) ok_X5_toldName lm_X5_108 atC1.1 atC1.2 rfl rfl (fun _ _ => rfl) (Nat.le_of_ble_eq_true rfl) ⟨rfl, rfl, by decide, by decide⟩ (cs0 hcs) dX5_sellLine_37 (fun r5 μ => ?_)
    refine G_istore_n hX [(2, .int r5), (1, .int r3), (0, .ref (cx_ad X 1))] rfl (by decide) rfl dX5_sellLine_40 ?_
    refine G_aload_n hX 2 rfl rfl dX5_sellLine_41 ?_
    refine G_aload_n hX 2 rfl rfl dX5_sellLine_42 ?_
    refine gf_X5_19_C1 hX dX5_sellLine_43 (fun b_6 hb_6 => ?_)
    refine gf_X5_78_B0 hX hb_6 dX5_sellLine_46 ?_
    refine G_cVi hX 1 5 (fun ad adK => [.ref (ad (b_6 + 1))]) [] (fun z2 h2 => cX5_toldName_ok (cx_l X) N (b_6 + 1) μ z2 h2) ok_X5_toldName lm_X5_108 atC1.1 atC1.2 rfl rfl (fun _ _ => rfl) (Nat.le_of_ble_eq_true rfl) ⟨rfl, rfl, by decide, by decide⟩ (cs0 hcs) dX5_sellLine_49 (fun r7 μ => ?_)
    refine G_istore_n hX [(3, .int r7), (2, .int r5), (1, .int r3), (0, .ref (cx_ad X 1))] rfl (by decide) rfl dX5_sellLine_52 ?_
    refine G_aload_n hX 3 rfl rfl dX5_sellLine_53 ?_
    refine G_iconst hX (0 : Int32) rfl dX5_sellLine_54 ?_
    refine G_iconst hX (3 : Int32) rfl dX5_sellLine_55 ?_
    refine G_cVi hX 1 5 (fun ad adK => [.int (0 : Int32), .int (3 : Int32)]) [] (fun z2 h2 => cX5_number_ok (cx_l X) N (0 : Int32) (3 : Int32) μ z2 h2) ok_X5_number lm_X5_95 atC1.1 atC1.2 rfl rfl (fun _ _ => rfl) (Nat.le_of_ble_eq_true rfl) ⟨rfl, rfl, by decide, by decide⟩ (cs0 hcs) dX5_sellLine_56 (fun r8 μ => ?_)
    refine G_istore hX [(4, .int r8), (3, .int r7), (2, .int r5), (1, .int r3), (0, .ref (cx_ad X 1))] (by decide) rfl dX5_sellLine_59 ?_
    refine G_aload_n hX 4 rfl rfl dX5_sellLine_61 ?_
    refine G_iconst hX (0 : Int32) rfl dX5_sellLine_62 ?_
    refine G_bipush hX (11 : Int32) rfl dX5_sellLine_63 ?_
    refine G_cVi hX 1 5 (fun ad adK => [.int (0 : Int32), .int (11 : Int32)]) [] (fun z2 h2 => cX5_number_ok (cx_l X) N (0 : Int32) (11 : Int32) μ z2 h2) ok_X5_number lm_X5_95 atC1.1 atC1.2 rfl rfl (fun _ _ => rfl) (Nat.le_of_ble_eq_true rfl) ⟨rfl, rfl, by decide, by decide⟩ (cs0 hcs) dX5_sellLine_65 (fun r9 μ => ?_)
    refine G_istore hX [(5, .int r9), (4, .int r8), (3, .int r7), (2, .int r5), (1, .int r3), (0, .ref (cx_ad X 1))] (by decide) rfl dX5_sellLine_68 ?_
    refine G_aload_n hX 5 rfl rfl dX5_sellLine_70 ?_
    refine G_iconst hX (1 : Int32) rfl dX5_sellLine_71 ?_
    refine G_sipush hX (999 : Int32) rfl dX5_sellLine_72 ?_
    refine G_cVi hX 1 5 (fun ad adK => [.int (1 : Int32), .int (999 : Int32)]) [] (fun z2 h2 => cX5_number_ok (cx_l X) N (1 : Int32) (999 : Int32) μ z2 h2) ok_X5_number lm_X5_95 atC1.1 atC1.2 rfl rfl (fun _ _ => rfl) (Nat.le_of_ble_eq_true rfl) ⟨rfl, rfl, by decide, by decide⟩ (cs0 hcs) dX5_sellLine_75 (fun r10 μ => ?_)
    refine G_istore hX [(6, .int r10), (5, .int r9), (4, .int r8), (3, .int r7), (2, .int r5), (1, .int r3), (0, .ref (cx_ad X 1))] (by decide) rfl dX5_sellLine_78 ?_
    refine G_aload_n hX 6 rfl rfl dX5_sellLine_80 ?_
    refine G_iconst hX (1 : Int32) rfl dX5_sellLine_81 ?_
    refine G_sipush hX (9999 : Int32) rfl dX5_sellLine_82 ?_
    refine G_cVi hX 1 5 (fun ad adK => [.int (1 : Int32), .int (9999 : Int32)]) [] (fun z2 h2 => cX5_number_ok (cx_l X) N (1 : Int32) (9999 : Int32) μ z2 h2) ok_X5_number lm_X5_95 atC1.1 atC1.2 rfl rfl (fun _ _ => rfl) (Nat.le_of_ble_eq_true rfl) ⟨rfl, rfl, by decide, by decide⟩ (cs0 hcs) dX5_sellLine_85 (fun r11 μ => ?_)
    refine G_istore hX [(7, .int r11), (6, .int r10), (5, .int r9), (4, .int r8), (3, .int r7), (2, .int r5), (1, .int r3), (0, .ref (cx_ad X 1))] (by decide) rfl dX5_sellLine_88 ?_
    refine G_aload_n hX 7 rfl rfl dX5_sellLine_90 ?_
    refine gf_X5_15_C1 hX dX5_sellLine_91 ?_
    refine G_nmi (fun x12 => ?_)
    refine G_iconst hX (-1 : Int32) rfl dX5_sellLine_94 ?_
    refine G_icmp_ne hX 119 (by decide) dX5_sellLine_95 ?_ ?_
    · exact G_vret hX hQ dX5_sellLine_119
    · refine G_aload_n hX 7 rfl rfl dX5_sellLine_98 ?_
      refine gf_X5_19_C1 hX dX5_sellLine_99 (fun b_13 hb_13 => ?_)
      refine gf_X5_136_B0 hX hb_13 dX5_sellLine_102 ?_
      refine G_iload_n hX 6 rfl rfl dX5_sellLine_105 ?_
      refine G_iload_n hX 5 rfl rfl dX5_sellLine_106 ?_
      refine G_iload_n hX 4 rfl rfl dX5_sellLine_107 ?_
      refine G_iload hX 3 rfl dX5_sellLine_108 ?_
      refine G_iload hX 2 rfl dX5_sellLine_110 ?_
      refine G_iload hX 1 rfl dX5_sellLine_112 ?_
      refine G_iload hX 0 rfl dX5_sellLine_114 ?_
      refine G_cVv hX (b_13 + 12) 7 (fun ad adK => [.int r3, .int r5, .int r7, .int r8, .int r9, .int r10, .int r11]) [] (fun z2 h2 => cX7_add_ok (cx_l X) N (b_13 + 12) r3 r5 r7 r8 r9 r10 r11 μ z2 h2) ok_X7_add lm_X5_143 (atB_12 hb_13).1 (atB_12 hb_13).2 rfl rfl (fun _ _ => rfl) (Nat.le_of_ble_eq_true rfl) ⟨rfl, rfl, by decide, by decide⟩ (cs0 hcs) dX5_sellLine_116 (fun μ => ?_)
      exact G_vret hX hQ dX5_sellLine_119
  · refine G_aload_n hX 0 rfl rfl dX5_sellLine_15 ?_
    refine G_cVv hX 1 5 (fun ad adK => []) [] (fun z2 h2 => cX5_fail_ok (cx_l X) N μ z2 h2) ok_X5_fail lm_X5_75 atC1.1 atC1.2 rfl rfl (fun _ _ => rfl) (Nat.le_of_ble_eq_true rfl) ⟨rfl, rfl, by decide, by decide⟩ (cs0 hcs) dX5_sellLine_16 (fun μ => ?_)
    exact G_vret hX hQ dX5_sellLine_19
theorem cX5_sellLine_ok (l : Launch) (N : Nat) (μ : Mem) (z : Unit × Mem) (h : fX5_sellLine N μ = some z) : Mv wC l yX5_sellLine cX5_sellLine 8 (rmo 7 148) (fun ad adK => [.ref (ad 1)]) μ z := Mv.of h (by decide +kernel) (fun _ _ => Nat.le_of_ble_eq_true rfl) (fun X hX hQ hl hcs => gX5_sellLine_E hX hQ hcs N μ)
/-! ===== DutyCase$Reader.settingLine(I)V ===== -/
set_option maxHeartbeats 4000000 in
set_option maxRecDepth 100000 in
theorem gX5_settingLine_E {X : Ctx} {z : Unit × Mem} (hX : Fx wC X cX5_settingLine 2 RX5 none (rmo 3 63)) (hQ : Qx_v wC X z) (hcs : cx_cells X = 0 ∧ cx_slots X = 0) (N : Nat) (p0 : Int32) (μ : Mem) : G wC X z 0 [(0, .ref (cx_ad X 1)), (1, .int p0)] [] μ (fX5_settingLine N p0 μ) := by
  unfold fX5_settingLine
  refine G_aload_n hX 0 rfl rfl dX5_settingLine_0 ?_
  refine G_cVv hX 1 5 (fun ad adK => []) [] (fun z2 h2 => cX5_step_ok (cx_l X) N μ z2 h2) ok_X5_step lm_X5_34 atC1.1 atC1.2 rfl rfl (fun _ _ => rfl) (Nat.le_of_ble_eq_true rfl) ⟨rfl, rfl, by decide, by decide⟩ (cs0 hcs) dX5_settingLine_1 (fun μ => ?_)
  refine G_aload_n hX 0 rfl rfl dX5_settingLine_4 ?_
  refine gf_X5_19_C1 hX dX5_settingLine_5 (fun b_1 hb_1 => ?_)
  refine gf_X5_147_B0 hX hb_1 dX5_settingLine_8 ?_
  refine G_iload_n hX 1 rfl rfl dX5_settingLine_11 ?_
  refine G_aload_n hX 0 rfl rfl dX5_settingLine_12 ?_
  refine G_iconst hX (0 : Int32) rfl dX5_settingLine_13 ?_
  refine G_bipush hX (99 : Int32) rfl dX5_settingLine_14 ?_
  refine G_cVi hX 1 5 (fun ad adK => [.int (0 : Int32), .int (99 : Int32)]) [.int p0, .ref (cx_ad X (b_1 + 28))] (fun z2 h2 => cX5_number_ok (cx_l X) N (0 : Int32) (99 : Int32) μ z2 h2) ok_X5_number lm_X5_95 atC1.1 atC1.2 rfl rfl (fun _ _ => rfl) (Nat.le_of_ble_eq_true rfl) ⟨rfl, rfl, by decide, by decide⟩ (cs0 hcs) dX5_settingLine_16 (fun r2 μ => ?_)
  refine G_sI hX (atB_28 hb_1) dX5_settingLine_19 (fun μ => ?_)
  exact G_vret hX hQ dX5_settingLine_20
theorem cX5_settingLine_ok (l : Launch) (N : Nat) (p0 : Int32) (μ : Mem) (z : Unit × Mem) (h : fX5_settingLine N p0 μ = some z) : Mv wC l yX5_settingLine cX5_settingLine 2 (rmo 3 63) (fun ad adK => [.ref (ad 1), .int p0]) μ z := Mv.of h (by decide +kernel) (fun _ _ => Nat.le_of_ble_eq_true rfl) (fun X hX hQ hl hcs => gX5_settingLine_E hX hQ hcs N p0 μ)
/-! ===== DutyCase$Reader.line()V ===== -/
set_option maxHeartbeats 4000000 in
set_option maxRecDepth 100000 in
theorem gX5_line_E {X : Ctx} {z : Unit × Mem} (hX : Fx wC X cX5_line 1 RX5 none (rmo 29 671)) (hQ : Qx_v wC X z) (hcs : cx_cells X = 0 ∧ cx_slots X = 0) (N : Nat) (μ : Mem) : G wC X z 0 [(0, .ref (cx_ad X 1))] [] μ (fX5_line N μ) := by
  unfold fX5_line
  refine G_aload_n hX 0 rfl rfl dX5_line_0 ?_
  refine G_cVi hX 1 5 (fun ad adK => []) [] (fun z2 h2 => cX5_keyword_ok (cx_l X) N μ z2 h2) ok_X5_keyword lm_X5_50 atC1.1 atC1.2 rfl rfl (fun _ _ => rfl) (Nat.le_of_ble_eq_true rfl) ⟨rfl, rfl, by decide, by decide⟩ (cs0 hcs) dX5_line_1 (fun r1 μ => ?_)
  refine G_sw (fun hc0 => ?_) (fun hc0 => ?_)
  · refine G_swIn hX 52 0 (0) (by rw [hc0]; rfl) (by decide) (by decide) rfl rfl (by decide) dX5_line_4 ?_
    refine G_aload_n hX 0 rfl rfl dX5_line_52 ?_
    refine G_cVv hX 1 5 (fun ad adK => []) [] (fun z2 h2 => cX5_modelLine_ok (cx_l X) N μ z2 h2) ok_X5_modelLine lm_X5_54 atC1.1 atC1.2 rfl rfl (fun _ _ => rfl) (Nat.le_of_ble_eq_true rfl) ⟨rfl, rfl, by decide, by decide⟩ (cs0 hcs) dX5_line_53 (fun μ => ?_)
    refine G_goto hX 114 (by decide) dX5_line_56 ?_
    exact G_vret hX hQ dX5_line_114
  refine G_sw (fun hc1 => ?_) (fun hc1 => ?_)
  · refine G_swIn hX 59 1 (1) (by rw [hc1]; rfl) (by decide) (by decide) rfl rfl (by decide) dX5_line_4 ?_
    refine G_aload_n hX 0 rfl rfl dX5_line_59 ?_
    refine G_cVv hX 1 5 (fun ad adK => []) [] (fun z2 h2 => cX5_firmLine_ok (cx_l X) N μ z2 h2) ok_X5_firmLine lm_X5_57 atC1.1 atC1.2 rfl rfl (fun _ _ => rfl) (Nat.le_of_ble_eq_true rfl) ⟨rfl, rfl, by decide, by decide⟩ (cs0 hcs) dX5_line_60 (fun μ => ?_)
    refine G_goto hX 114 (by decide) dX5_line_63 ?_
    exact G_vret hX hQ dX5_line_114
  refine G_sw (fun hc2 => ?_) (fun hc2 => ?_)
  · refine G_swIn hX 66 2 (2) (by rw [hc2]; rfl) (by decide) (by decide) rfl rfl (by decide) dX5_line_4 ?_
    refine G_aload_n hX 0 rfl rfl dX5_line_66 ?_
    refine G_cVv hX 1 5 (fun ad adK => []) [] (fun z2 h2 => cX5_silentLine_ok (cx_l X) N μ z2 h2) ok_X5_silentLine lm_X5_60 atC1.1 atC1.2 rfl rfl (fun _ _ => rfl) (Nat.le_of_ble_eq_true rfl) ⟨rfl, rfl, by decide, by decide⟩ (cs0 hcs) dX5_line_67 (fun μ => ?_)
    refine G_goto hX 114 (by decide) dX5_line_70 ?_
    exact G_vret hX hQ dX5_line_114
  refine G_sw (fun hc3 => ?_) (fun hc3 => ?_)
  · refine G_swIn hX 73 3 (3) (by rw [hc3]; rfl) (by decide) (by decide) rfl rfl (by decide) dX5_line_4 ?_
    refine G_aload_n hX 0 rfl rfl dX5_line_73 ?_
    refine G_cVv hX 1 5 (fun ad adK => []) [] (fun z2 h2 => cX5_costLine_ok (cx_l X) N μ z2 h2) ok_X5_costLine lm_X5_63 atC1.1 atC1.2 rfl rfl (fun _ _ => rfl) (Nat.le_of_ble_eq_true rfl) ⟨rfl, rfl, by decide, by decide⟩ (cs0 hcs) dX5_line_74 (fun μ => ?_)
    refine G_goto hX 114 (by decide) dX5_line_77 ?_
    exact G_vret hX hQ dX5_line_114
  refine G_sw (fun hc4 => ?_) (fun hc4 => ?_)
  · refine G_swIn hX 80 4 (4) (by rw [hc4]; rfl) (by decide) (by decide) rfl rfl (by decide) dX5_line_4 ?_
    refine G_aload_n hX 0 rfl rfl dX5_line_80 ?_
    refine G_cVv hX 1 5 (fun ad adK => []) [] (fun z2 h2 => cX5_adjustLine_ok (cx_l X) N μ z2 h2) ok_X5_adjustLine lm_X5_66 atC1.1 atC1.2 rfl rfl (fun _ _ => rfl) (Nat.le_of_ble_eq_true rfl) ⟨rfl, rfl, by decide, by decide⟩ (cs0 hcs) dX5_line_81 (fun μ => ?_)
    refine G_goto hX 114 (by decide) dX5_line_84 ?_
    exact G_vret hX hQ dX5_line_114
  refine G_sw (fun hc5 => ?_) (fun hc5 => ?_)
  · refine G_swIn hX 87 5 (5) (by rw [hc5]; rfl) (by decide) (by decide) rfl rfl (by decide) dX5_line_4 ?_
    refine G_aload_n hX 0 rfl rfl dX5_line_87 ?_
    refine G_cVv hX 1 5 (fun ad adK => []) [] (fun z2 h2 => cX5_sellLine_ok (cx_l X) N μ z2 h2) ok_X5_sellLine lm_X5_69 atC1.1 atC1.2 rfl rfl (fun _ _ => rfl) (Nat.le_of_ble_eq_true rfl) ⟨rfl, rfl, by decide, by decide⟩ (cs0 hcs) dX5_line_88 (fun μ => ?_)
    refine G_goto hX 114 (by decide) dX5_line_91 ?_
    exact G_vret hX hQ dX5_line_114
  refine G_sw (fun hc6 => ?_) (fun hc6 => ?_)
  · refine G_swIn hX 94 6 (6) (by rw [hc6]; rfl) (by decide) (by decide) rfl rfl (by decide) dX5_line_4 ?_
    refine G_aload_n hX 0 rfl rfl dX5_line_94 ?_
    refine G_iconst hX (4 : Int32) rfl dX5_line_95 ?_
    refine G_cVv hX 1 5 (fun ad adK => [.int (4 : Int32)]) [] (fun z2 h2 => cX5_settingLine_ok (cx_l X) N (4 : Int32) μ z2 h2) ok_X5_settingLine lm_X5_72 atC1.1 atC1.2 rfl rfl (fun _ _ => rfl) (Nat.le_of_ble_eq_true rfl) ⟨rfl, rfl, by decide, by decide⟩ (cs0 hcs) dX5_line_96 (fun μ => ?_)
    refine G_goto hX 114 (by decide) dX5_line_99 ?_
    exact G_vret hX hQ dX5_line_114
  refine G_sw (fun hc7 => ?_) (fun hc7 => ?_)
  · refine G_swIn hX 102 7 (7) (by rw [hc7]; rfl) (by decide) (by decide) rfl rfl (by decide) dX5_line_4 ?_
    refine G_aload_n hX 0 rfl rfl dX5_line_102 ?_
    refine G_iconst hX (5 : Int32) rfl dX5_line_103 ?_
    refine G_cVv hX 1 5 (fun ad adK => [.int (5 : Int32)]) [] (fun z2 h2 => cX5_settingLine_ok (cx_l X) N (5 : Int32) μ z2 h2) ok_X5_settingLine lm_X5_72 atC1.1 atC1.2 rfl rfl (fun _ _ => rfl) (Nat.le_of_ble_eq_true rfl) ⟨rfl, rfl, by decide, by decide⟩ (cs0 hcs) dX5_line_104 (fun μ => ?_)
    refine G_goto hX 114 (by decide) dX5_line_107 ?_
    exact G_vret hX hQ dX5_line_114
  refine G_swOut hX 110 (by decide) dX5_line_4 (by have e0 := lv_neT (a := (0 : Int)) hc0 rfl; have e1 := lv_neT (a := (1 : Int)) hc1 rfl; have e2 := lv_neT (a := (2 : Int)) hc2 rfl; have e3 := lv_neT (a := (3 : Int)) hc3 rfl; have e4 := lv_neT (a := (4 : Int)) hc4 rfl; have e5 := lv_neT (a := (5 : Int)) hc5 rfl; have e6 := lv_neT (a := (6 : Int)) hc6 rfl; have e7 := lv_neT (a := (7 : Int)) hc7 rfl; omega) ?_
  refine G_aload_n hX 0 rfl rfl dX5_line_110 ?_
  refine G_cVv hX 1 5 (fun ad adK => []) [] (fun z2 h2 => cX5_fail_ok (cx_l X) N μ z2 h2) ok_X5_fail lm_X5_75 atC1.1 atC1.2 rfl rfl (fun _ _ => rfl) (Nat.le_of_ble_eq_true rfl) ⟨rfl, rfl, by decide, by decide⟩ (cs0 hcs) dX5_line_111 (fun μ => ?_)
  exact G_vret hX hQ dX5_line_114
theorem cX5_line_ok (l : Launch) (N : Nat) (μ : Mem) (z : Unit × Mem) (h : fX5_line N μ = some z) : Mv wC l yX5_line cX5_line 1 (rmo 29 671) (fun ad adK => [.ref (ad 1)]) μ z := Mv.of h (by decide +kernel) (fun _ _ => Nat.le_of_ble_eq_true rfl) (fun X hX hQ hl hcs => gX5_line_E hX hQ hcs N μ)
/-! ===== DutyCase$Reader.parse(LDutyCase$Book;)V ===== -/
set_option maxHeartbeats 4000000 in
set_option maxRecDepth 100000 in
theorem gX5_parse_69 {X : Ctx} {z : Unit × Mem} (hX : Fx wC X cX5_parse 3 RX5 none (rmo 30 691)) (hQ : Qx_v wC X z) (hcs : cx_cells X = 0 ∧ cx_slots X = 0) (N : Nat) (μ : Mem) : G wC X z 69 [(0, .ref (cx_ad X 1))] [] μ (fX5_parse_69 N μ) := by
  unfold fX5_parse_69
  refine G_aload_n hX 0 rfl rfl dX5_parse_69 ?_
  refine gf_X5_15_C1 hX dX5_parse_70 ?_
  refine G_nmi (fun x5 => ?_)
  refine G_iconst hX (-1 : Int32) rfl dX5_parse_73 ?_
  refine G_icmp_ne hX 84 (by decide) dX5_parse_74 ?_ ?_
  · exact G_vret hX hQ dX5_parse_84
  · refine G_aload_n hX 0 rfl rfl dX5_parse_77 ?_
    refine gf_X5_19_C1 hX dX5_parse_78 (fun b_6 hb_6 => ?_)
    refine G_cVv hX b_6 1 (fun ad adK => []) [] (fun z2 h2 => cX1_workOutAll_ok (cx_l X) N b_6 μ z2 h2) ok_X1_workOutAll lm_X5_47 (atB_0 hb_6).1 (atB_0 hb_6).2 rfl rfl (fun _ _ => rfl) (Nat.le_of_ble_eq_true rfl) ⟨rfl, rfl, by decide, by decide⟩ (cs0 hcs) dX5_parse_81 (fun μ => ?_)
    exact G_vret hX hQ dX5_parse_84
set_option maxHeartbeats 4000000 in
set_option maxRecDepth 100000 in
theorem gX5_parse_28 {X : Ctx} {z : Unit × Mem} (hX : Fx wC X cX5_parse 3 RX5 none (rmo 30 691)) (hQ : Qx_v wC X z) (hcs : cx_cells X = 0 ∧ cx_slots X = 0) (N : Nat) : ∀ (n : Nat) (v2 : Int32) (μ : Mem), G wC X z 28 [(0, .ref (cx_ad X 1)), (2, .int v2)] [] μ (fX5_parse_28 N n v2 μ) := by
  intro n
  induction n with
  | zero =>
    intro v2 μ
    exact G_none
  | succ n ih =>
    intro v2 μ
    unfold fX5_parse_28
    refine G_iload_n hX 1 rfl rfl dX5_parse_28 ?_
    refine G_sipush hX (400 : Int32) rfl dX5_parse_29 ?_
    refine G_icmp_ge hX 69 (by decide) dX5_parse_32 ?_ ?_
    · exact G_sub [0] rfl (gX5_parse_69 hX hQ hcs N μ)
    · refine G_aload_n hX 0 rfl rfl dX5_parse_35 ?_
      refine gf_X5_37_C1 hX dX5_parse_36 ?_
      refine G_nmi (fun x2 => ?_)
      refine G_sipush hX (258 : Int32) rfl dX5_parse_39 ?_
      refine G_icmp_eq hX 69 (by decide) dX5_parse_42 ?_ ?_
      · exact G_sub [0] rfl (gX5_parse_69 hX hQ hcs N μ)
      · refine G_aload_n hX 0 rfl rfl dX5_parse_45 ?_
        refine gf_X5_15_C1 hX dX5_parse_46 ?_
        refine G_nmi (fun x3 => ?_)
        refine G_iconst hX (-1 : Int32) rfl dX5_parse_49 ?_
        refine G_icmp_ne hX 69 (by decide) dX5_parse_50 ?_ ?_
        · exact G_sub [0] rfl (gX5_parse_69 hX hQ hcs N μ)
        · refine G_aload_n hX 0 rfl rfl dX5_parse_53 ?_
          refine G_cVv hX 1 5 (fun ad adK => []) [] (fun z2 h2 => cX5_line_ok (cx_l X) N μ z2 h2) ok_X5_line lm_X5_40 atC1.1 atC1.2 rfl rfl (fun _ _ => rfl) (Nat.le_of_ble_eq_true rfl) ⟨rfl, rfl, by decide, by decide⟩ (cs0 hcs) dX5_parse_54 (fun μ => ?_)
          refine G_aload_n hX 0 rfl rfl dX5_parse_57 ?_
          refine G_bipush hX (59 : Int32) rfl dX5_parse_58 ?_
          refine G_cVv hX 1 5 (fun ad adK => [.int (59 : Int32)]) [] (fun z2 h2 => cX5_take_ok (cx_l X) N (59 : Int32) μ z2 h2) ok_X5_take lm_X5_43 atC1.1 atC1.2 rfl rfl (fun _ _ => rfl) (Nat.le_of_ble_eq_true rfl) ⟨rfl, rfl, by decide, by decide⟩ (cs0 hcs) dX5_parse_60 (fun μ => ?_)
          refine G_iincN hX 1 (fun x4 => [(2, .int x4), (0, .ref (cx_ad X 1))]) rfl rfl (by decide) (fun _ => rfl) dX5_parse_63 (fun x4 => ?_)
          refine G_goto hX 28 (by decide) dX5_parse_66 ?_
          exact G_sub [1, 0] rfl (ih x4 μ)
set_option maxHeartbeats 4000000 in
set_option maxRecDepth 100000 in
theorem gX5_parse_E {X : Ctx} {z : Unit × Mem} (hX : Fx wC X cX5_parse 3 RX5 none (rmo 30 691)) (hQ : Qx_v wC X z) (hcs : cx_cells X = 0 ∧ cx_slots X = 0) (N : Nat) (p0 : Nat) (μ : Mem) : G wC X z 0 [(0, .ref (cx_ad X 1)), (1, .ref (cx_ad X p0))] [] μ (fX5_parse N p0 μ) := by
  unfold fX5_parse
  refine G_guard (fun hp0 => ?_)
  refine G_aload_n hX 0 rfl rfl dX5_parse_0 ?_
  refine G_aload_n hX 1 rfl rfl dX5_parse_1 ?_
  refine pf_X5_19_C1 hX dX5_parse_2 (fun μ => ?_)
  refine G_aload_n hX 0 rfl rfl dX5_parse_5 ?_
  refine gf_X5_19_C1 hX dX5_parse_6 (fun b_1 hb_1 => ?_)
  refine G_cVv hX b_1 1 (fun ad adK => []) [] (fun z2 h2 => cX1_clear_ok (cx_l X) N b_1 μ z2 h2) ok_X1_clear lm_X5_26 (atB_0 hb_1).1 (atB_0 hb_1).2 rfl rfl (fun _ _ => rfl) (Nat.le_of_ble_eq_true rfl) ⟨rfl, rfl, by decide, by decide⟩ (cs0 hcs) dX5_parse_9 (fun μ => ?_)
  refine G_aload_n hX 0 rfl rfl dX5_parse_12 ?_
  refine G_iconst hX (-1 : Int32) rfl dX5_parse_13 ?_
  refine pf_X5_15_C1 hX dX5_parse_14 (fun μ => ?_)
  refine G_aload_n hX 0 rfl rfl dX5_parse_17 ?_
  refine G_iconst hX (0 : Int32) rfl dX5_parse_18 ?_
  refine pf_X5_31_C1 hX dX5_parse_19 (fun μ => ?_)
  refine G_aload_n hX 0 rfl rfl dX5_parse_22 ?_
  refine G_cVv hX 1 5 (fun ad adK => []) [] (fun z2 h2 => cX5_step_ok (cx_l X) N μ z2 h2) ok_X5_step lm_X5_34 atC1.1 atC1.2 rfl rfl (fun _ _ => rfl) (Nat.le_of_ble_eq_true rfl) ⟨rfl, rfl, by decide, by decide⟩ (cs0 hcs) dX5_parse_23 (fun μ => ?_)
  refine G_iconst hX (0 : Int32) rfl dX5_parse_26 ?_
  refine G_istore_n hX [(2, .int (0 : Int32)), (0, .ref (cx_ad X 1)), (1, .ref (cx_ad X p0))] rfl (by decide) rfl dX5_parse_27 ?_
  exact G_sub [1, 0] rfl (gX5_parse_28 hX hQ hcs N N (0 : Int32) μ)
theorem cX5_parse_ok (l : Launch) (N : Nat) (p0 : Nat) (μ : Mem) (z : Unit × Mem) (h : fX5_parse N p0 μ = some z) : Mv wC l yX5_parse cX5_parse 3 (rmo 30 691) (fun ad adK => [.ref (ad 1), .ref (ad p0)]) μ z := Mv.of h (by decide +kernel) (fun _ _ => Nat.le_of_ble_eq_true rfl) (fun X hX hQ hl hcs => gX5_parse_E hX hQ hcs N p0 μ)
