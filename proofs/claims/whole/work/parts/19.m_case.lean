/-! ===== DutyCase.feed(IIIII)I ===== -/
set_option maxHeartbeats 4000000 in
set_option maxRecDepth 100000 in
theorem gX10_feed_E {X : Ctx} {z : Int32 × Mem} (hX : Fx wC X cX10_feed 6 RX10 (some .int) (rmo 1 22)) (hQ : Qx_i wC X z) (hcs : cx_cells X = 0 ∧ cx_slots X = 0) (N : Nat) (p0 : Int32) (p1 : Int32) (p2 : Int32) (p3 : Int32) (p4 : Int32) (μ : Mem) : G wC X z 0 [(0, .ref (cx_ad X 0)), (1, .int p0), (2, .int p1), (3, .int p2), (4, .int p3), (5, .int p4)] [] μ (fX10_feed N p0 p1 p2 p3 p4 μ) := by
  unfold fX10_feed
  refine G_aload_n hX 0 rfl rfl dX10_feed_0 ?_
  refine gf_X10_24_C0 hX dX10_feed_1 ?_
  refine gf_X10_67_C1 hX dX10_feed_4 ?_
  refine G_nmi (fun x1 => ?_)
  refine G_bipush hX (20 : Int32) rfl dX10_feed_7 ?_
  refine G_iadd hX dX10_feed_9 ?_
  refine G_sipush hX (400 : Int32) rfl dX10_feed_10 ?_
  refine G_icmp_le hX 18 (by decide) dX10_feed_13 ?_ ?_
  · refine G_aload_n hX 0 rfl rfl dX10_feed_18 ?_
    refine gf_X10_24_C0 hX dX10_feed_19 ?_
    refine G_iload_n hX 1 rfl rfl dX10_feed_22 ?_
    refine G_cVv hX 1 5 (fun ad adK => [.int p0]) [] (fun z2 h2 => cX5_append_ok (cx_l X) N p0 μ z2 h2) ok_X5_append lm_X10_71 atC1.1 atC1.2 rfl rfl (fun _ _ => rfl) (Nat.le_of_ble_eq_true rfl) ⟨rfl, rfl, by decide, by decide⟩ (cs0 hcs) dX10_feed_23 (fun μ => ?_)
    refine G_aload_n hX 0 rfl rfl dX10_feed_26 ?_
    refine gf_X10_24_C0 hX dX10_feed_27 ?_
    refine G_iload_n hX 2 rfl rfl dX10_feed_30 ?_
    refine G_cVv hX 1 5 (fun ad adK => [.int p1]) [] (fun z2 h2 => cX5_append_ok (cx_l X) N p1 μ z2 h2) ok_X5_append lm_X10_71 atC1.1 atC1.2 rfl rfl (fun _ _ => rfl) (Nat.le_of_ble_eq_true rfl) ⟨rfl, rfl, by decide, by decide⟩ (cs0 hcs) dX10_feed_31 (fun μ => ?_)
    refine G_aload_n hX 0 rfl rfl dX10_feed_34 ?_
    refine gf_X10_24_C0 hX dX10_feed_35 ?_
    refine G_iload_n hX 3 rfl rfl dX10_feed_38 ?_
    refine G_cVv hX 1 5 (fun ad adK => [.int p2]) [] (fun z2 h2 => cX5_append_ok (cx_l X) N p2 μ z2 h2) ok_X5_append lm_X10_71 atC1.1 atC1.2 rfl rfl (fun _ _ => rfl) (Nat.le_of_ble_eq_true rfl) ⟨rfl, rfl, by decide, by decide⟩ (cs0 hcs) dX10_feed_39 (fun μ => ?_)
    refine G_aload_n hX 0 rfl rfl dX10_feed_42 ?_
    refine gf_X10_24_C0 hX dX10_feed_43 ?_
    refine G_iload hX 4 rfl dX10_feed_46 ?_
    refine G_cVv hX 1 5 (fun ad adK => [.int p3]) [] (fun z2 h2 => cX5_append_ok (cx_l X) N p3 μ z2 h2) ok_X5_append lm_X10_71 atC1.1 atC1.2 rfl rfl (fun _ _ => rfl) (Nat.le_of_ble_eq_true rfl) ⟨rfl, rfl, by decide, by decide⟩ (cs0 hcs) dX10_feed_48 (fun μ => ?_)
    refine G_aload_n hX 0 rfl rfl dX10_feed_51 ?_
    refine gf_X10_24_C0 hX dX10_feed_52 ?_
    refine G_iload hX 5 rfl dX10_feed_55 ?_
    refine G_cVv hX 1 5 (fun ad adK => [.int p4]) [] (fun z2 h2 => cX5_append_ok (cx_l X) N p4 μ z2 h2) ok_X5_append lm_X10_71 atC1.1 atC1.2 rfl rfl (fun _ _ => rfl) (Nat.le_of_ble_eq_true rfl) ⟨rfl, rfl, by decide, by decide⟩ (cs0 hcs) dX10_feed_57 (fun μ => ?_)
    refine G_aload_n hX 0 rfl rfl dX10_feed_60 ?_
    refine gf_X10_24_C0 hX dX10_feed_61 ?_
    refine gf_X10_67_C1 hX dX10_feed_64 ?_
    refine G_nmi (fun x2 => ?_)
    exact G_iret hX hQ dX10_feed_67
  · refine G_iconst hX (-1 : Int32) rfl dX10_feed_16 ?_
    exact G_iret hX hQ dX10_feed_17
theorem cX10_feed_ok (l : Launch) (N : Nat) (p0 : Int32) (p1 : Int32) (p2 : Int32) (p3 : Int32) (p4 : Int32) (μ : Mem) (z : Int32 × Mem) (h : fX10_feed N p0 p1 p2 p3 p4 μ = some z) : Mi wC l yX10_feed cX10_feed 6 .int (rmo 1 22) (fun ad adK => [.ref (ad 0), .int p0, .int p1, .int p2, .int p3, .int p4]) μ z := Mi.of h (by decide +kernel) (fun _ _ => Nat.le_of_ble_eq_true rfl) (fun X hX hQ hl hcs => gX10_feed_E hX hQ hcs N p0 p1 p2 p3 p4 μ)
/-! ===== DutyCase.end(I)Z ===== -/
set_option maxHeartbeats 4000000 in
set_option maxRecDepth 100000 in
theorem gX10_end_E {X : Ctx} {z : Int32 × Mem} (hX : Fx wC X cX10_end 2 RX10 (some .boolean) (rmo 0 0)) (hQ : Qx_i wC X z) (hcs : cx_cells X = 0 ∧ cx_slots X = 0) (N : Nat) (p0 : Int32) (μ : Mem) : G wC X z 0 [(0, .ref (cx_ad X 0)), (1, .int p0)] [] μ (fX10_end N p0 μ) := by
  unfold fX10_end
  refine G_iload_n hX 1 rfl rfl dX10_end_0 ?_
  refine G_if_lt hX 15 (by decide) dX10_end_1 ?_ ?_
  · refine G_iconst hX (0 : Int32) rfl dX10_end_15 ?_
    exact G_zret hX hQ rfl dX10_end_16
  · refine G_iload_n hX 1 rfl rfl dX10_end_4 ?_
    refine G_aload_n hX 0 rfl rfl dX10_end_5 ?_
    refine gf_X10_24_C0 hX dX10_end_6 ?_
    refine gf_X10_67_C1 hX dX10_end_9 ?_
    refine G_nmi (fun x1 => ?_)
    refine G_icmp_le hX 17 (by decide) dX10_end_12 ?_ ?_
    · refine G_aload_n hX 0 rfl rfl dX10_end_17 ?_
      refine gf_X10_24_C0 hX dX10_end_18 ?_
      refine G_iload_n hX 1 rfl rfl dX10_end_21 ?_
      refine pf_X10_67_C1 hX dX10_end_22 (fun μ => ?_)
      refine G_iconst hX (1 : Int32) rfl dX10_end_25 ?_
      exact G_zret hX hQ rfl dX10_end_26
    · refine G_iconst hX (0 : Int32) rfl dX10_end_15 ?_
      exact G_zret hX hQ rfl dX10_end_16
theorem cX10_end_ok (l : Launch) (N : Nat) (p0 : Int32) (μ : Mem) (z : Int32 × Mem) (h : fX10_end N p0 μ = some z) : Mi wC l yX10_end cX10_end 2 .boolean (rmo 0 0) (fun ad adK => [.ref (ad 0), .int p0]) μ z := Mi.of h (by decide +kernel) (fun _ _ => Nat.le_of_ble_eq_true rfl) (fun X hX hQ hl hcs => gX10_end_E hX hQ hcs N p0 μ)
/-! ===== DutyCase.read()I ===== -/
set_option maxHeartbeats 4000000 in
set_option maxRecDepth 100000 in
theorem gX10_read_E {X : Ctx} {z : (Int32 ⊕ Nat) × Mem} (hX : Fx wC X cX10_read 2 RX10 (some .int) (rmx 31 713 1 6)) (hQ : Qy (Qe_i wC z) wC X z 1 6) (hcs : cx_cells X = 0 ∧ cx_slots X = 0) (N : Nat) (μ : Mem) : G wC X z 0 [(0, .ref (cx_ad X 0))] [] μ (fX10_read N μ) := by
  unfold fX10_read
  refine G_aload_n hX 0 rfl rfl dX10_read_0 ?_
  refine gf_X10_24_C0 hX dX10_read_1 ?_
  refine G_aload_n hX 0 rfl rfl dX10_read_4 ?_
  refine gf_X10_16_C0 hX dX10_read_5 (fun b_1 hb_1 => ?_)
  refine G_cVv hX 1 5 (fun ad adK => [.ref (ad b_1)]) [] (fun z2 h2 => cX5_parse_ok (cx_l X) N b_1 μ z2 h2) ok_X5_parse lm_X10_75 atC1.1 atC1.2 rfl rfl (fun _ _ => rfl) (Nat.le_of_ble_eq_true rfl) ⟨rfl, rfl, by decide, by decide⟩ (csk hcs (by decide) (by decide)) dX10_read_8 (fun μ => ?_)
  refine G_aload_n hX 0 rfl rfl dX10_read_11 ?_
  refine gf_X10_24_C0 hX dX10_read_12 ?_
  refine G_iconst hX (0 : Int32) rfl dX10_read_15 ?_
  refine pf_X10_67_C1 hX dX10_read_16 (fun μ => ?_)
  refine G_aload_n hX 0 rfl rfl dX10_read_19 ?_
  refine gf_X10_24_C0 hX dX10_read_20 ?_
  refine gf_X10_78_C1 hX dX10_read_23 ?_
  refine G_nmi (fun x2 => ?_)
  refine G_iconst hX (-1 : Int32) rfl dX10_read_26 ?_
  refine G_icmp_eq hX 40 (by decide) dX10_read_27 ?_ ?_
  · refine G_aload_n hX 0 rfl rfl dX10_read_40 ?_
    refine gf_X10_10_C0 hX dX10_read_41 (fun b_3 hb_3 => ?_)
    refine G_astore_n hX [(1, .ref (cx_ad X b_3)), (0, .ref (cx_ad X 0))] rfl (by decide) rfl dX10_read_44 ?_
    refine G_aload_n hX 1 rfl rfl dX10_read_45 ?_
    refine G_aload_n hX 1 rfl rfl dX10_read_46 ?_
    refine gf_X10_16_C0 hX dX10_read_47 (fun b_4 hb_4 => ?_)
    refine pf_X10_10_C0 hX dX10_read_50 (fun μ => ?_)
    refine G_aload_n hX 1 rfl rfl dX10_read_53 ?_
    refine G_aload_n hX 0 rfl rfl dX10_read_54 ?_
    refine pf_X10_16_C0 hX dX10_read_55 (fun μ => ?_)
    refine G_aload_n hX 1 rfl rfl dX10_read_58 ?_
    refine gf_X10_31_C0 hX dX10_read_59 ?_
    refine G_iconst hX (0 : Int32) rfl dX10_read_62 ?_
    refine pf_X10_88_C2 hX dX10_read_63 (fun μ => ?_)
    refine G_aload_n hX 1 rfl rfl dX10_read_66 ?_
    refine gf_X10_10_C0 hX dX10_read_67 (fun b_5 hb_5 => ?_)
    refine gf_X10_91_B0 hX hb_5 dX10_read_70 ?_
    refine gf_X10_95_B12 hX hb_5 dX10_read_73 ?_
    refine G_nmi (fun x6 => ?_)
    exact G_iretX hX hQ hcs ⟨by decide, by decide⟩ dX10_read_76
  · exact G_throw (tx := "the text is wrong") (si := 11) hX hQ hcs 1 (by decide) xf_1 xl_1 xi_1 xg_1 xb_1 xo_1 (by decide +kernel) ⟨by decide, Nat.le_of_ble_eq_true rfl, by decide, by decide⟩ ⟨by decide, by decide⟩ dX10_read_30 dX10_read_33 dX10_read_34 dX10_read_36 dX10_read_39
theorem cX10_read_ok (l : Launch) (hl0 : l.stackTraces = false) (N : Nat) (μ : Mem) (z : (Int32 ⊕ Nat) × Mem) (h : fX10_read N μ = some z) : Ei wC l yX10_read cX10_read 2 .int (rmx 31 713 1 6) 1 6 (fun ad adK => [.ref (ad 0)]) μ z := Ei.of hl0 h (by decide +kernel) (fun _ _ => Nat.le_of_ble_eq_true rfl) (fun X hX hQ hcs => gX10_read_E hX hQ hcs N μ)
/-! ===== DutyCase.fault()I ===== -/
set_option maxHeartbeats 4000000 in
set_option maxRecDepth 100000 in
theorem gX10_fault_E {X : Ctx} {z : Int32 × Mem} (hX : Fx wC X cX10_fault 1 RX10 (some .int) (rmo 0 0)) (hQ : Qx_i wC X z) (hcs : cx_cells X = 0 ∧ cx_slots X = 0) (N : Nat) (μ : Mem) : G wC X z 0 [(0, .ref (cx_ad X 0))] [] μ (fX10_fault N μ) := by
  unfold fX10_fault
  refine G_aload_n hX 0 rfl rfl dX10_fault_0 ?_
  refine gf_X10_24_C0 hX dX10_fault_1 ?_
  refine gf_X10_78_C1 hX dX10_fault_4 ?_
  refine G_nmi (fun x1 => ?_)
  exact G_iret hX hQ dX10_fault_7
theorem cX10_fault_ok (l : Launch) (N : Nat) (μ : Mem) (z : Int32 × Mem) (h : fX10_fault N μ = some z) : Mi wC l yX10_fault cX10_fault 1 .int (rmo 0 0) (fun ad adK => [.ref (ad 0)]) μ z := Mi.of h (by decide +kernel) (fun _ _ => Nat.le_of_ble_eq_true rfl) (fun X hX hQ hl hcs => gX10_fault_E hX hQ hcs N μ)
/-! ===== DutyCase.needFirm(I)V ===== -/
set_option maxHeartbeats 4000000 in
set_option maxRecDepth 100000 in
theorem gX10_needFirm_E {X : Ctx} {z : (Unit ⊕ Nat) × Mem} (hX : Fx wC X cX10_needFirm 2 RX10 none (rmx 6 92 1 6)) (hQ : Qy (Qe_v wC z) wC X z 1 6) (hcs : cx_cells X = 0 ∧ cx_slots X = 0) (N : Nat) (p0 : Int32) (μ : Mem) : G wC X z 0 [(0, .ref (cx_ad X 0)), (1, .int p0)] [] μ (fX10_needFirm N p0 μ) := by
  unfold fX10_needFirm
  refine G_iload_n hX 1 rfl rfl dX10_needFirm_0 ?_
  refine G_if_lt hX 18 (by decide) dX10_needFirm_1 ?_ ?_
  · exact G_throwW (tx := "there is no such firm") (si := 12) hX hQ hcs 0 (by decide) xf_0 xl_0 xi_0 xg_0 xb_0 xo_0 (by decide +kernel) ⟨by decide, Nat.le_of_ble_eq_true rfl, by decide, by decide⟩ ⟨by decide, by decide⟩ dX10_needFirm_18 dX10_needFirm_21 dX10_needFirm_22 dX10_needFirm_25 dX10_needFirm_28
  · refine G_iload_n hX 1 rfl rfl dX10_needFirm_4 ?_
    refine G_aload_n hX 0 rfl rfl dX10_needFirm_5 ?_
    refine gf_X10_10_C0 hX dX10_needFirm_6 (fun b_1 hb_1 => ?_)
    refine gf_X10_101_B0 hX hb_1 dX10_needFirm_9 ?_
    refine gf_X10_373_B4 hX hb_1 dX10_needFirm_12 ?_
    refine G_nmi (fun x2 => ?_)
    refine G_icmp_lt hX 29 (by decide) dX10_needFirm_15 ?_ ?_
    · exact G_vretX hX hQ hcs ⟨by decide, by decide⟩ dX10_needFirm_29
    · exact G_throwW (tx := "there is no such firm") (si := 12) hX hQ hcs 0 (by decide) xf_0 xl_0 xi_0 xg_0 xb_0 xo_0 (by decide +kernel) ⟨by decide, Nat.le_of_ble_eq_true rfl, by decide, by decide⟩ ⟨by decide, by decide⟩ dX10_needFirm_18 dX10_needFirm_21 dX10_needFirm_22 dX10_needFirm_25 dX10_needFirm_28
theorem cX10_needFirm_ok (l : Launch) (hl0 : l.stackTraces = false) (N : Nat) (p0 : Int32) (μ : Mem) (z : (Unit ⊕ Nat) × Mem) (h : fX10_needFirm N p0 μ = some z) : Ev wC l yX10_needFirm cX10_needFirm 2 (rmx 6 92 1 6) 1 6 (fun ad adK => [.ref (ad 0), .int p0]) μ z := Ev.of hl0 h (by decide +kernel) (fun _ _ => Nat.le_of_ble_eq_true rfl) (fun X hX hQ hcs => gX10_needFirm_E hX hQ hcs N p0 μ)
/-! ===== DutyCase.needModel(I)V ===== -/
set_option maxHeartbeats 4000000 in
set_option maxRecDepth 100000 in
theorem gX10_needModel_E {X : Ctx} {z : (Unit ⊕ Nat) × Mem} (hX : Fx wC X cX10_needModel 2 RX10 none (rmx 6 92 1 6)) (hQ : Qy (Qe_v wC z) wC X z 1 6) (hcs : cx_cells X = 0 ∧ cx_slots X = 0) (N : Nat) (p0 : Int32) (μ : Mem) : G wC X z 0 [(0, .ref (cx_ad X 0)), (1, .int p0)] [] μ (fX10_needModel N p0 μ) := by
  unfold fX10_needModel
  refine G_iload_n hX 1 rfl rfl dX10_needModel_0 ?_
  refine G_if_lt hX 18 (by decide) dX10_needModel_1 ?_ ?_
  · exact G_throwW (tx := "there is no such model") (si := 13) hX hQ hcs 0 (by decide) xf_0 xl_0 xi_0 xg_0 xb_0 xo_0 (by decide +kernel) ⟨by decide, Nat.le_of_ble_eq_true rfl, by decide, by decide⟩ ⟨by decide, by decide⟩ dX10_needModel_18 dX10_needModel_21 dX10_needModel_22 dX10_needModel_25 dX10_needModel_28
  · refine G_iload_n hX 1 rfl rfl dX10_needModel_4 ?_
    refine G_aload_n hX 0 rfl rfl dX10_needModel_5 ?_
    refine gf_X10_10_C0 hX dX10_needModel_6 (fun b_1 hb_1 => ?_)
    refine gf_X10_114_B0 hX hb_1 dX10_needModel_9 ?_
    refine gf_X10_373_B1 hX hb_1 dX10_needModel_12 ?_
    refine G_nmi (fun x2 => ?_)
    refine G_icmp_lt hX 29 (by decide) dX10_needModel_15 ?_ ?_
    · exact G_vretX hX hQ hcs ⟨by decide, by decide⟩ dX10_needModel_29
    · exact G_throwW (tx := "there is no such model") (si := 13) hX hQ hcs 0 (by decide) xf_0 xl_0 xi_0 xg_0 xb_0 xo_0 (by decide +kernel) ⟨by decide, Nat.le_of_ble_eq_true rfl, by decide, by decide⟩ ⟨by decide, by decide⟩ dX10_needModel_18 dX10_needModel_21 dX10_needModel_22 dX10_needModel_25 dX10_needModel_28
theorem cX10_needModel_ok (l : Launch) (hl0 : l.stackTraces = false) (N : Nat) (p0 : Int32) (μ : Mem) (z : (Unit ⊕ Nat) × Mem) (h : fX10_needModel N p0 μ = some z) : Ev wC l yX10_needModel cX10_needModel 2 (rmx 6 92 1 6) 1 6 (fun ad adK => [.ref (ad 0), .int p0]) μ z := Ev.of hl0 h (by decide +kernel) (fun _ _ => Nat.le_of_ble_eq_true rfl) (fun X hX hQ hcs => gX10_needModel_E hX hQ hcs N p0 μ)
/-! ===== DutyCase.name(ZII)I ===== -/
set_option maxHeartbeats 4000000 in
set_option maxRecDepth 100000 in
theorem gX10_name_E {X : Ctx} {z : (Int32 ⊕ Nat) × Mem} (hX : Fx wC X cX10_name 4 RX10 (some .int) (rmx 7 113 1 6)) (hQ : Qy (Qe_i wC z) wC X z 1 6) (hcs : cx_cells X = 0 ∧ cx_slots X = 0) (N : Nat) (p0 : Int32) (p1 : Int32) (p2 : Int32) (μ : Mem) : G wC X z 0 [(0, .ref (cx_ad X 0)), (1, .int p0), (2, .int p1), (3, .int p2)] [] μ (fX10_name N p0 p1 p2 μ) := by
  unfold fX10_name
  refine G_iload_n hX 1 rfl rfl dX10_name_0 ?_
  refine G_if_eq hX 22 (by decide) dX10_name_1 ?_ ?_
  · refine G_aload_n hX 0 rfl rfl dX10_name_22 ?_
    refine G_iload_n hX 2 rfl rfl dX10_name_23 ?_
    refine G_xV hX hQ (fun _ _ => rfl) hcs 0 10 (fun ad adK => [.int p1]) (fun ad adK => []) (fun ad adK => [(0, .ref (ad 0)), (1, .int p0), (2, .int p1), (3, .int p2)]) (fun z2 h2 => cX10_needModel_ok (cx_l X) hQ.2.1 N p1 μ z2 h2) ok_X10_needModel lm_X10_111 atC0.1 atC0.2 rfl rfl rfl (fun _ _ => rfl) (fun _ _ => Nat.le_of_ble_eq_true rfl) ⟨rfl, rfl, by decide, by decide⟩ ⟨by decide, by decide⟩ ⟨by decide, by decide⟩ dX10_name_24 (fun X μ hX hQ hcs => ?_)
    refine G_aload_n hX 0 rfl rfl dX10_name_27 ?_
    refine gf_X10_10_C0 hX dX10_name_28 (fun b_1 hb_1 => ?_)
    refine gf_X10_114_B0 hX hb_1 dX10_name_31 ?_
    refine G_iload_n hX 2 rfl rfl dX10_name_34 ?_
    refine G_iload_n hX 3 rfl rfl dX10_name_35 ?_
    refine G_cVi hX (b_1 + 1) 4 (fun ad adK => [.int p1, .int p2]) [] (fun z2 h2 => cX4_letterAt_ok (cx_l X) N (b_1 + 1) p1 p2 μ z2 h2) ok_X4_letterAt lm_X10_105 (atB_1 hb_1).1 (atB_1 hb_1).2 rfl rfl (fun _ _ => rfl) (Nat.le_of_ble_eq_true rfl) ⟨rfl, rfl, by decide, by decide⟩ (csk hcs (by decide) (by decide)) dX10_name_36 (fun r2 μ => ?_)
    exact G_iretX hX hQ hcs ⟨by decide, by decide⟩ dX10_name_39
  · refine G_aload_n hX 0 rfl rfl dX10_name_4 ?_
    refine G_iload_n hX 2 rfl rfl dX10_name_5 ?_
    refine G_xV hX hQ (fun _ _ => rfl) hcs 0 10 (fun ad adK => [.int p1]) (fun ad adK => []) (fun ad adK => [(0, .ref (ad 0)), (1, .int p0), (2, .int p1), (3, .int p2)]) (fun z2 h2 => cX10_needFirm_ok (cx_l X) hQ.2.1 N p1 μ z2 h2) ok_X10_needFirm lm_X10_98 atC0.1 atC0.2 rfl rfl rfl (fun _ _ => rfl) (fun _ _ => Nat.le_of_ble_eq_true rfl) ⟨rfl, rfl, by decide, by decide⟩ ⟨by decide, by decide⟩ ⟨by decide, by decide⟩ dX10_name_6 (fun X μ hX hQ hcs => ?_)
    refine G_aload_n hX 0 rfl rfl dX10_name_9 ?_
    refine gf_X10_10_C0 hX dX10_name_10 (fun b_3 hb_3 => ?_)
    refine gf_X10_101_B0 hX hb_3 dX10_name_13 ?_
    refine G_iload_n hX 2 rfl rfl dX10_name_16 ?_
    refine G_iload_n hX 3 rfl rfl dX10_name_17 ?_
    refine G_cVi hX (b_3 + 4) 4 (fun ad adK => [.int p1, .int p2]) [] (fun z2 h2 => cX4_letterAt_ok (cx_l X) N (b_3 + 4) p1 p2 μ z2 h2) ok_X4_letterAt lm_X10_105 (atB_4 hb_3).1 (atB_4 hb_3).2 rfl rfl (fun _ _ => rfl) (Nat.le_of_ble_eq_true rfl) ⟨rfl, rfl, by decide, by decide⟩ (csk hcs (by decide) (by decide)) dX10_name_18 (fun r4 μ => ?_)
    exact G_iretX hX hQ hcs ⟨by decide, by decide⟩ dX10_name_21
theorem cX10_name_ok (l : Launch) (hl0 : l.stackTraces = false) (N : Nat) (p0 : Int32) (p1 : Int32) (p2 : Int32) (μ : Mem) (z : (Int32 ⊕ Nat) × Mem) (h : fX10_name N p0 p1 p2 μ = some z) : Ei wC l yX10_name cX10_name 4 .int (rmx 7 113 1 6) 1 6 (fun ad adK => [.ref (ad 0), .int p0, .int p1, .int p2]) μ z := Ei.of hl0 h (by decide +kernel) (fun _ _ => Nat.le_of_ble_eq_true rfl) (fun X hX hQ hcs => gX10_name_E hX hQ hcs N p0 p1 p2 μ)
/-! ===== DutyCase.model(II)I ===== -/
set_option maxHeartbeats 4000000 in
set_option maxRecDepth 100000 in
theorem gX10_model_E {X : Ctx} {z : (Int32 ⊕ Nat) × Mem} (hX : Fx wC X cX10_model 3 RX10 (some .int) (rmx 7 113 2 12)) (hQ : Qy (Qe_i wC z) wC X z 2 12) (hcs : cx_cells X = 0 ∧ cx_slots X = 0) (N : Nat) (p0 : Int32) (p1 : Int32) (μ : Mem) : G wC X z 0 [(0, .ref (cx_ad X 0)), (1, .int p0), (2, .int p1)] [] μ (fX10_model N p0 p1 μ) := by
  unfold fX10_model
  refine G_aload_n hX 0 rfl rfl dX10_model_0 ?_
  refine G_iload_n hX 1 rfl rfl dX10_model_1 ?_
  refine G_xV hX hQ (fun _ _ => rfl) hcs 0 10 (fun ad adK => [.int p0]) (fun ad adK => []) (fun ad adK => [(0, .ref (ad 0)), (1, .int p0), (2, .int p1)]) (fun z2 h2 => cX10_needModel_ok (cx_l X) hQ.2.1 N p0 μ z2 h2) ok_X10_needModel lm_X10_111 atC0.1 atC0.2 rfl rfl rfl (fun _ _ => rfl) (fun _ _ => Nat.le_of_ble_eq_true rfl) ⟨rfl, rfl, by decide, by decide⟩ ⟨by decide, by decide⟩ ⟨by decide, by decide⟩ dX10_model_2 (fun X μ hX hQ hcs => ?_)
  refine G_iload_n hX 2 rfl rfl dX10_model_5 ?_
  refine G_sw (fun hc0 => ?_) (fun hc0 => ?_)
  · refine G_swIn hX 32 0 (0) (by rw [hc0]; rfl) (by decide) (by decide) rfl rfl (by decide) dX10_model_6 ?_
    refine G_aload_n hX 0 rfl rfl dX10_model_32 ?_
    refine gf_X10_10_C0 hX dX10_model_33 (fun b_1 hb_1 => ?_)
    refine gf_X10_117_B0 hX hb_1 dX10_model_36 ?_
    refine G_iload_n hX 1 rfl rfl dX10_model_39 ?_
    refine G_aI hX (atB_23 hb_1) dX10_model_40 (fun x2 => ?_)
    exact G_iretX hX hQ hcs ⟨by decide, by decide⟩ dX10_model_41
  refine G_sw (fun hc1 => ?_) (fun hc1 => ?_)
  · refine G_swIn hX 42 1 (1) (by rw [hc1]; rfl) (by decide) (by decide) rfl rfl (by decide) dX10_model_6 ?_
    refine G_aload_n hX 0 rfl rfl dX10_model_42 ?_
    refine gf_X10_10_C0 hX dX10_model_43 (fun b_3 hb_3 => ?_)
    refine gf_X10_121_B0 hX hb_3 dX10_model_46 ?_
    refine G_iload_n hX 1 rfl rfl dX10_model_49 ?_
    refine G_aI hX (atB_24 hb_3) dX10_model_50 (fun x4 => ?_)
    exact G_iretX hX hQ hcs ⟨by decide, by decide⟩ dX10_model_51
  refine G_sw (fun hc2 => ?_) (fun hc2 => ?_)
  · refine G_swIn hX 52 2 (2) (by rw [hc2]; rfl) (by decide) (by decide) rfl rfl (by decide) dX10_model_6 ?_
    refine G_aload_n hX 0 rfl rfl dX10_model_52 ?_
    refine gf_X10_10_C0 hX dX10_model_53 (fun b_5 hb_5 => ?_)
    refine gf_X10_124_B0 hX hb_5 dX10_model_56 ?_
    refine G_iload_n hX 1 rfl rfl dX10_model_59 ?_
    refine G_aI hX (atB_25 hb_5) dX10_model_60 (fun x6 => ?_)
    exact G_iretX hX hQ hcs ⟨by decide, by decide⟩ dX10_model_61
  refine G_swOut hX 62 (by decide) dX10_model_6 (by have e0 := lv_neT (a := (0 : Int)) hc0 rfl; have e1 := lv_neT (a := (1 : Int)) hc1 rfl; have e2 := lv_neT (a := (2 : Int)) hc2 rfl; omega) ?_
  exact G_throwX xd_0 xd_1 xd_2 xd_5 xfits rfl (tx := "a model has no such number") (si := 14) hX hQ hcs 3 (by decide) xf_3 xl_3 xi_3 xg_3 xb_3 xo_3 (by decide +kernel) ⟨by decide, Nat.le_of_ble_eq_true rfl, by decide, by decide⟩ ⟨by decide, by decide⟩ dX10_model_62 dX10_model_65 dX10_model_66 dX10_model_68 dX10_model_71
theorem cX10_model_ok (l : Launch) (hl0 : l.stackTraces = false) (N : Nat) (p0 : Int32) (p1 : Int32) (μ : Mem) (z : (Int32 ⊕ Nat) × Mem) (h : fX10_model N p0 p1 μ = some z) : Ei wC l yX10_model cX10_model 3 .int (rmx 7 113 2 12) 2 12 (fun ad adK => [.ref (ad 0), .int p0, .int p1]) μ z := Ei.of hl0 h (by decide +kernel) (fun _ _ => Nat.le_of_ble_eq_true rfl) (fun X hX hQ hcs => gX10_model_E hX hQ hcs N p0 p1 μ)
/-! ===== DutyCase.cost(II)I ===== -/
set_option maxHeartbeats 4000000 in
set_option maxRecDepth 100000 in
theorem gX10_cost_E {X : Ctx} {z : (Int32 ⊕ Nat) × Mem} (hX : Fx wC X cX10_cost 3 RX10 (some .int) (rmx 7 113 2 12)) (hQ : Qy (Qe_i wC z) wC X z 2 12) (hcs : cx_cells X = 0 ∧ cx_slots X = 0) (N : Nat) (p0 : Int32) (p1 : Int32) (μ : Mem) : G wC X z 0 [(0, .ref (cx_ad X 0)), (1, .int p0), (2, .int p1)] [] μ (fX10_cost N p0 p1 μ) := by
  unfold fX10_cost
  refine G_aload_n hX 0 rfl rfl dX10_cost_0 ?_
  refine G_iload_n hX 1 rfl rfl dX10_cost_1 ?_
  refine G_xV hX hQ (fun _ _ => rfl) hcs 0 10 (fun ad adK => [.int p0]) (fun ad adK => []) (fun ad adK => [(0, .ref (ad 0)), (1, .int p0), (2, .int p1)]) (fun z2 h2 => cX10_needFirm_ok (cx_l X) hQ.2.1 N p0 μ z2 h2) ok_X10_needFirm lm_X10_98 atC0.1 atC0.2 rfl rfl rfl (fun _ _ => rfl) (fun _ _ => Nat.le_of_ble_eq_true rfl) ⟨rfl, rfl, by decide, by decide⟩ ⟨by decide, by decide⟩ ⟨by decide, by decide⟩ dX10_cost_2 (fun X μ hX hQ hcs => ?_)
  refine G_aload_n hX 0 rfl rfl dX10_cost_5 ?_
  refine G_iload_n hX 2 rfl rfl dX10_cost_6 ?_
  refine G_xV hX hQ (fun _ _ => rfl) hcs 0 10 (fun ad adK => [.int p1]) (fun ad adK => []) (fun ad adK => [(0, .ref (ad 0)), (1, .int p0), (2, .int p1)]) (fun z2 h2 => cX10_needModel_ok (cx_l X) hQ.2.1 N p1 μ z2 h2) ok_X10_needModel lm_X10_111 atC0.1 atC0.2 rfl rfl rfl (fun _ _ => rfl) (fun _ _ => Nat.le_of_ble_eq_true rfl) ⟨rfl, rfl, by decide, by decide⟩ ⟨by decide, by decide⟩ ⟨by decide, by decide⟩ dX10_cost_7 (fun X μ hX hQ hcs => ?_)
  refine G_aload_n hX 0 rfl rfl dX10_cost_10 ?_
  refine gf_X10_10_C0 hX dX10_cost_11 (fun b_1 hb_1 => ?_)
  refine G_iload_n hX 1 rfl rfl dX10_cost_14 ?_
  refine G_iload_n hX 2 rfl rfl dX10_cost_15 ?_
  refine G_cVi hX b_1 1 (fun ad adK => [.int p0, .int p1]) [] (fun z2 h2 => cX1_costOf_ok (cx_l X) N b_1 p0 p1 μ z2 h2) ok_X1_costOf lm_X10_132 (atB_0 hb_1).1 (atB_0 hb_1).2 rfl rfl (fun _ _ => rfl) (Nat.le_of_ble_eq_true rfl) ⟨rfl, rfl, by decide, by decide⟩ (csk hcs (by decide) (by decide)) dX10_cost_16 (fun r2 μ => ?_)
  exact G_iretX hX hQ hcs ⟨by decide, by decide⟩ dX10_cost_19
theorem cX10_cost_ok (l : Launch) (hl0 : l.stackTraces = false) (N : Nat) (p0 : Int32) (p1 : Int32) (μ : Mem) (z : (Int32 ⊕ Nat) × Mem) (h : fX10_cost N p0 p1 μ = some z) : Ei wC l yX10_cost cX10_cost 3 .int (rmx 7 113 2 12) 2 12 (fun ad adK => [.ref (ad 0), .int p0, .int p1]) μ z := Ei.of hl0 h (by decide +kernel) (fun _ _ => Nat.le_of_ble_eq_true rfl) (fun X hX hQ hcs => gX10_cost_E hX hQ hcs N p0 p1 μ)
/-! ===== DutyCase.needSale(I)V ===== -/
set_option maxHeartbeats 4000000 in
set_option maxRecDepth 100000 in
theorem gX10_needSale_E {X : Ctx} {z : (Unit ⊕ Nat) × Mem} (hX : Fx wC X cX10_needSale 2 RX10 none (rmx 6 92 1 6)) (hQ : Qy (Qe_v wC z) wC X z 1 6) (hcs : cx_cells X = 0 ∧ cx_slots X = 0) (N : Nat) (p0 : Int32) (μ : Mem) : G wC X z 0 [(0, .ref (cx_ad X 0)), (1, .int p0)] [] μ (fX10_needSale N p0 μ) := by
  unfold fX10_needSale
  refine G_iload_n hX 1 rfl rfl dX10_needSale_0 ?_
  refine G_if_lt hX 33 (by decide) dX10_needSale_1 ?_ ?_
  · exact G_throwW (tx := "there is no such sale") (si := 15) hX hQ hcs 0 (by decide) xf_0 xl_0 xi_0 xg_0 xb_0 xo_0 (by decide +kernel) ⟨by decide, Nat.le_of_ble_eq_true rfl, by decide, by decide⟩ ⟨by decide, by decide⟩ dX10_needSale_33 dX10_needSale_36 dX10_needSale_37 dX10_needSale_40 dX10_needSale_43
  · refine G_iload_n hX 1 rfl rfl dX10_needSale_4 ?_
    refine G_aload_n hX 0 rfl rfl dX10_needSale_5 ?_
    refine gf_X10_10_C0 hX dX10_needSale_6 (fun b_1 hb_1 => ?_)
    refine gf_X10_91_B0 hX hb_1 dX10_needSale_9 ?_
    refine gf_X10_95_B12 hX hb_1 dX10_needSale_12 ?_
    refine G_nmi (fun x2 => ?_)
    refine G_icmp_ge hX 33 (by decide) dX10_needSale_15 ?_ ?_
    · exact G_throwW (tx := "there is no such sale") (si := 15) hX hQ hcs 0 (by decide) xf_0 xl_0 xi_0 xg_0 xb_0 xo_0 (by decide +kernel) ⟨by decide, Nat.le_of_ble_eq_true rfl, by decide, by decide⟩ ⟨by decide, by decide⟩ dX10_needSale_33 dX10_needSale_36 dX10_needSale_37 dX10_needSale_40 dX10_needSale_43
    · refine G_aload_n hX 0 rfl rfl dX10_needSale_18 ?_
      refine gf_X10_10_C0 hX dX10_needSale_19 (fun b_3 hb_3 => ?_)
      refine gf_X10_91_B0 hX hb_3 dX10_needSale_22 ?_
      refine gf_X10_197_B12 hX hb_3 dX10_needSale_25 ?_
      refine G_iload_n hX 1 rfl rfl dX10_needSale_28 ?_
      refine G_aZ hX (atB_22 hb_3) dX10_needSale_29 (fun x4 => ?_)
      refine G_if_ne hX 44 (by decide) dX10_needSale_30 ?_ ?_
      · exact G_vretX hX hQ hcs ⟨by decide, by decide⟩ dX10_needSale_44
      · exact G_throwW (tx := "there is no such sale") (si := 15) hX hQ hcs 0 (by decide) xf_0 xl_0 xi_0 xg_0 xb_0 xo_0 (by decide +kernel) ⟨by decide, Nat.le_of_ble_eq_true rfl, by decide, by decide⟩ ⟨by decide, by decide⟩ dX10_needSale_33 dX10_needSale_36 dX10_needSale_37 dX10_needSale_40 dX10_needSale_43
theorem cX10_needSale_ok (l : Launch) (hl0 : l.stackTraces = false) (N : Nat) (p0 : Int32) (μ : Mem) (z : (Unit ⊕ Nat) × Mem) (h : fX10_needSale N p0 μ = some z) : Ev wC l yX10_needSale cX10_needSale 2 (rmx 6 92 1 6) 1 6 (fun ad adK => [.ref (ad 0), .int p0]) μ z := Ev.of hl0 h (by decide +kernel) (fun _ _ => Nat.le_of_ble_eq_true rfl) (fun X hX hQ hcs => gX10_needSale_E hX hQ hcs N p0 μ)
/-! ===== DutyCase.sale(II)I ===== -/
set_option maxHeartbeats 4000000 in
set_option maxRecDepth 100000 in
theorem gX10_sale_E {X : Ctx} {z : (Int32 ⊕ Nat) × Mem} (hX : Fx wC X cX10_sale 4 RX10 (some .int) (rmx 7 113 2 12)) (hQ : Qy (Qe_i wC z) wC X z 2 12) (hcs : cx_cells X = 0 ∧ cx_slots X = 0) (N : Nat) (p0 : Int32) (p1 : Int32) (μ : Mem) : G wC X z 0 [(0, .ref (cx_ad X 0)), (1, .int p0), (2, .int p1)] [] μ (fX10_sale N p0 p1 μ) := by
  unfold fX10_sale
  refine G_aload_n hX 0 rfl rfl dX10_sale_0 ?_
  refine G_iload_n hX 1 rfl rfl dX10_sale_1 ?_
  refine G_xV hX hQ (fun _ _ => rfl) hcs 0 10 (fun ad adK => [.int p0]) (fun ad adK => []) (fun ad adK => [(0, .ref (ad 0)), (1, .int p0), (2, .int p1)]) (fun z2 h2 => cX10_needSale_ok (cx_l X) hQ.2.1 N p0 μ z2 h2) ok_X10_needSale lm_X10_135 atC0.1 atC0.2 rfl rfl rfl (fun _ _ => rfl) (fun _ _ => Nat.le_of_ble_eq_true rfl) ⟨rfl, rfl, by decide, by decide⟩ ⟨by decide, by decide⟩ ⟨by decide, by decide⟩ dX10_sale_2 (fun X μ hX hQ hcs => ?_)
  refine G_aload_n hX 0 rfl rfl dX10_sale_5 ?_
  refine gf_X10_10_C0 hX dX10_sale_6 (fun b_1 hb_1 => ?_)
  refine gf_X10_91_B0 hX hb_1 dX10_sale_9 ?_
  refine G_astore_n hX [(3, .ref (cx_ad X (b_1 + 12))), (0, .ref (cx_ad X 0)), (1, .int p0), (2, .int p1)] rfl (by decide) rfl dX10_sale_12 ?_
  refine G_iload_n hX 3 rfl rfl dX10_sale_13 ?_
  refine G_sw (fun hc0 => ?_) (fun hc0 => ?_)
  · refine G_swIn hX 72 0 (0) (by rw [hc0]; rfl) (by decide) (by decide) rfl rfl (by decide) dX10_sale_14 ?_
    refine G_aload_n hX 0 rfl rfl dX10_sale_72 ?_
    refine gf_X10_138_B12 hX hb_1 dX10_sale_73 ?_
    refine G_iload_n hX 2 rfl rfl dX10_sale_76 ?_
    refine G_aI hX (atB_13 hb_1) dX10_sale_77 (fun x2 => ?_)
    exact G_iretX hX hQ hcs ⟨by decide, by decide⟩ dX10_sale_78
  refine G_sw (fun hc1 => ?_) (fun hc1 => ?_)
  · refine G_swIn hX 79 1 (1) (by rw [hc1]; rfl) (by decide) (by decide) rfl rfl (by decide) dX10_sale_14 ?_
    refine G_aload_n hX 0 rfl rfl dX10_sale_79 ?_
    refine gf_X10_141_B12 hX hb_1 dX10_sale_80 ?_
    refine G_iload_n hX 2 rfl rfl dX10_sale_83 ?_
    refine G_aI hX (atB_14 hb_1) dX10_sale_84 (fun x3 => ?_)
    exact G_iretX hX hQ hcs ⟨by decide, by decide⟩ dX10_sale_85
  refine G_sw (fun hc2 => ?_) (fun hc2 => ?_)
  · refine G_swIn hX 86 2 (2) (by rw [hc2]; rfl) (by decide) (by decide) rfl rfl (by decide) dX10_sale_14 ?_
    refine G_aload_n hX 0 rfl rfl dX10_sale_86 ?_
    refine gf_X10_144_B12 hX hb_1 dX10_sale_87 ?_
    refine G_iload_n hX 2 rfl rfl dX10_sale_90 ?_
    refine G_aI hX (atB_15 hb_1) dX10_sale_91 (fun x4 => ?_)
    exact G_iretX hX hQ hcs ⟨by decide, by decide⟩ dX10_sale_92
  refine G_sw (fun hc3 => ?_) (fun hc3 => ?_)
  · refine G_swIn hX 93 3 (3) (by rw [hc3]; rfl) (by decide) (by decide) rfl rfl (by decide) dX10_sale_14 ?_
    refine G_aload_n hX 0 rfl rfl dX10_sale_93 ?_
    refine gf_X10_147_B12 hX hb_1 dX10_sale_94 ?_
    refine G_iload_n hX 2 rfl rfl dX10_sale_97 ?_
    refine G_aI hX (atB_16 hb_1) dX10_sale_98 (fun x5 => ?_)
    exact G_iretX hX hQ hcs ⟨by decide, by decide⟩ dX10_sale_99
  refine G_sw (fun hc4 => ?_) (fun hc4 => ?_)
  · refine G_swIn hX 100 4 (4) (by rw [hc4]; rfl) (by decide) (by decide) rfl rfl (by decide) dX10_sale_14 ?_
    refine G_aload_n hX 0 rfl rfl dX10_sale_100 ?_
    refine gf_X10_150_B12 hX hb_1 dX10_sale_101 ?_
    refine G_iload_n hX 2 rfl rfl dX10_sale_104 ?_
    refine G_aI hX (atB_17 hb_1) dX10_sale_105 (fun x6 => ?_)
    exact G_iretX hX hQ hcs ⟨by decide, by decide⟩ dX10_sale_106
  refine G_sw (fun hc5 => ?_) (fun hc5 => ?_)
  · refine G_swIn hX 107 5 (5) (by rw [hc5]; rfl) (by decide) (by decide) rfl rfl (by decide) dX10_sale_14 ?_
    refine G_aload_n hX 0 rfl rfl dX10_sale_107 ?_
    refine gf_X10_153_B12 hX hb_1 dX10_sale_108 ?_
    refine G_iload_n hX 2 rfl rfl dX10_sale_111 ?_
    refine G_aI hX (atB_18 hb_1) dX10_sale_112 (fun x7 => ?_)
    exact G_iretX hX hQ hcs ⟨by decide, by decide⟩ dX10_sale_113
  refine G_sw (fun hc6 => ?_) (fun hc6 => ?_)
  · refine G_swIn hX 114 6 (6) (by rw [hc6]; rfl) (by decide) (by decide) rfl rfl (by decide) dX10_sale_14 ?_
    refine G_aload_n hX 0 rfl rfl dX10_sale_114 ?_
    refine gf_X10_156_B12 hX hb_1 dX10_sale_115 ?_
    refine G_iload_n hX 2 rfl rfl dX10_sale_118 ?_
    refine G_aI hX (atB_19 hb_1) dX10_sale_119 (fun x8 => ?_)
    exact G_iretX hX hQ hcs ⟨by decide, by decide⟩ dX10_sale_120
  refine G_sw (fun hc7 => ?_) (fun hc7 => ?_)
  · refine G_swIn hX 121 7 (7) (by rw [hc7]; rfl) (by decide) (by decide) rfl rfl (by decide) dX10_sale_14 ?_
    refine G_aload_n hX 0 rfl rfl dX10_sale_121 ?_
    refine gf_X10_159_B12 hX hb_1 dX10_sale_122 ?_
    refine G_iload_n hX 2 rfl rfl dX10_sale_125 ?_
    refine G_aI hX (atB_20 hb_1) dX10_sale_126 (fun x9 => ?_)
    exact G_iretX hX hQ hcs ⟨by decide, by decide⟩ dX10_sale_127
  refine G_sw (fun hc8 => ?_) (fun hc8 => ?_)
  · refine G_swIn hX 128 8 (8) (by rw [hc8]; rfl) (by decide) (by decide) rfl rfl (by decide) dX10_sale_14 ?_
    refine G_aload_n hX 0 rfl rfl dX10_sale_128 ?_
    refine gf_X10_162_B12 hX hb_1 dX10_sale_129 ?_
    refine G_iload_n hX 2 rfl rfl dX10_sale_132 ?_
    refine G_aI hX (atB_21 hb_1) dX10_sale_133 (fun x10 => ?_)
    exact G_iretX hX hQ hcs ⟨by decide, by decide⟩ dX10_sale_134
  refine G_sw (fun hc9 => ?_) (fun hc9 => ?_)
  · refine G_swIn hX 135 9 (9) (by rw [hc9]; rfl) (by decide) (by decide) rfl rfl (by decide) dX10_sale_14 ?_
    refine G_aload_n hX 1 rfl rfl dX10_sale_135 ?_
    refine gf_X10_38_C0 hX dX10_sale_136 ?_
    refine G_aload_n hX 1 rfl rfl dX10_sale_139 ?_
    refine gf_X10_10_C0 hX dX10_sale_140 (fun b_11 hb_11 => ?_)
    refine G_aload_n hX 0 rfl rfl dX10_sale_143 ?_
    refine gf_X10_141_B12 hX hb_1 dX10_sale_144 ?_
    refine G_iload_n hX 2 rfl rfl dX10_sale_147 ?_
    refine G_aI hX (atB_14 hb_1) dX10_sale_148 (fun x12 => ?_)
    refine G_cVv hX 3 8 (fun ad adK => [.ref (ad b_11), .int x12]) [] (fun z2 h2 => cX8_look_ok (cx_l X) N b_11 x12 μ z2 h2) ok_X8_look lm_X10_165 atC3.1 atC3.2 rfl rfl (fun _ _ => rfl) (Nat.le_of_ble_eq_true rfl) ⟨rfl, rfl, by decide, by decide⟩ (csk hcs (by decide) (by decide)) dX10_sale_149 (fun μ => ?_)
    refine G_aload_n hX 1 rfl rfl dX10_sale_152 ?_
    refine gf_X10_38_C0 hX dX10_sale_153 ?_
    refine gf_X10_169_C3 hX dX10_sale_156 ?_
    refine G_iload_n hX 2 rfl rfl dX10_sale_159 ?_
    refine G_aZ hX atC13 dX10_sale_160 (fun x13 => ?_)
    refine G_if_eq hX 168 (by decide) dX10_sale_161 ?_ ?_
    · refine G_iconst hX (0 : Int32) rfl dX10_sale_168 ?_
      exact G_iretX hX hQ hcs ⟨by decide, by decide⟩ dX10_sale_169
    · refine G_iconst hX (1 : Int32) rfl dX10_sale_164 ?_
      refine G_goto hX 169 (by decide) dX10_sale_165 ?_
      exact G_iretX hX hQ hcs ⟨by decide, by decide⟩ dX10_sale_169
  refine G_sw (fun hc10 => ?_) (fun hc10 => ?_)
  · refine G_swIn hX 170 10 (10) (by rw [hc10]; rfl) (by decide) (by decide) rfl rfl (by decide) dX10_sale_14 ?_
    refine G_aload_n hX 1 rfl rfl dX10_sale_170 ?_
    refine gf_X10_38_C0 hX dX10_sale_171 ?_
    refine G_aload_n hX 1 rfl rfl dX10_sale_174 ?_
    refine gf_X10_10_C0 hX dX10_sale_175 (fun b_14 hb_14 => ?_)
    refine G_aload_n hX 0 rfl rfl dX10_sale_178 ?_
    refine gf_X10_141_B12 hX hb_1 dX10_sale_179 ?_
    refine G_iload_n hX 2 rfl rfl dX10_sale_182 ?_
    refine G_aI hX (atB_14 hb_1) dX10_sale_183 (fun x15 => ?_)
    refine G_cVv hX 3 8 (fun ad adK => [.ref (ad b_14), .int x15]) [] (fun z2 h2 => cX8_look_ok (cx_l X) N b_14 x15 μ z2 h2) ok_X8_look lm_X10_165 atC3.1 atC3.2 rfl rfl (fun _ _ => rfl) (Nat.le_of_ble_eq_true rfl) ⟨rfl, rfl, by decide, by decide⟩ (csk hcs (by decide) (by decide)) dX10_sale_184 (fun μ => ?_)
    refine G_aload_n hX 1 rfl rfl dX10_sale_187 ?_
    refine gf_X10_38_C0 hX dX10_sale_188 ?_
    refine gf_X10_173_C3 hX dX10_sale_191 ?_
    refine G_iload_n hX 2 rfl rfl dX10_sale_194 ?_
    refine G_aZ hX atC14 dX10_sale_195 (fun x16 => ?_)
    refine G_if_eq hX 203 (by decide) dX10_sale_196 ?_ ?_
    · refine G_iconst hX (0 : Int32) rfl dX10_sale_203 ?_
      exact G_iretX hX hQ hcs ⟨by decide, by decide⟩ dX10_sale_204
    · refine G_iconst hX (1 : Int32) rfl dX10_sale_199 ?_
      refine G_goto hX 204 (by decide) dX10_sale_200 ?_
      exact G_iretX hX hQ hcs ⟨by decide, by decide⟩ dX10_sale_204
  refine G_swOut hX 205 (by decide) dX10_sale_14 (by have e0 := lv_neT (a := (0 : Int)) hc0 rfl; have e1 := lv_neT (a := (1 : Int)) hc1 rfl; have e2 := lv_neT (a := (2 : Int)) hc2 rfl; have e3 := lv_neT (a := (3 : Int)) hc3 rfl; have e4 := lv_neT (a := (4 : Int)) hc4 rfl; have e5 := lv_neT (a := (5 : Int)) hc5 rfl; have e6 := lv_neT (a := (6 : Int)) hc6 rfl; have e7 := lv_neT (a := (7 : Int)) hc7 rfl; have e8 := lv_neT (a := (8 : Int)) hc8 rfl; have e9 := lv_neT (a := (9 : Int)) hc9 rfl; have e10 := lv_neT (a := (10 : Int)) hc10 rfl; omega) ?_
  exact G_throwX xd_0 xd_1 xd_2 xd_5 xfits rfl (tx := "a sale has no such number") (si := 16) hX hQ hcs 3 (by decide) xf_3 xl_3 xi_3 xg_3 xb_3 xo_3 (by decide +kernel) ⟨by decide, Nat.le_of_ble_eq_true rfl, by decide, by decide⟩ ⟨by decide, by decide⟩ dX10_sale_205 dX10_sale_208 dX10_sale_209 dX10_sale_211 dX10_sale_214
theorem cX10_sale_ok (l : Launch) (hl0 : l.stackTraces = false) (N : Nat) (p0 : Int32) (p1 : Int32) (μ : Mem) (z : (Int32 ⊕ Nat) × Mem) (h : fX10_sale N p0 p1 μ = some z) : Ei wC l yX10_sale cX10_sale 4 .int (rmx 7 113 2 12) 2 12 (fun ad adK => [.ref (ad 0), .int p0, .int p1]) μ z := Ei.of hl0 h (by decide +kernel) (fun _ _ => Nat.le_of_ble_eq_true rfl) (fun X hX hQ hcs => gX10_sale_E hX hQ hcs N p0 p1 μ)
/-! ===== DutyCase.needWithin(III)V ===== -/
set_option maxHeartbeats 4000000 in
set_option maxRecDepth 100000 in
theorem gX10_needWithin_E {X : Ctx} {z : (Unit ⊕ Nat) × Mem} (hX : Fx wC X cX10_needWithin 3 RX10 none (rmx 6 92 1 6)) (hQ : Qy (Qe_v wC z) wC X z 1 6) (hcs : cx_cells X = 0 ∧ cx_slots X = 0) (N : Nat) (p0 : Int32) (p1 : Int32) (p2 : Int32) (μ : Mem) : G wC X z 0 [(0, .int p0), (1, .int p1), (2, .int p2)] [] μ (fX10_needWithin N p0 p1 p2 μ) := by
  unfold fX10_needWithin
  refine G_iload_n hX 0 rfl rfl dX10_needWithin_0 ?_
  refine G_iload_n hX 1 rfl rfl dX10_needWithin_1 ?_
  refine G_icmp_lt hX 10 (by decide) dX10_needWithin_2 ?_ ?_
  · exact G_throwW (tx := "the number is none") (si := 17) hX hQ hcs 1 (by decide) xf_1 xl_1 xi_1 xg_1 xb_1 xo_1 (by decide +kernel) ⟨by decide, Nat.le_of_ble_eq_true rfl, by decide, by decide⟩ ⟨by decide, by decide⟩ dX10_needWithin_10 dX10_needWithin_13 dX10_needWithin_14 dX10_needWithin_17 dX10_needWithin_20
  · refine G_iload_n hX 0 rfl rfl dX10_needWithin_5 ?_
    refine G_iload_n hX 2 rfl rfl dX10_needWithin_6 ?_
    refine G_icmp_le hX 21 (by decide) dX10_needWithin_7 ?_ ?_
    · exact G_vretX hX hQ hcs ⟨by decide, by decide⟩ dX10_needWithin_21
    · exact G_throwW (tx := "the number is none") (si := 17) hX hQ hcs 1 (by decide) xf_1 xl_1 xi_1 xg_1 xb_1 xo_1 (by decide +kernel) ⟨by decide, Nat.le_of_ble_eq_true rfl, by decide, by decide⟩ ⟨by decide, by decide⟩ dX10_needWithin_10 dX10_needWithin_13 dX10_needWithin_14 dX10_needWithin_17 dX10_needWithin_20
theorem cX10_needWithin_ok (l : Launch) (hl0 : l.stackTraces = false) (N : Nat) (p0 : Int32) (p1 : Int32) (p2 : Int32) (μ : Mem) (z : (Unit ⊕ Nat) × Mem) (h : fX10_needWithin N p0 p1 p2 μ = some z) : Ev wC l yX10_needWithin cX10_needWithin 3 (rmx 6 92 1 6) 1 6 (fun ad adK => [.int p0, .int p1, .int p2]) μ z := Ev.of hl0 h (by decide +kernel) (fun _ _ => Nat.le_of_ble_eq_true rfl) (fun X hX hQ hcs => gX10_needWithin_E hX hQ hcs N p0 p1 p2 μ)
/-! ===== DutyCase.put(IIIIIII)I ===== -/
set_option maxHeartbeats 4000000 in
set_option maxRecDepth 100000 in
theorem gX10_put_E {X : Ctx} {z : (Int32 ⊕ Nat) × Mem} (hX : Fx wC X cX10_put 9 RX10 (some .int) (rmx 7 114 8 48)) (hQ : Qy (Qe_i wC z) wC X z 8 48) (hcs : cx_cells X = 0 ∧ cx_slots X = 0) (N : Nat) (p0 : Int32) (p1 : Int32) (p2 : Int32) (p3 : Int32) (p4 : Int32) (p5 : Int32) (p6 : Int32) (μ : Mem) : G wC X z 0 [(0, .ref (cx_ad X 0)), (1, .int p0), (2, .int p1), (3, .int p2), (4, .int p3), (5, .int p4), (6, .int p5), (7, .int p6)] [] μ (fX10_put N p0 p1 p2 p3 p4 p5 p6 μ) := by
  unfold fX10_put
  refine G_aload_n hX 0 rfl rfl dX10_put_0 ?_
  refine G_iload_n hX 2 rfl rfl dX10_put_1 ?_
  refine G_xV hX hQ (fun _ _ => rfl) hcs 0 10 (fun ad adK => [.int p1]) (fun ad adK => []) (fun ad adK => [(0, .ref (ad 0)), (1, .int p0), (2, .int p1), (3, .int p2), (4, .int p3), (5, .int p4), (6, .int p5), (7, .int p6)]) (fun z2 h2 => cX10_needFirm_ok (cx_l X) hQ.2.1 N p1 μ z2 h2) ok_X10_needFirm lm_X10_98 atC0.1 atC0.2 rfl rfl rfl (fun _ _ => rfl) (fun _ _ => Nat.le_of_ble_eq_true rfl) ⟨rfl, rfl, by decide, by decide⟩ ⟨by decide, by decide⟩ ⟨by decide, by decide⟩ dX10_put_2 (fun X μ hX hQ hcs => ?_)
  refine G_aload_n hX 0 rfl rfl dX10_put_5 ?_
  refine G_iload_n hX 3 rfl rfl dX10_put_6 ?_
  refine G_xV hX hQ (fun _ _ => rfl) hcs 0 10 (fun ad adK => [.int p2]) (fun ad adK => []) (fun ad adK => [(0, .ref (ad 0)), (1, .int p0), (2, .int p1), (3, .int p2), (4, .int p3), (5, .int p4), (6, .int p5), (7, .int p6)]) (fun z2 h2 => cX10_needModel_ok (cx_l X) hQ.2.1 N p2 μ z2 h2) ok_X10_needModel lm_X10_111 atC0.1 atC0.2 rfl rfl rfl (fun _ _ => rfl) (fun _ _ => Nat.le_of_ble_eq_true rfl) ⟨rfl, rfl, by decide, by decide⟩ ⟨by decide, by decide⟩ ⟨by decide, by decide⟩ dX10_put_7 (fun X μ hX hQ hcs => ?_)
  refine G_iload_n hX 1 rfl rfl dX10_put_10 ?_
  refine G_iconst hX (0 : Int32) rfl dX10_put_11 ?_
  refine G_iconst hX (2 : Int32) rfl dX10_put_12 ?_
  refine G_xS hX hQ (fun _ _ => rfl) hcs (fun ad adK => [.int p0, .int (0 : Int32), .int (2 : Int32)]) (fun ad adK => []) (fun ad adK => [(0, .ref (ad 0)), (1, .int p0), (2, .int p1), (3, .int p2), (4, .int p3), (5, .int p4), (6, .int p5), (7, .int p6)]) (fun z2 h2 => cX10_needWithin_ok (cx_l X) hQ.2.1 N p0 (0 : Int32) (2 : Int32) μ z2 h2) ok_X10_needWithin lm_X10_178 rfl rfl (fun _ _ => rfl) (fun _ _ => Nat.le_of_ble_eq_true rfl) ⟨rfl, rfl, by decide, by decide⟩ ⟨by decide, by decide⟩ ⟨by decide, by decide⟩ dX10_put_13 (fun X μ hX hQ hcs => ?_)
  refine G_iload hX 4 rfl dX10_put_16 ?_
  refine G_iconst hX (0 : Int32) rfl dX10_put_18 ?_
  refine G_iconst hX (3 : Int32) rfl dX10_put_19 ?_
  refine G_xS hX hQ (fun _ _ => rfl) hcs (fun ad adK => [.int p3, .int (0 : Int32), .int (3 : Int32)]) (fun ad adK => []) (fun ad adK => [(0, .ref (ad 0)), (1, .int p0), (2, .int p1), (3, .int p2), (4, .int p3), (5, .int p4), (6, .int p5), (7, .int p6)]) (fun z2 h2 => cX10_needWithin_ok (cx_l X) hQ.2.1 N p3 (0 : Int32) (3 : Int32) μ z2 h2) ok_X10_needWithin lm_X10_178 rfl rfl (fun _ _ => rfl) (fun _ _ => Nat.le_of_ble_eq_true rfl) ⟨rfl, rfl, by decide, by decide⟩ ⟨by decide, by decide⟩ ⟨by decide, by decide⟩ dX10_put_20 (fun X μ hX hQ hcs => ?_)
  refine G_iload hX 5 rfl dX10_put_23 ?_
  refine G_iconst hX (0 : Int32) rfl dX10_put_25 ?_
  refine G_bipush hX (11 : Int32) rfl dX10_put_26 ?_
  refine G_xS hX hQ (fun _ _ => rfl) hcs (fun ad adK => [.int p4, .int (0 : Int32), .int (11 : Int32)]) (fun ad adK => []) (fun ad adK => [(0, .ref (ad 0)), (1, .int p0), (2, .int p1), (3, .int p2), (4, .int p3), (5, .int p4), (6, .int p5), (7, .int p6)]) (fun z2 h2 => cX10_needWithin_ok (cx_l X) hQ.2.1 N p4 (0 : Int32) (11 : Int32) μ z2 h2) ok_X10_needWithin lm_X10_178 rfl rfl (fun _ _ => rfl) (fun _ _ => Nat.le_of_ble_eq_true rfl) ⟨rfl, rfl, by decide, by decide⟩ ⟨by decide, by decide⟩ ⟨by decide, by decide⟩ dX10_put_28 (fun X μ hX hQ hcs => ?_)
  refine G_iload hX 6 rfl dX10_put_31 ?_
  refine G_iconst hX (1 : Int32) rfl dX10_put_33 ?_
  refine G_sipush hX (999 : Int32) rfl dX10_put_34 ?_
  refine G_xS hX hQ (fun _ _ => rfl) hcs (fun ad adK => [.int p5, .int (1 : Int32), .int (999 : Int32)]) (fun ad adK => []) (fun ad adK => [(0, .ref (ad 0)), (1, .int p0), (2, .int p1), (3, .int p2), (4, .int p3), (5, .int p4), (6, .int p5), (7, .int p6)]) (fun z2 h2 => cX10_needWithin_ok (cx_l X) hQ.2.1 N p5 (1 : Int32) (999 : Int32) μ z2 h2) ok_X10_needWithin lm_X10_178 rfl rfl (fun _ _ => rfl) (fun _ _ => Nat.le_of_ble_eq_true rfl) ⟨rfl, rfl, by decide, by decide⟩ ⟨by decide, by decide⟩ ⟨by decide, by decide⟩ dX10_put_37 (fun X μ hX hQ hcs => ?_)
  refine G_iload hX 7 rfl dX10_put_40 ?_
  refine G_iconst hX (1 : Int32) rfl dX10_put_42 ?_
  refine G_sipush hX (9999 : Int32) rfl dX10_put_43 ?_
  refine G_xS hX hQ (fun _ _ => rfl) hcs (fun ad adK => [.int p6, .int (1 : Int32), .int (9999 : Int32)]) (fun ad adK => []) (fun ad adK => [(0, .ref (ad 0)), (1, .int p0), (2, .int p1), (3, .int p2), (4, .int p3), (5, .int p4), (6, .int p5), (7, .int p6)]) (fun z2 h2 => cX10_needWithin_ok (cx_l X) hQ.2.1 N p6 (1 : Int32) (9999 : Int32) μ z2 h2) ok_X10_needWithin lm_X10_178 rfl rfl (fun _ _ => rfl) (fun _ _ => Nat.le_of_ble_eq_true rfl) ⟨rfl, rfl, by decide, by decide⟩ ⟨by decide, by decide⟩ ⟨by decide, by decide⟩ dX10_put_46 (fun X μ hX hQ hcs => ?_)
  refine G_aload_n hX 0 rfl rfl dX10_put_49 ?_
  refine gf_X10_10_C0 hX dX10_put_50 (fun b_1 hb_1 => ?_)
  refine gf_X10_91_B0 hX hb_1 dX10_put_53 ?_
  refine gf_X10_95_B12 hX hb_1 dX10_put_56 ?_
  refine G_nmi (fun x2 => ?_)
  refine G_bipush hX (40 : Int32) rfl dX10_put_59 ?_
  refine G_icmp_lt hX 74 (by decide) dX10_put_61 ?_ ?_
  · refine G_aload_n hX 0 rfl rfl dX10_put_74 ?_
    refine gf_X10_10_C0 hX dX10_put_75 (fun b_3 hb_3 => ?_)
    refine gf_X10_91_B0 hX hb_3 dX10_put_78 ?_
    refine gf_X10_95_B12 hX hb_3 dX10_put_81 ?_
    refine G_nmi (fun x4 => ?_)
    refine G_istore hX [(8, .int x4), (0, .ref (cx_ad X 0)), (1, .int p0), (2, .int p1), (3, .int p2), (4, .int p3), (5, .int p4), (6, .int p5), (7, .int p6)] (by decide) rfl dX10_put_84 ?_
    refine G_aload_n hX 1 rfl rfl dX10_put_86 ?_
    refine gf_X10_10_C0 hX dX10_put_87 (fun b_5 hb_5 => ?_)
    refine gf_X10_91_B0 hX hb_5 dX10_put_90 ?_
    refine G_iload_n hX 2 rfl rfl dX10_put_93 ?_
    refine G_iload_n hX 3 rfl rfl dX10_put_94 ?_
    refine G_iload_n hX 4 rfl rfl dX10_put_95 ?_
    refine G_iload hX 5 rfl dX10_put_96 ?_
    refine G_iload hX 6 rfl dX10_put_98 ?_
    refine G_iload hX 7 rfl dX10_put_100 ?_
    refine G_iload hX 8 rfl dX10_put_102 ?_
    refine G_cVv hX (b_5 + 12) 7 (fun ad adK => [.int p0, .int p1, .int p2, .int p3, .int p4, .int p5, .int p6]) [] (fun z2 h2 => cX7_add_ok (cx_l X) N (b_5 + 12) p0 p1 p2 p3 p4 p5 p6 μ z2 h2) ok_X7_add lm_X10_187 (atB_12 hb_5).1 (atB_12 hb_5).2 rfl rfl (fun _ _ => rfl) (Nat.le_of_ble_eq_true rfl) ⟨rfl, rfl, by decide, by decide⟩ (csk hcs (by decide) (by decide)) dX10_put_104 (fun μ => ?_)
    refine G_aload_n hX 1 rfl rfl dX10_put_107 ?_
    refine gf_X10_10_C0 hX dX10_put_108 (fun b_6 hb_6 => ?_)
    refine G_iload hX 0 rfl dX10_put_111 ?_
    refine G_cVv hX b_6 1 (fun ad adK => [.int x4]) [] (fun z2 h2 => cX1_workOut_ok (cx_l X) N b_6 x4 μ z2 h2) ok_X1_workOut lm_X10_191 (atB_0 hb_6).1 (atB_0 hb_6).2 rfl rfl (fun _ _ => rfl) (Nat.le_of_ble_eq_true rfl) ⟨rfl, rfl, by decide, by decide⟩ (csk hcs (by decide) (by decide)) dX10_put_113 (fun μ => ?_)
    refine G_aload_n hX 1 rfl rfl dX10_put_116 ?_
    refine gf_X10_31_C0 hX dX10_put_117 ?_
    refine G_iconst hX (0 : Int32) rfl dX10_put_120 ?_
    refine G_iload hX 0 rfl dX10_put_121 ?_
    refine G_iconst hX (0 : Int32) rfl dX10_put_123 ?_
    refine G_cVv hX 2 0 (fun ad adK => [.int (0 : Int32), .int x4, .int (0 : Int32)]) [] (fun z2 h2 => cX0_keep_ok (cx_l X) N (0 : Int32) x4 (0 : Int32) μ z2 h2) ok_X0_keep lm_X10_194 atC2.1 atC2.2 rfl rfl (fun _ _ => rfl) (Nat.le_of_ble_eq_true rfl) ⟨rfl, rfl, by decide, by decide⟩ (csk hcs (by decide) (by decide)) dX10_put_124 (fun μ => ?_)
    refine G_iload hX 0 rfl dX10_put_127 ?_
    exact G_iretX hX hQ hcs ⟨by decide, by decide⟩ dX10_put_129
  · exact G_throw (tx := "there were 40 sales") (si := 18) hX hQ hcs 2 (by decide) xf_2 xl_2 xi_2 xg_2 xb_2 xo_2 (by decide +kernel) ⟨by decide, Nat.le_of_ble_eq_true rfl, by decide, by decide⟩ ⟨by decide, by decide⟩ dX10_put_64 dX10_put_67 dX10_put_68 dX10_put_70 dX10_put_73
theorem cX10_put_ok (l : Launch) (hl0 : l.stackTraces = false) (N : Nat) (p0 : Int32) (p1 : Int32) (p2 : Int32) (p3 : Int32) (p4 : Int32) (p5 : Int32) (p6 : Int32) (μ : Mem) (z : (Int32 ⊕ Nat) × Mem) (h : fX10_put N p0 p1 p2 p3 p4 p5 p6 μ = some z) : Ei wC l yX10_put cX10_put 9 .int (rmx 7 114 8 48) 8 48 (fun ad adK => [.ref (ad 0), .int p0, .int p1, .int p2, .int p3, .int p4, .int p5, .int p6]) μ z := Ei.of hl0 h (by decide +kernel) (fun _ _ => Nat.le_of_ble_eq_true rfl) (fun X hX hQ hcs => gX10_put_E hX hQ hcs N p0 p1 p2 p3 p4 p5 p6 μ)
/-! ===== DutyCase.drop(I)V ===== -/
set_option maxHeartbeats 4000000 in
set_option maxRecDepth 100000 in
theorem gX10_drop_E {X : Ctx} {z : (Unit ⊕ Nat) × Mem} (hX : Fx wC X cX10_drop 2 RX10 none (rmx 7 113 1 6)) (hQ : Qy (Qe_v wC z) wC X z 1 6) (hcs : cx_cells X = 0 ∧ cx_slots X = 0) (N : Nat) (p0 : Int32) (μ : Mem) : G wC X z 0 [(0, .ref (cx_ad X 0)), (1, .int p0)] [] μ (fX10_drop N p0 μ) := by
  unfold fX10_drop
  refine G_aload_n hX 0 rfl rfl dX10_drop_0 ?_
  refine G_iload_n hX 1 rfl rfl dX10_drop_1 ?_
  refine G_xV hX hQ (fun _ _ => rfl) hcs 0 10 (fun ad adK => [.int p0]) (fun ad adK => []) (fun ad adK => [(0, .ref (ad 0)), (1, .int p0)]) (fun z2 h2 => cX10_needSale_ok (cx_l X) hQ.2.1 N p0 μ z2 h2) ok_X10_needSale lm_X10_135 atC0.1 atC0.2 rfl rfl rfl (fun _ _ => rfl) (fun _ _ => Nat.le_of_ble_eq_true rfl) ⟨rfl, rfl, by decide, by decide⟩ ⟨by decide, by decide⟩ ⟨by decide, by decide⟩ dX10_drop_2 (fun X μ hX hQ hcs => ?_)
  refine G_aload_n hX 0 rfl rfl dX10_drop_5 ?_
  refine gf_X10_10_C0 hX dX10_drop_6 (fun b_1 hb_1 => ?_)
  refine gf_X10_91_B0 hX hb_1 dX10_drop_9 ?_
  refine gf_X10_197_B12 hX hb_1 dX10_drop_12 ?_
  refine G_iload_n hX 1 rfl rfl dX10_drop_15 ?_
  refine G_iconst hX (0 : Int32) rfl dX10_drop_16 ?_
  refine G_sZ hX (atB_22 hb_1) dX10_drop_17 (fun μ => ?_)
  refine G_aload_n hX 0 rfl rfl dX10_drop_18 ?_
  refine gf_X10_31_C0 hX dX10_drop_19 ?_
  refine G_iconst hX (1 : Int32) rfl dX10_drop_22 ?_
  refine G_iload_n hX 1 rfl rfl dX10_drop_23 ?_
  refine G_iconst hX (0 : Int32) rfl dX10_drop_24 ?_
  refine G_cVv hX 2 0 (fun ad adK => [.int (1 : Int32), .int p0, .int (0 : Int32)]) [] (fun z2 h2 => cX0_keep_ok (cx_l X) N (1 : Int32) p0 (0 : Int32) μ z2 h2) ok_X0_keep lm_X10_194 atC2.1 atC2.2 rfl rfl (fun _ _ => rfl) (Nat.le_of_ble_eq_true rfl) ⟨rfl, rfl, by decide, by decide⟩ (csk hcs (by decide) (by decide)) dX10_drop_25 (fun μ => ?_)
  exact G_vretX hX hQ hcs ⟨by decide, by decide⟩ dX10_drop_28
theorem cX10_drop_ok (l : Launch) (hl0 : l.stackTraces = false) (N : Nat) (p0 : Int32) (μ : Mem) (z : (Unit ⊕ Nat) × Mem) (h : fX10_drop N p0 μ = some z) : Ev wC l yX10_drop cX10_drop 2 (rmx 7 113 1 6) 1 6 (fun ad adK => [.ref (ad 0), .int p0]) μ z := Ev.of hl0 h (by decide +kernel) (fun _ _ => Nat.le_of_ble_eq_true rfl) (fun X hX hQ hcs => gX10_drop_E hX hQ hcs N p0 μ)
/-! ===== DutyCase.price(II)I ===== -/
set_option maxHeartbeats 4000000 in
set_option maxRecDepth 100000 in
theorem gX10_price_E {X : Ctx} {z : (Int32 ⊕ Nat) × Mem} (hX : Fx wC X cX10_price 4 RX10 (some .int) (rmx 7 123 2 12)) (hQ : Qy (Qe_i wC z) wC X z 2 12) (hcs : cx_cells X = 0 ∧ cx_slots X = 0) (N : Nat) (p0 : Int32) (p1 : Int32) (μ : Mem) : G wC X z 0 [(0, .ref (cx_ad X 0)), (1, .int p0), (2, .int p1)] [] μ (fX10_price N p0 p1 μ) := by
  unfold fX10_price
  refine G_aload_n hX 0 rfl rfl dX10_price_0 ?_
  refine G_iload_n hX 1 rfl rfl dX10_price_1 ?_
  refine G_xV hX hQ (fun _ _ => rfl) hcs 0 10 (fun ad adK => [.int p0]) (fun ad adK => []) (fun ad adK => [(0, .ref (ad 0)), (1, .int p0), (2, .int p1)]) (fun z2 h2 => cX10_needSale_ok (cx_l X) hQ.2.1 N p0 μ z2 h2) ok_X10_needSale lm_X10_135 atC0.1 atC0.2 rfl rfl rfl (fun _ _ => rfl) (fun _ _ => Nat.le_of_ble_eq_true rfl) ⟨rfl, rfl, by decide, by decide⟩ ⟨by decide, by decide⟩ ⟨by decide, by decide⟩ dX10_price_2 (fun X μ hX hQ hcs => ?_)
  refine G_iload_n hX 2 rfl rfl dX10_price_5 ?_
  refine G_iconst hX (1 : Int32) rfl dX10_price_6 ?_
  refine G_sipush hX (9999 : Int32) rfl dX10_price_7 ?_
  refine G_xS hX hQ (fun _ _ => rfl) hcs (fun ad adK => [.int p1, .int (1 : Int32), .int (9999 : Int32)]) (fun ad adK => []) (fun ad adK => [(0, .ref (ad 0)), (1, .int p0), (2, .int p1)]) (fun z2 h2 => cX10_needWithin_ok (cx_l X) hQ.2.1 N p1 (1 : Int32) (9999 : Int32) μ z2 h2) ok_X10_needWithin lm_X10_178 rfl rfl (fun _ _ => rfl) (fun _ _ => Nat.le_of_ble_eq_true rfl) ⟨rfl, rfl, by decide, by decide⟩ ⟨by decide, by decide⟩ ⟨by decide, by decide⟩ dX10_price_10 (fun X μ hX hQ hcs => ?_)
  refine G_aload_n hX 0 rfl rfl dX10_price_13 ?_
  refine gf_X10_10_C0 hX dX10_price_14 (fun b_1 hb_1 => ?_)
  refine gf_X10_91_B0 hX hb_1 dX10_price_17 ?_
  refine gf_X10_156_B12 hX hb_1 dX10_price_20 ?_
  refine G_iload_n hX 1 rfl rfl dX10_price_23 ?_
  refine G_aI hX (atB_19 hb_1) dX10_price_24 (fun x2 => ?_)
  refine G_istore_n hX [(3, .int x2), (0, .ref (cx_ad X 0)), (1, .int p0), (2, .int p1)] rfl (by decide) rfl dX10_price_25 ?_
  refine G_aload_n hX 1 rfl rfl dX10_price_26 ?_
  refine gf_X10_10_C0 hX dX10_price_27 (fun b_3 hb_3 => ?_)
  refine G_iload_n hX 2 rfl rfl dX10_price_30 ?_
  refine G_iload_n hX 3 rfl rfl dX10_price_31 ?_
  refine G_cVv hX b_3 1 (fun ad adK => [.int p0, .int p1]) [] (fun z2 h2 => cX1_tellPrice_ok (cx_l X) N b_3 p0 p1 μ z2 h2) ok_X1_tellPrice lm_X10_200 (atB_0 hb_3).1 (atB_0 hb_3).2 rfl rfl (fun _ _ => rfl) (Nat.le_of_ble_eq_true rfl) ⟨rfl, rfl, by decide, by decide⟩ (csk hcs (by decide) (by decide)) dX10_price_32 (fun μ => ?_)
  refine G_aload_n hX 1 rfl rfl dX10_price_35 ?_
  refine gf_X10_31_C0 hX dX10_price_36 ?_
  refine G_iconst hX (2 : Int32) rfl dX10_price_39 ?_
  refine G_iload_n hX 2 rfl rfl dX10_price_40 ?_
  refine G_iload_n hX 0 rfl rfl dX10_price_41 ?_
  refine G_cVv hX 2 0 (fun ad adK => [.int (2 : Int32), .int p0, .int x2]) [] (fun z2 h2 => cX0_keep_ok (cx_l X) N (2 : Int32) p0 x2 μ z2 h2) ok_X0_keep lm_X10_194 atC2.1 atC2.2 rfl rfl (fun _ _ => rfl) (Nat.le_of_ble_eq_true rfl) ⟨rfl, rfl, by decide, by decide⟩ (csk hcs (by decide) (by decide)) dX10_price_42 (fun μ => ?_)
  refine G_iload_n hX 0 rfl rfl dX10_price_45 ?_
  exact G_iretX hX hQ hcs ⟨by decide, by decide⟩ dX10_price_46
theorem cX10_price_ok (l : Launch) (hl0 : l.stackTraces = false) (N : Nat) (p0 : Int32) (p1 : Int32) (μ : Mem) (z : (Int32 ⊕ Nat) × Mem) (h : fX10_price N p0 p1 μ = some z) : Ei wC l yX10_price cX10_price 4 .int (rmx 7 123 2 12) 2 12 (fun ad adK => [.ref (ad 0), .int p0, .int p1]) μ z := Ei.of hl0 h (by decide +kernel) (fun _ _ => Nat.le_of_ble_eq_true rfl) (fun X hX hQ hcs => gX10_price_E hX hQ hcs N p0 p1 μ)
/-! ===== DutyCase.costs(III)I ===== -/
set_option maxHeartbeats 4000000 in
set_option maxRecDepth 100000 in
theorem gX10_costs_E {X : Ctx} {z : (Int32 ⊕ Nat) × Mem} (hX : Fx wC X cX10_costs 6 RX10 (some .int) (rmx 7 124 3 18)) (hQ : Qy (Qe_i wC z) wC X z 3 18) (hcs : cx_cells X = 0 ∧ cx_slots X = 0) (N : Nat) (p0 : Int32) (p1 : Int32) (p2 : Int32) (μ : Mem) : G wC X z 0 [(0, .ref (cx_ad X 0)), (1, .int p0), (2, .int p1), (3, .int p2)] [] μ (fX10_costs N p0 p1 p2 μ) := by
  unfold fX10_costs
  refine G_aload_n hX 0 rfl rfl dX10_costs_0 ?_
  refine G_iload_n hX 1 rfl rfl dX10_costs_1 ?_
  refine G_xV hX hQ (fun _ _ => rfl) hcs 0 10 (fun ad adK => [.int p0]) (fun ad adK => []) (fun ad adK => [(0, .ref (ad 0)), (1, .int p0), (2, .int p1), (3, .int p2)]) (fun z2 h2 => cX10_needFirm_ok (cx_l X) hQ.2.1 N p0 μ z2 h2) ok_X10_needFirm lm_X10_98 atC0.1 atC0.2 rfl rfl rfl (fun _ _ => rfl) (fun _ _ => Nat.le_of_ble_eq_true rfl) ⟨rfl, rfl, by decide, by decide⟩ ⟨by decide, by decide⟩ ⟨by decide, by decide⟩ dX10_costs_2 (fun X μ hX hQ hcs => ?_)
  refine G_aload_n hX 0 rfl rfl dX10_costs_5 ?_
  refine G_iload_n hX 2 rfl rfl dX10_costs_6 ?_
  refine G_xV hX hQ (fun _ _ => rfl) hcs 0 10 (fun ad adK => [.int p1]) (fun ad adK => []) (fun ad adK => [(0, .ref (ad 0)), (1, .int p0), (2, .int p1), (3, .int p2)]) (fun z2 h2 => cX10_needModel_ok (cx_l X) hQ.2.1 N p1 μ z2 h2) ok_X10_needModel lm_X10_111 atC0.1 atC0.2 rfl rfl rfl (fun _ _ => rfl) (fun _ _ => Nat.le_of_ble_eq_true rfl) ⟨rfl, rfl, by decide, by decide⟩ ⟨by decide, by decide⟩ ⟨by decide, by decide⟩ dX10_costs_7 (fun X μ hX hQ hcs => ?_)
  refine G_iload_n hX 3 rfl rfl dX10_costs_10 ?_
  refine G_iconst hX (1 : Int32) rfl dX10_costs_11 ?_
  refine G_sipush hX (9999 : Int32) rfl dX10_costs_12 ?_
  refine G_xS hX hQ (fun _ _ => rfl) hcs (fun ad adK => [.int p2, .int (1 : Int32), .int (9999 : Int32)]) (fun ad adK => []) (fun ad adK => [(0, .ref (ad 0)), (1, .int p0), (2, .int p1), (3, .int p2)]) (fun z2 h2 => cX10_needWithin_ok (cx_l X) hQ.2.1 N p2 (1 : Int32) (9999 : Int32) μ z2 h2) ok_X10_needWithin lm_X10_178 rfl rfl (fun _ _ => rfl) (fun _ _ => Nat.le_of_ble_eq_true rfl) ⟨rfl, rfl, by decide, by decide⟩ ⟨by decide, by decide⟩ ⟨by decide, by decide⟩ dX10_costs_15 (fun X μ hX hQ hcs => ?_)
  refine G_aload_n hX 0 rfl rfl dX10_costs_18 ?_
  refine gf_X10_10_C0 hX dX10_costs_19 (fun b_1 hb_1 => ?_)
  refine G_iload_n hX 1 rfl rfl dX10_costs_22 ?_
  refine G_iload_n hX 2 rfl rfl dX10_costs_23 ?_
  refine G_cVi hX b_1 1 (fun ad adK => [.int p0, .int p1]) [] (fun z2 h2 => cX1_costOf_ok (cx_l X) N b_1 p0 p1 μ z2 h2) ok_X1_costOf lm_X10_132 (atB_0 hb_1).1 (atB_0 hb_1).2 rfl rfl (fun _ _ => rfl) (Nat.le_of_ble_eq_true rfl) ⟨rfl, rfl, by decide, by decide⟩ (csk hcs (by decide) (by decide)) dX10_costs_24 (fun r2 μ => ?_)
  refine G_istore hX [(4, .int r2), (0, .ref (cx_ad X 0)), (1, .int p0), (2, .int p1), (3, .int p2)] (by decide) rfl dX10_costs_27 ?_
  refine G_iload_n hX 2 rfl rfl dX10_costs_29 ?_
  refine G_bipush hX (6 : Int32) rfl dX10_costs_30 ?_
  refine G_imul hX dX10_costs_32 ?_
  refine G_iload_n hX 3 rfl rfl dX10_costs_33 ?_
  refine G_iadd hX dX10_costs_34 ?_
  refine G_nmi (fun x3 => ?_)
  refine G_istore hX [(5, .int x3), (4, .int r2), (0, .ref (cx_ad X 0)), (1, .int p0), (2, .int p1), (3, .int p2)] (by decide) rfl dX10_costs_35 ?_
  refine G_aload_n hX 2 rfl rfl dX10_costs_37 ?_
  refine gf_X10_31_C0 hX dX10_costs_38 ?_
  refine G_iconst hX (3 : Int32) rfl dX10_costs_41 ?_
  refine G_iload hX 0 rfl dX10_costs_42 ?_
  refine G_aload_n hX 2 rfl rfl dX10_costs_44 ?_
  refine gf_X10_10_C0 hX dX10_costs_45 (fun b_4 hb_4 => ?_)
  refine gf_X10_204_B0 hX hb_4 dX10_costs_48 ?_
  refine G_iload hX 0 rfl dX10_costs_51 ?_
  refine G_aI hX (atB_26 hb_4) dX10_costs_53 (fun x5 => ?_)
  refine G_cVv hX 2 0 (fun ad adK => [.int (3 : Int32), .int x3, .int x5]) [] (fun z2 h2 => cX0_keep_ok (cx_l X) N (3 : Int32) x3 x5 μ z2 h2) ok_X0_keep lm_X10_194 atC2.1 atC2.2 rfl rfl (fun _ _ => rfl) (Nat.le_of_ble_eq_true rfl) ⟨rfl, rfl, by decide, by decide⟩ (csk hcs (by decide) (by decide)) dX10_costs_54 (fun μ => ?_)
  refine G_aload_n hX 2 rfl rfl dX10_costs_57 ?_
  refine gf_X10_10_C0 hX dX10_costs_58 (fun b_6 hb_6 => ?_)
  refine G_iload hX 0 rfl dX10_costs_61 ?_
  refine G_iload_n hX 5 rfl rfl dX10_costs_63 ?_
  refine G_cVv hX b_6 1 (fun ad adK => [.int x3, .int p2]) [] (fun z2 h2 => cX1_tellCost_ok (cx_l X) N b_6 x3 p2 μ z2 h2) ok_X1_tellCost lm_X10_207 (atB_0 hb_6).1 (atB_0 hb_6).2 rfl rfl (fun _ _ => rfl) (Nat.le_of_ble_eq_true rfl) ⟨rfl, rfl, by decide, by decide⟩ (csk hcs (by decide) (by decide)) dX10_costs_64 (fun μ => ?_)
  refine G_iload hX 1 rfl dX10_costs_67 ?_
  exact G_iretX hX hQ hcs ⟨by decide, by decide⟩ dX10_costs_69
theorem cX10_costs_ok (l : Launch) (hl0 : l.stackTraces = false) (N : Nat) (p0 : Int32) (p1 : Int32) (p2 : Int32) (μ : Mem) (z : (Int32 ⊕ Nat) × Mem) (h : fX10_costs N p0 p1 p2 μ = some z) : Ei wC l yX10_costs cX10_costs 6 .int (rmx 7 124 3 18) 3 18 (fun ad adK => [.ref (ad 0), .int p0, .int p1, .int p2]) μ z := Ei.of hl0 h (by decide +kernel) (fun _ _ => Nat.le_of_ble_eq_true rfl) (fun X hX hQ hcs => gX10_costs_E hX hQ hcs N p0 p1 p2 μ)
/-! ===== DutyCase.mostOfSetting(I)I ===== -/
set_option maxHeartbeats 4000000 in
set_option maxRecDepth 100000 in
theorem gX10_mostOfSetting_E {X : Ctx} {z : Int32 × Mem} (hX : Fx wC X cX10_mostOfSetting 1 RX10 (some .int) (rmo 0 0)) (hQ : Qx_i wC X z) (hcs : cx_cells X = 0 ∧ cx_slots X = 0) (N : Nat) (p0 : Int32) (μ : Mem) : G wC X z 0 [(0, .int p0)] [] μ (fX10_mostOfSetting N p0 μ) := by
  unfold fX10_mostOfSetting
  refine G_iload_n hX 0 rfl rfl dX10_mostOfSetting_0 ?_
  refine G_if_ne hX 8 (by decide) dX10_mostOfSetting_1 ?_ ?_
  · refine G_iload_n hX 0 rfl rfl dX10_mostOfSetting_8 ?_
    refine G_iconst hX (4 : Int32) rfl dX10_mostOfSetting_9 ?_
    refine G_icmp_eq hX 18 (by decide) dX10_mostOfSetting_10 ?_ ?_
    · refine G_bipush hX (99 : Int32) rfl dX10_mostOfSetting_18 ?_
      refine G_goto hX 24 (by decide) dX10_mostOfSetting_20 ?_
      exact G_iret hX hQ dX10_mostOfSetting_24
    · refine G_iload_n hX 0 rfl rfl dX10_mostOfSetting_13 ?_
      refine G_iconst hX (5 : Int32) rfl dX10_mostOfSetting_14 ?_
      refine G_icmp_ne hX 23 (by decide) dX10_mostOfSetting_15 ?_ ?_
      · refine G_iconst hX (1 : Int32) rfl dX10_mostOfSetting_23 ?_
        exact G_iret hX hQ dX10_mostOfSetting_24
      · refine G_bipush hX (99 : Int32) rfl dX10_mostOfSetting_18 ?_
        refine G_goto hX 24 (by decide) dX10_mostOfSetting_20 ?_
        exact G_iret hX hQ dX10_mostOfSetting_24
  · refine G_iconst hX (2 : Int32) rfl dX10_mostOfSetting_4 ?_
    refine G_goto hX 24 (by decide) dX10_mostOfSetting_5 ?_
    exact G_iret hX hQ dX10_mostOfSetting_24
theorem cX10_mostOfSetting_ok (l : Launch) (N : Nat) (p0 : Int32) (μ : Mem) (z : Int32 × Mem) (h : fX10_mostOfSetting N p0 μ = some z) : Mi wC l yX10_mostOfSetting cX10_mostOfSetting 1 .int (rmo 0 0) (fun ad adK => [.int p0]) μ z := Mi.of h (by decide +kernel) (fun _ _ => Nat.le_of_ble_eq_true rfl) (fun X hX hQ hl hcs => gX10_mostOfSetting_E hX hQ hcs N p0 μ)
/-! ===== DutyCase.set(II)I ===== -/
set_option maxHeartbeats 4000000 in
set_option maxRecDepth 100000 in
theorem gX10_set_E {X : Ctx} {z : (Int32 ⊕ Nat) × Mem} (hX : Fx wC X cX10_set 4 RX10 (some .int) (rmx 7 114 1 6)) (hQ : Qy (Qe_i wC z) wC X z 1 6) (hcs : cx_cells X = 0 ∧ cx_slots X = 0) (N : Nat) (p0 : Int32) (p1 : Int32) (μ : Mem) : G wC X z 0 [(0, .ref (cx_ad X 0)), (1, .int p0), (2, .int p1)] [] μ (fX10_set N p0 p1 μ) := by
  unfold fX10_set
  refine G_iload_n hX 1 rfl rfl dX10_set_0 ?_
  refine G_if_lt hX 10 (by decide) dX10_set_1 ?_ ?_
  · exact G_throwX xd_0 xd_1 xd_2 xd_5 xfits rfl (tx := "there is no such setting") (si := 19) hX hQ hcs 3 (by decide) xf_3 xl_3 xi_3 xg_3 xb_3 xo_3 (by decide +kernel) ⟨by decide, Nat.le_of_ble_eq_true rfl, by decide, by decide⟩ ⟨by decide, by decide⟩ dX10_set_10 dX10_set_13 dX10_set_14 dX10_set_16 dX10_set_19
  · refine G_iload_n hX 1 rfl rfl dX10_set_4 ?_
    refine G_bipush hX (6 : Int32) rfl dX10_set_5 ?_
    refine G_icmp_lt hX 20 (by decide) dX10_set_7 ?_ ?_
    · refine G_iload_n hX 2 rfl rfl dX10_set_20 ?_
      refine G_iconst hX (0 : Int32) rfl dX10_set_21 ?_
      refine G_iload_n hX 1 rfl rfl dX10_set_22 ?_
      refine G_cSi hX (fun ad adK => [.int p0]) [.int (0 : Int32), .int p1] (fun z2 h2 => cX10_mostOfSetting_ok (cx_l X) N p0 μ z2 h2) ok_X10_mostOfSetting lm_X10_212 rfl (fun _ _ => rfl) (Nat.le_of_ble_eq_true rfl) ⟨rfl, rfl, by decide, by decide⟩ (csk hcs (by decide) (by decide)) dX10_set_23 (fun r1 μ => ?_)
      refine G_xS hX hQ (fun _ _ => rfl) hcs (fun ad adK => [.int p1, .int (0 : Int32), .int r1]) (fun ad adK => []) (fun ad adK => [(0, .ref (ad 0)), (1, .int p0), (2, .int p1)]) (fun z2 h2 => cX10_needWithin_ok (cx_l X) hQ.2.1 N p1 (0 : Int32) r1 μ z2 h2) ok_X10_needWithin lm_X10_178 rfl rfl (fun _ _ => rfl) (fun _ _ => Nat.le_of_ble_eq_true rfl) ⟨rfl, rfl, by decide, by decide⟩ ⟨by decide, by decide⟩ ⟨by decide, by decide⟩ dX10_set_26 (fun X μ hX hQ hcs => ?_)
      refine G_aload_n hX 0 rfl rfl dX10_set_29 ?_
      refine gf_X10_10_C0 hX dX10_set_30 (fun b_2 hb_2 => ?_)
      refine gf_X10_216_B0 hX hb_2 dX10_set_33 ?_
      refine G_iload_n hX 1 rfl rfl dX10_set_36 ?_
      refine G_aI hX (atB_28 hb_2) dX10_set_37 (fun x3 => ?_)
      refine G_istore_n hX [(3, .int x3), (0, .ref (cx_ad X 0)), (1, .int p0), (2, .int p1)] rfl (by decide) rfl dX10_set_38 ?_
      refine G_aload_n hX 1 rfl rfl dX10_set_39 ?_
      refine gf_X10_10_C0 hX dX10_set_40 (fun b_4 hb_4 => ?_)
      refine gf_X10_216_B0 hX hb_4 dX10_set_43 ?_
      refine G_iload_n hX 2 rfl rfl dX10_set_46 ?_
      refine G_iload_n hX 3 rfl rfl dX10_set_47 ?_
      refine G_sI hX (atB_28 hb_4) dX10_set_48 (fun μ => ?_)
      refine G_aload_n hX 1 rfl rfl dX10_set_49 ?_
      refine gf_X10_31_C0 hX dX10_set_50 ?_
      refine G_iconst hX (4 : Int32) rfl dX10_set_53 ?_
      refine G_iload_n hX 2 rfl rfl dX10_set_54 ?_
      refine G_iload_n hX 0 rfl rfl dX10_set_55 ?_
      refine G_cVv hX 2 0 (fun ad adK => [.int (4 : Int32), .int p0, .int x3]) [] (fun z2 h2 => cX0_keep_ok (cx_l X) N (4 : Int32) p0 x3 μ z2 h2) ok_X0_keep lm_X10_194 atC2.1 atC2.2 rfl rfl (fun _ _ => rfl) (Nat.le_of_ble_eq_true rfl) ⟨rfl, rfl, by decide, by decide⟩ (csk hcs (by decide) (by decide)) dX10_set_56 (fun μ => ?_)
      refine G_iload_n hX 0 rfl rfl dX10_set_59 ?_
      exact G_iretX hX hQ hcs ⟨by decide, by decide⟩ dX10_set_60
    · exact G_throwX xd_0 xd_1 xd_2 xd_5 xfits rfl (tx := "there is no such setting") (si := 19) hX hQ hcs 3 (by decide) xf_3 xl_3 xi_3 xg_3 xb_3 xo_3 (by decide +kernel) ⟨by decide, Nat.le_of_ble_eq_true rfl, by decide, by decide⟩ ⟨by decide, by decide⟩ dX10_set_10 dX10_set_13 dX10_set_14 dX10_set_16 dX10_set_19
theorem cX10_set_ok (l : Launch) (hl0 : l.stackTraces = false) (N : Nat) (p0 : Int32) (p1 : Int32) (μ : Mem) (z : (Int32 ⊕ Nat) × Mem) (h : fX10_set N p0 p1 μ = some z) : Ei wC l yX10_set cX10_set 4 .int (rmx 7 114 1 6) 1 6 (fun ad adK => [.ref (ad 0), .int p0, .int p1]) μ z := Ei.of hl0 h (by decide +kernel) (fun _ _ => Nat.le_of_ble_eq_true rfl) (fun X hX hQ hcs => gX10_set_E hX hQ hcs N p0 p1 μ)
/-! ===== DutyCase.silent(IZ)Z ===== -/
set_option maxHeartbeats 4000000 in
set_option maxRecDepth 100000 in
theorem gX10_silent_E {X : Ctx} {z : (Int32 ⊕ Nat) × Mem} (hX : Fx wC X cX10_silent 4 RX10 (some .boolean) (rmx 7 113 1 6)) (hQ : Qy (Qe_i wC z) wC X z 1 6) (hcs : cx_cells X = 0 ∧ cx_slots X = 0) (N : Nat) (p0 : Int32) (p1 : Int32) (μ : Mem) : G wC X z 0 [(0, .ref (cx_ad X 0)), (1, .int p0), (2, .int p1)] [] μ (fX10_silent N p0 p1 μ) := by
  unfold fX10_silent
  refine G_aload_n hX 0 rfl rfl dX10_silent_0 ?_
  refine G_iload_n hX 1 rfl rfl dX10_silent_1 ?_
  refine G_xV hX hQ (fun _ _ => rfl) hcs 0 10 (fun ad adK => [.int p0]) (fun ad adK => []) (fun ad adK => [(0, .ref (ad 0)), (1, .int p0), (2, .int p1)]) (fun z2 h2 => cX10_needFirm_ok (cx_l X) hQ.2.1 N p0 μ z2 h2) ok_X10_needFirm lm_X10_98 atC0.1 atC0.2 rfl rfl rfl (fun _ _ => rfl) (fun _ _ => Nat.le_of_ble_eq_true rfl) ⟨rfl, rfl, by decide, by decide⟩ ⟨by decide, by decide⟩ ⟨by decide, by decide⟩ dX10_silent_2 (fun X μ hX hQ hcs => ?_)
  refine G_aload_n hX 0 rfl rfl dX10_silent_5 ?_
  refine gf_X10_10_C0 hX dX10_silent_6 (fun b_1 hb_1 => ?_)
  refine gf_X10_219_B0 hX hb_1 dX10_silent_9 ?_
  refine G_iload_n hX 1 rfl rfl dX10_silent_12 ?_
  refine G_aZ hX (atB_27 hb_1) dX10_silent_13 (fun x2 => ?_)
  refine G_istore_n hX [(3, .int x2), (0, .ref (cx_ad X 0)), (1, .int p0), (2, .int p1)] rfl (by decide) rfl dX10_silent_14 ?_
  refine G_aload_n hX 1 rfl rfl dX10_silent_15 ?_
  refine gf_X10_10_C0 hX dX10_silent_16 (fun b_3 hb_3 => ?_)
  refine gf_X10_219_B0 hX hb_3 dX10_silent_19 ?_
  refine G_iload_n hX 2 rfl rfl dX10_silent_22 ?_
  refine G_iload_n hX 3 rfl rfl dX10_silent_23 ?_
  refine G_sZ hX (atB_27 hb_3) dX10_silent_24 (fun μ => ?_)
  refine G_aload_n hX 1 rfl rfl dX10_silent_25 ?_
  refine gf_X10_31_C0 hX dX10_silent_26 ?_
  refine G_iconst hX (5 : Int32) rfl dX10_silent_29 ?_
  refine G_iload_n hX 2 rfl rfl dX10_silent_30 ?_
  refine G_iload_n hX 0 rfl rfl dX10_silent_31 ?_
  refine G_if_eq hX 39 (by decide) dX10_silent_32 ?_ ?_
  · refine G_iconst hX (0 : Int32) rfl dX10_silent_39 ?_
    refine G_cVv hX 2 0 (fun ad adK => [.int (5 : Int32), .int p0, .int (0 : Int32)]) [] (fun z2 h2 => cX0_keep_ok (cx_l X) N (5 : Int32) p0 (0 : Int32) μ z2 h2) ok_X0_keep lm_X10_194 atC2.1 atC2.2 rfl rfl (fun _ _ => rfl) (Nat.le_of_ble_eq_true rfl) ⟨rfl, rfl, by decide, by decide⟩ (csk hcs (by decide) (by decide)) dX10_silent_40 (fun μ => ?_)
    refine G_iload_n hX 0 rfl rfl dX10_silent_43 ?_
    exact G_zretX hX hQ hcs ⟨by decide, by decide⟩ dX10_silent_44
  · refine G_iconst hX (1 : Int32) rfl dX10_silent_35 ?_
    refine G_goto hX 40 (by decide) dX10_silent_36 ?_
    refine G_cVv hX 2 0 (fun ad adK => [.int (5 : Int32), .int p0, .int (1 : Int32)]) [] (fun z2 h2 => cX0_keep_ok (cx_l X) N (5 : Int32) p0 (1 : Int32) μ z2 h2) ok_X0_keep lm_X10_194 atC2.1 atC2.2 rfl rfl (fun _ _ => rfl) (Nat.le_of_ble_eq_true rfl) ⟨rfl, rfl, by decide, by decide⟩ (csk hcs (by decide) (by decide)) dX10_silent_40 (fun μ => ?_)
    refine G_iload_n hX 0 rfl rfl dX10_silent_43 ?_
    exact G_zretX hX hQ hcs ⟨by decide, by decide⟩ dX10_silent_44
theorem cX10_silent_ok (l : Launch) (hl0 : l.stackTraces = false) (N : Nat) (p0 : Int32) (p1 : Int32) (μ : Mem) (z : (Int32 ⊕ Nat) × Mem) (h : fX10_silent N p0 p1 μ = some z) : Ei wC l yX10_silent cX10_silent 4 .boolean (rmx 7 113 1 6) 1 6 (fun ad adK => [.ref (ad 0), .int p0, .int p1]) μ z := Ei.of hl0 h (by decide +kernel) (fun _ _ => Nat.le_of_ble_eq_true rfl) (fun X hX hQ hcs => gX10_silent_E hX hQ hcs N p0 p1 μ)
/-! ===== DutyCase.undo()I ===== -/
set_option maxHeartbeats 4000000 in
set_option maxRecDepth 100000 in
theorem gX10_undo_E {X : Ctx} {z : Int32 × Mem} (hX : Fx wC X cX10_undo 1 RX10 (some .int) (rmo 6 146)) (hQ : Qx_i wC X z) (hcs : cx_cells X = 0 ∧ cx_slots X = 0) (N : Nat) (μ : Mem) : G wC X z 0 [(0, .ref (cx_ad X 0))] [] μ (fX10_undo N μ) := by
  unfold fX10_undo
  refine G_aload_n hX 0 rfl rfl dX10_undo_0 ?_
  refine gf_X10_31_C0 hX dX10_undo_1 ?_
  refine gf_X10_88_C2 hX dX10_undo_4 ?_
  refine G_nmi (fun x1 => ?_)
  refine G_if_ne hX 12 (by decide) dX10_undo_7 ?_ ?_
  · refine G_aload_n hX 0 rfl rfl dX10_undo_12 ?_
    refine gf_X10_31_C0 hX dX10_undo_13 ?_
    refine G_aload_n hX 0 rfl rfl dX10_undo_16 ?_
    refine gf_X10_10_C0 hX dX10_undo_17 (fun b_2 hb_2 => ?_)
    refine G_cVv hX 2 0 (fun ad adK => [.ref (ad b_2)]) [] (fun z2 h2 => cX0_takeBack_ok (cx_l X) N b_2 μ z2 h2) ok_X0_takeBack lm_X10_222 atC2.1 atC2.2 rfl rfl (fun _ _ => rfl) (Nat.le_of_ble_eq_true rfl) ⟨rfl, rfl, by decide, by decide⟩ (cs0 hcs) dX10_undo_20 (fun μ => ?_)
    refine G_aload_n hX 0 rfl rfl dX10_undo_23 ?_
    refine gf_X10_31_C0 hX dX10_undo_24 ?_
    refine gf_X10_88_C2 hX dX10_undo_27 ?_
    refine G_nmi (fun x3 => ?_)
    exact G_iret hX hQ dX10_undo_30
  · refine G_iconst hX (-1 : Int32) rfl dX10_undo_10 ?_
    exact G_iret hX hQ dX10_undo_11
theorem cX10_undo_ok (l : Launch) (N : Nat) (μ : Mem) (z : Int32 × Mem) (h : fX10_undo N μ = some z) : Mi wC l yX10_undo cX10_undo 1 .int (rmo 6 146) (fun ad adK => [.ref (ad 0)]) μ z := Mi.of h (by decide +kernel) (fun _ _ => Nat.le_of_ble_eq_true rfl) (fun X hX hQ hl hcs => gX10_undo_E hX hQ hcs N μ)
/-! ===== DutyCase.base(I)I ===== -/
set_option maxHeartbeats 4000000 in
set_option maxRecDepth 100000 in
theorem gX10_base_E {X : Ctx} {z : (Int32 ⊕ Nat) × Mem} (hX : Fx wC X cX10_base 2 RX10 (some .int) (rmx 7 113 1 6)) (hQ : Qy (Qe_i wC z) wC X z 1 6) (hcs : cx_cells X = 0 ∧ cx_slots X = 0) (N : Nat) (p0 : Int32) (μ : Mem) : G wC X z 0 [(0, .ref (cx_ad X 0)), (1, .int p0)] [] μ (fX10_base N p0 μ) := by
  unfold fX10_base
  refine G_aload_n hX 0 rfl rfl dX10_base_0 ?_
  refine G_iload_n hX 1 rfl rfl dX10_base_1 ?_
  refine G_xV hX hQ (fun _ _ => rfl) hcs 0 10 (fun ad adK => [.int p0]) (fun ad adK => []) (fun ad adK => [(0, .ref (ad 0)), (1, .int p0)]) (fun z2 h2 => cX10_needFirm_ok (cx_l X) hQ.2.1 N p0 μ z2 h2) ok_X10_needFirm lm_X10_98 atC0.1 atC0.2 rfl rfl rfl (fun _ _ => rfl) (fun _ _ => Nat.le_of_ble_eq_true rfl) ⟨rfl, rfl, by decide, by decide⟩ ⟨by decide, by decide⟩ ⟨by decide, by decide⟩ dX10_base_2 (fun X μ hX hQ hcs => ?_)
  refine G_aload_n hX 0 rfl rfl dX10_base_5 ?_
  refine gf_X10_38_C0 hX dX10_base_6 ?_
  refine G_aload_n hX 0 rfl rfl dX10_base_9 ?_
  refine gf_X10_10_C0 hX dX10_base_10 (fun b_1 hb_1 => ?_)
  refine G_iload_n hX 1 rfl rfl dX10_base_13 ?_
  refine G_cVv hX 3 8 (fun ad adK => [.ref (ad b_1), .int p0]) [] (fun z2 h2 => cX8_look_ok (cx_l X) N b_1 p0 μ z2 h2) ok_X8_look lm_X10_165 atC3.1 atC3.2 rfl rfl (fun _ _ => rfl) (Nat.le_of_ble_eq_true rfl) ⟨rfl, rfl, by decide, by decide⟩ (csk hcs (by decide) (by decide)) dX10_base_14 (fun μ => ?_)
  refine G_aload_n hX 0 rfl rfl dX10_base_17 ?_
  refine gf_X10_38_C0 hX dX10_base_18 ?_
  refine gf_X10_225_C3 hX dX10_base_21 ?_
  refine G_nmi (fun x2 => ?_)
  exact G_iretX hX hQ hcs ⟨by decide, by decide⟩ dX10_base_24
theorem cX10_base_ok (l : Launch) (hl0 : l.stackTraces = false) (N : Nat) (p0 : Int32) (μ : Mem) (z : (Int32 ⊕ Nat) × Mem) (h : fX10_base N p0 μ = some z) : Ei wC l yX10_base cX10_base 2 .int (rmx 7 113 1 6) 1 6 (fun ad adK => [.ref (ad 0), .int p0]) μ z := Ei.of hl0 h (by decide +kernel) (fun _ _ => Nat.le_of_ble_eq_true rfl) (fun X hX hQ hcs => gX10_base_E hX hQ hcs N p0 μ)
/-! ===== DutyCase.below(III)I ===== -/
set_option maxHeartbeats 4000000 in
set_option maxRecDepth 100000 in
theorem gX10_below_E {X : Ctx} {z : (Int32 ⊕ Nat) × Mem} (hX : Fx wC X cX10_below 4 RX10 (some .int) (rmx 7 113 3 18)) (hQ : Qy (Qe_i wC z) wC X z 3 18) (hcs : cx_cells X = 0 ∧ cx_slots X = 0) (N : Nat) (p0 : Int32) (p1 : Int32) (p2 : Int32) (μ : Mem) : G wC X z 0 [(0, .ref (cx_ad X 0)), (1, .int p0), (2, .int p1), (3, .int p2)] [] μ (fX10_below N p0 p1 p2 μ) := by
  unfold fX10_below
  refine G_aload_n hX 0 rfl rfl dX10_below_0 ?_
  refine G_iload_n hX 1 rfl rfl dX10_below_1 ?_
  refine G_xV hX hQ (fun _ _ => rfl) hcs 0 10 (fun ad adK => [.int p0]) (fun ad adK => []) (fun ad adK => [(0, .ref (ad 0)), (1, .int p0), (2, .int p1), (3, .int p2)]) (fun z2 h2 => cX10_needFirm_ok (cx_l X) hQ.2.1 N p0 μ z2 h2) ok_X10_needFirm lm_X10_98 atC0.1 atC0.2 rfl rfl rfl (fun _ _ => rfl) (fun _ _ => Nat.le_of_ble_eq_true rfl) ⟨rfl, rfl, by decide, by decide⟩ ⟨by decide, by decide⟩ ⟨by decide, by decide⟩ dX10_below_2 (fun X μ hX hQ hcs => ?_)
  refine G_aload_n hX 0 rfl rfl dX10_below_5 ?_
  refine G_iload_n hX 2 rfl rfl dX10_below_6 ?_
  refine G_xV hX hQ (fun _ _ => rfl) hcs 0 10 (fun ad adK => [.int p1]) (fun ad adK => []) (fun ad adK => [(0, .ref (ad 0)), (1, .int p0), (2, .int p1), (3, .int p2)]) (fun z2 h2 => cX10_needModel_ok (cx_l X) hQ.2.1 N p1 μ z2 h2) ok_X10_needModel lm_X10_111 atC0.1 atC0.2 rfl rfl rfl (fun _ _ => rfl) (fun _ _ => Nat.le_of_ble_eq_true rfl) ⟨rfl, rfl, by decide, by decide⟩ ⟨by decide, by decide⟩ ⟨by decide, by decide⟩ dX10_below_7 (fun X μ hX hQ hcs => ?_)
  refine G_aload_n hX 0 rfl rfl dX10_below_10 ?_
  refine gf_X10_38_C0 hX dX10_below_11 ?_
  refine G_aload_n hX 0 rfl rfl dX10_below_14 ?_
  refine gf_X10_10_C0 hX dX10_below_15 (fun b_1 hb_1 => ?_)
  refine G_iload_n hX 1 rfl rfl dX10_below_18 ?_
  refine G_cVv hX 3 8 (fun ad adK => [.ref (ad b_1), .int p0]) [] (fun z2 h2 => cX8_look_ok (cx_l X) N b_1 p0 μ z2 h2) ok_X8_look lm_X10_165 atC3.1 atC3.2 rfl rfl (fun _ _ => rfl) (Nat.le_of_ble_eq_true rfl) ⟨rfl, rfl, by decide, by decide⟩ (csk hcs (by decide) (by decide)) dX10_below_19 (fun μ => ?_)
  refine G_iload_n hX 3 rfl rfl dX10_below_22 ?_
  refine G_sw (fun hc0 => ?_) (fun hc0 => ?_)
  · refine G_swIn hX 48 0 (0) (by rw [hc0]; rfl) (by decide) (by decide) rfl rfl (by decide) dX10_below_23 ?_
    refine G_aload_n hX 0 rfl rfl dX10_below_48 ?_
    refine gf_X10_38_C0 hX dX10_below_49 ?_
    refine gf_X10_228_C3 hX dX10_below_52 ?_
    refine G_iload_n hX 2 rfl rfl dX10_below_55 ?_
    refine G_aI hX atC11 dX10_below_56 (fun x2 => ?_)
    exact G_iretX hX hQ hcs ⟨by decide, by decide⟩ dX10_below_57
  refine G_sw (fun hc1 => ?_) (fun hc1 => ?_)
  · refine G_swIn hX 58 1 (1) (by rw [hc1]; rfl) (by decide) (by decide) rfl rfl (by decide) dX10_below_23 ?_
    refine G_aload_n hX 0 rfl rfl dX10_below_58 ?_
    refine gf_X10_38_C0 hX dX10_below_59 ?_
    refine gf_X10_231_C3 hX dX10_below_62 ?_
    refine G_iload_n hX 2 rfl rfl dX10_below_65 ?_
    refine G_aI hX atC12 dX10_below_66 (fun x3 => ?_)
    exact G_iretX hX hQ hcs ⟨by decide, by decide⟩ dX10_below_67
  refine G_sw (fun hc2 => ?_) (fun hc2 => ?_)
  · refine G_swIn hX 68 2 (2) (by rw [hc2]; rfl) (by decide) (by decide) rfl rfl (by decide) dX10_below_23 ?_
    refine G_aload_n hX 0 rfl rfl dX10_below_68 ?_
    refine gf_X10_38_C0 hX dX10_below_69 ?_
    refine G_iload_n hX 2 rfl rfl dX10_below_72 ?_
    refine G_cVi hX 3 8 (fun ad adK => [.int p1]) [] (fun z2 h2 => cX8_leavesOut_ok (cx_l X) N p1 μ z2 h2) ok_X8_leavesOut lm_X10_234 atC3.1 atC3.2 rfl rfl (fun _ _ => rfl) (Nat.le_of_ble_eq_true rfl) ⟨rfl, rfl, by decide, by decide⟩ (csk hcs (by decide) (by decide)) dX10_below_73 (fun r4 μ => ?_)
    refine G_if_eq hX 83 (by decide) dX10_below_76 ?_ ?_
    · refine G_iconst hX (0 : Int32) rfl dX10_below_83 ?_
      exact G_iretX hX hQ hcs ⟨by decide, by decide⟩ dX10_below_84
    · refine G_iconst hX (1 : Int32) rfl dX10_below_79 ?_
      refine G_goto hX 84 (by decide) dX10_below_80 ?_
      exact G_iretX hX hQ hcs ⟨by decide, by decide⟩ dX10_below_84
  refine G_swOut hX 85 (by decide) dX10_below_23 (by have e0 := lv_neT (a := (0 : Int)) hc0 rfl; have e1 := lv_neT (a := (1 : Int)) hc1 rfl; have e2 := lv_neT (a := (2 : Int)) hc2 rfl; omega) ?_
  exact G_throwX xd_0 xd_1 xd_2 xd_5 xfits rfl (tx := "there is no such number of what is below cost") (si := 20) hX hQ hcs 3 (by decide) xf_3 xl_3 xi_3 xg_3 xb_3 xo_3 (by decide +kernel) ⟨by decide, Nat.le_of_ble_eq_true rfl, by decide, by decide⟩ ⟨by decide, by decide⟩ dX10_below_85 dX10_below_88 dX10_below_89 dX10_below_91 dX10_below_94
theorem cX10_below_ok (l : Launch) (hl0 : l.stackTraces = false) (N : Nat) (p0 : Int32) (p1 : Int32) (p2 : Int32) (μ : Mem) (z : (Int32 ⊕ Nat) × Mem) (h : fX10_below N p0 p1 p2 μ = some z) : Ei wC l yX10_below cX10_below 4 .int (rmx 7 113 3 18) 3 18 (fun ad adK => [.ref (ad 0), .int p0, .int p1, .int p2]) μ z := Ei.of hl0 h (by decide +kernel) (fun _ _ => Nat.le_of_ble_eq_true rfl) (fun X hX hQ hcs => gX10_below_E hX hQ hcs N p0 p1 p2 μ)
/-! ===== DutyCase.worth(IIII)J ===== -/
set_option maxHeartbeats 4000000 in
set_option maxRecDepth 100000 in
theorem gX10_worth_E {X : Ctx} {z : (Int64 ⊕ Nat) × Mem} (hX : Fx wC X cX10_worth 5 RX10 (some .long) (rmx 7 114 4 24)) (hQ : Qy (Qe_l wC z) wC X z 4 24) (hcs : cx_cells X = 0 ∧ cx_slots X = 0) (N : Nat) (p0 : Int32) (p1 : Int32) (p2 : Int32) (p3 : Int32) (μ : Mem) : G wC X z 0 [(0, .ref (cx_ad X 0)), (1, .int p0), (2, .int p1), (3, .int p2), (4, .int p3)] [] μ (fX10_worth N p0 p1 p2 p3 μ) := by
  unfold fX10_worth
  refine G_aload_n hX 0 rfl rfl dX10_worth_0 ?_
  refine G_iload_n hX 1 rfl rfl dX10_worth_1 ?_
  refine G_xV hX hQ (fun _ _ => rfl) hcs 0 10 (fun ad adK => [.int p0]) (fun ad adK => []) (fun ad adK => [(0, .ref (ad 0)), (1, .int p0), (2, .int p1), (3, .int p2), (4, .int p3)]) (fun z2 h2 => cX10_needFirm_ok (cx_l X) hQ.2.1 N p0 μ z2 h2) ok_X10_needFirm lm_X10_98 atC0.1 atC0.2 rfl rfl rfl (fun _ _ => rfl) (fun _ _ => Nat.le_of_ble_eq_true rfl) ⟨rfl, rfl, by decide, by decide⟩ ⟨by decide, by decide⟩ ⟨by decide, by decide⟩ dX10_worth_2 (fun X μ hX hQ hcs => ?_)
  refine G_aload_n hX 0 rfl rfl dX10_worth_5 ?_
  refine G_iload_n hX 2 rfl rfl dX10_worth_6 ?_
  refine G_xV hX hQ (fun _ _ => rfl) hcs 0 10 (fun ad adK => [.int p1]) (fun ad adK => []) (fun ad adK => [(0, .ref (ad 0)), (1, .int p0), (2, .int p1), (3, .int p2), (4, .int p3)]) (fun z2 h2 => cX10_needModel_ok (cx_l X) hQ.2.1 N p1 μ z2 h2) ok_X10_needModel lm_X10_111 atC0.1 atC0.2 rfl rfl rfl (fun _ _ => rfl) (fun _ _ => Nat.le_of_ble_eq_true rfl) ⟨rfl, rfl, by decide, by decide⟩ ⟨by decide, by decide⟩ ⟨by decide, by decide⟩ dX10_worth_7 (fun X μ hX hQ hcs => ?_)
  refine G_iload_n hX 3 rfl rfl dX10_worth_10 ?_
  refine G_iconst hX (0 : Int32) rfl dX10_worth_11 ?_
  refine G_iconst hX (3 : Int32) rfl dX10_worth_12 ?_
  refine G_xS hX hQ (fun _ _ => rfl) hcs (fun ad adK => [.int p2, .int (0 : Int32), .int (3 : Int32)]) (fun ad adK => []) (fun ad adK => [(0, .ref (ad 0)), (1, .int p0), (2, .int p1), (3, .int p2), (4, .int p3)]) (fun z2 h2 => cX10_needWithin_ok (cx_l X) hQ.2.1 N p2 (0 : Int32) (3 : Int32) μ z2 h2) ok_X10_needWithin lm_X10_178 rfl rfl (fun _ _ => rfl) (fun _ _ => Nat.le_of_ble_eq_true rfl) ⟨rfl, rfl, by decide, by decide⟩ ⟨by decide, by decide⟩ ⟨by decide, by decide⟩ dX10_worth_13 (fun X μ hX hQ hcs => ?_)
  refine G_iload hX 4 rfl dX10_worth_16 ?_
  refine G_iconst hX (-1 : Int32) rfl dX10_worth_18 ?_
  refine G_bipush hX (11 : Int32) rfl dX10_worth_19 ?_
  refine G_xS hX hQ (fun _ _ => rfl) hcs (fun ad adK => [.int p3, .int (-1 : Int32), .int (11 : Int32)]) (fun ad adK => []) (fun ad adK => [(0, .ref (ad 0)), (1, .int p0), (2, .int p1), (3, .int p2), (4, .int p3)]) (fun z2 h2 => cX10_needWithin_ok (cx_l X) hQ.2.1 N p3 (-1 : Int32) (11 : Int32) μ z2 h2) ok_X10_needWithin lm_X10_178 rfl rfl (fun _ _ => rfl) (fun _ _ => Nat.le_of_ble_eq_true rfl) ⟨rfl, rfl, by decide, by decide⟩ ⟨by decide, by decide⟩ ⟨by decide, by decide⟩ dX10_worth_21 (fun X μ hX hQ hcs => ?_)
  refine G_aload_n hX 0 rfl rfl dX10_worth_24 ?_
  refine gf_X10_38_C0 hX dX10_worth_25 ?_
  refine G_aload_n hX 0 rfl rfl dX10_worth_28 ?_
  refine gf_X10_10_C0 hX dX10_worth_29 (fun b_1 hb_1 => ?_)
  refine G_iload_n hX 1 rfl rfl dX10_worth_32 ?_
  refine G_cVv hX 3 8 (fun ad adK => [.ref (ad b_1), .int p0]) [] (fun z2 h2 => cX8_look_ok (cx_l X) N b_1 p0 μ z2 h2) ok_X8_look lm_X10_165 atC3.1 atC3.2 rfl rfl (fun _ _ => rfl) (Nat.le_of_ble_eq_true rfl) ⟨rfl, rfl, by decide, by decide⟩ (csk hcs (by decide) (by decide)) dX10_worth_33 (fun μ => ?_)
  refine G_aload_n hX 0 rfl rfl dX10_worth_36 ?_
  refine gf_X10_38_C0 hX dX10_worth_37 ?_
  refine G_iload_n hX 2 rfl rfl dX10_worth_40 ?_
  refine G_iload_n hX 3 rfl rfl dX10_worth_41 ?_
  refine G_iload hX 4 rfl dX10_worth_42 ?_
  refine G_cVl hX 3 8 (fun ad adK => [.int p1, .int p2, .int p3]) [] (fun z2 h2 => cX8_worthAt_ok (cx_l X) N p1 p2 p3 μ z2 h2) ok_X8_worthAt lm_X10_240 atC3.1 atC3.2 rfl rfl (fun _ _ => rfl) (Nat.le_of_ble_eq_true rfl) ⟨rfl, rfl, by decide, by decide⟩ (csk hcs (by decide) (by decide)) dX10_worth_44 (fun r2 μ => ?_)
  exact G_lretX hX hQ hcs ⟨by decide, by decide⟩ dX10_worth_47
theorem cX10_worth_ok (l : Launch) (hl0 : l.stackTraces = false) (N : Nat) (p0 : Int32) (p1 : Int32) (p2 : Int32) (p3 : Int32) (μ : Mem) (z : (Int64 ⊕ Nat) × Mem) (h : fX10_worth N p0 p1 p2 p3 μ = some z) : El wC l yX10_worth cX10_worth 5 .long (rmx 7 114 4 24) 4 24 (fun ad adK => [.ref (ad 0), .int p0, .int p1, .int p2, .int p3]) μ z := El.of hl0 h (by decide +kernel) (fun _ _ => Nat.le_of_ble_eq_true rfl) (fun X hX hQ hcs => gX10_worth_E hX hQ hcs N p0 p1 p2 p3 μ)
/-! ===== DutyCase.found(IIII)I ===== -/
set_option maxHeartbeats 4000000 in
set_option maxRecDepth 100000 in
theorem gX10_found_E {X : Ctx} {z : (Int32 ⊕ Nat) × Mem} (hX : Fx wC X cX10_found 6 RX10 (some .int) (rmx 7 114 4 24)) (hQ : Qy (Qe_i wC z) wC X z 4 24) (hcs : cx_cells X = 0 ∧ cx_slots X = 0) (N : Nat) (p0 : Int32) (p1 : Int32) (p2 : Int32) (p3 : Int32) (μ : Mem) : G wC X z 0 [(0, .ref (cx_ad X 0)), (1, .int p0), (2, .int p1), (3, .int p2), (4, .int p3)] [] μ (fX10_found N p0 p1 p2 p3 μ) := by
  unfold fX10_found
  refine G_aload_n hX 0 rfl rfl dX10_found_0 ?_
  refine G_iload_n hX 1 rfl rfl dX10_found_1 ?_
  refine G_xV hX hQ (fun _ _ => rfl) hcs 0 10 (fun ad adK => [.int p0]) (fun ad adK => []) (fun ad adK => [(0, .ref (ad 0)), (1, .int p0), (2, .int p1), (3, .int p2), (4, .int p3)]) (fun z2 h2 => cX10_needFirm_ok (cx_l X) hQ.2.1 N p0 μ z2 h2) ok_X10_needFirm lm_X10_98 atC0.1 atC0.2 rfl rfl rfl (fun _ _ => rfl) (fun _ _ => Nat.le_of_ble_eq_true rfl) ⟨rfl, rfl, by decide, by decide⟩ ⟨by decide, by decide⟩ ⟨by decide, by decide⟩ dX10_found_2 (fun X μ hX hQ hcs => ?_)
  refine G_aload_n hX 0 rfl rfl dX10_found_5 ?_
  refine G_iload_n hX 2 rfl rfl dX10_found_6 ?_
  refine G_xV hX hQ (fun _ _ => rfl) hcs 0 10 (fun ad adK => [.int p1]) (fun ad adK => []) (fun ad adK => [(0, .ref (ad 0)), (1, .int p0), (2, .int p1), (3, .int p2), (4, .int p3)]) (fun z2 h2 => cX10_needModel_ok (cx_l X) hQ.2.1 N p1 μ z2 h2) ok_X10_needModel lm_X10_111 atC0.1 atC0.2 rfl rfl rfl (fun _ _ => rfl) (fun _ _ => Nat.le_of_ble_eq_true rfl) ⟨rfl, rfl, by decide, by decide⟩ ⟨by decide, by decide⟩ ⟨by decide, by decide⟩ dX10_found_7 (fun X μ hX hQ hcs => ?_)
  refine G_iload_n hX 3 rfl rfl dX10_found_10 ?_
  refine G_iconst hX (0 : Int32) rfl dX10_found_11 ?_
  refine G_iconst hX (3 : Int32) rfl dX10_found_12 ?_
  refine G_xS hX hQ (fun _ _ => rfl) hcs (fun ad adK => [.int p2, .int (0 : Int32), .int (3 : Int32)]) (fun ad adK => []) (fun ad adK => [(0, .ref (ad 0)), (1, .int p0), (2, .int p1), (3, .int p2), (4, .int p3)]) (fun z2 h2 => cX10_needWithin_ok (cx_l X) hQ.2.1 N p2 (0 : Int32) (3 : Int32) μ z2 h2) ok_X10_needWithin lm_X10_178 rfl rfl (fun _ _ => rfl) (fun _ _ => Nat.le_of_ble_eq_true rfl) ⟨rfl, rfl, by decide, by decide⟩ ⟨by decide, by decide⟩ ⟨by decide, by decide⟩ dX10_found_13 (fun X μ hX hQ hcs => ?_)
  refine G_aload_n hX 0 rfl rfl dX10_found_16 ?_
  refine gf_X10_38_C0 hX dX10_found_17 ?_
  refine G_aload_n hX 0 rfl rfl dX10_found_20 ?_
  refine gf_X10_10_C0 hX dX10_found_21 (fun b_1 hb_1 => ?_)
  refine G_iload_n hX 1 rfl rfl dX10_found_24 ?_
  refine G_cVv hX 3 8 (fun ad adK => [.ref (ad b_1), .int p0]) [] (fun z2 h2 => cX8_look_ok (cx_l X) N b_1 p0 μ z2 h2) ok_X8_look lm_X10_165 atC3.1 atC3.2 rfl rfl (fun _ _ => rfl) (Nat.le_of_ble_eq_true rfl) ⟨rfl, rfl, by decide, by decide⟩ (csk hcs (by decide) (by decide)) dX10_found_25 (fun μ => ?_)
  refine G_aload_n hX 0 rfl rfl dX10_found_28 ?_
  refine gf_X10_38_C0 hX dX10_found_29 ?_
  refine G_iload_n hX 2 rfl rfl dX10_found_32 ?_
  refine G_cVi hX 3 8 (fun ad adK => [.int p1]) [] (fun z2 h2 => cX8_modelFor_ok (cx_l X) N p1 μ z2 h2) ok_X8_modelFor lm_X10_244 atC3.1 atC3.2 rfl rfl (fun _ _ => rfl) (Nat.le_of_ble_eq_true rfl) ⟨rfl, rfl, by decide, by decide⟩ (csk hcs (by decide) (by decide)) dX10_found_33 (fun r2 μ => ?_)
  refine G_istore hX [(5, .int r2), (0, .ref (cx_ad X 0)), (1, .int p0), (2, .int p1), (3, .int p2), (4, .int p3)] (by decide) rfl dX10_found_36 ?_
  refine G_iload hX 5 rfl dX10_found_38 ?_
  refine G_sw (fun hc0 => ?_) (fun hc0 => ?_)
  · refine G_swIn hX 68 0 (0) (by rw [hc0]; rfl) (by decide) (by decide) rfl rfl (by decide) dX10_found_40 ?_
    refine G_iload hX 0 rfl dX10_found_68 ?_
    refine G_iload_n hX 3 rfl rfl dX10_found_70 ?_
    refine G_icmp_ne hX 78 (by decide) dX10_found_71 ?_ ?_
    · refine G_iload hX 0 rfl dX10_found_78 ?_
      refine G_iconst hX (-1 : Int32) rfl dX10_found_80 ?_
      refine G_icmp_ne hX 88 (by decide) dX10_found_81 ?_ ?_
      · refine G_iconst hX (2 : Int32) rfl dX10_found_88 ?_
        exact G_iretX hX hQ hcs ⟨by decide, by decide⟩ dX10_found_89
      · refine G_iconst hX (3 : Int32) rfl dX10_found_84 ?_
        refine G_goto hX 89 (by decide) dX10_found_85 ?_
        exact G_iretX hX hQ hcs ⟨by decide, by decide⟩ dX10_found_89
    · refine G_iconst hX (1 : Int32) rfl dX10_found_74 ?_
      refine G_goto hX 89 (by decide) dX10_found_75 ?_
      exact G_iretX hX hQ hcs ⟨by decide, by decide⟩ dX10_found_89
  refine G_sw (fun hc1 => ?_) (fun hc1 => ?_)
  · refine G_swIn hX 90 1 (1) (by rw [hc1]; rfl) (by decide) (by decide) rfl rfl (by decide) dX10_found_40 ?_
    refine G_iload hX 0 rfl dX10_found_90 ?_
    exact G_iretX hX hQ hcs ⟨by decide, by decide⟩ dX10_found_92
  refine G_sw (fun hc2 => ?_) (fun hc2 => ?_)
  · refine G_swIn hX 93 2 (2) (by rw [hc2]; rfl) (by decide) (by decide) rfl rfl (by decide) dX10_found_40 ?_
    refine G_aload_n hX 1 rfl rfl dX10_found_93 ?_
    refine gf_X10_38_C0 hX dX10_found_94 ?_
    refine G_iload hX 0 rfl dX10_found_97 ?_
    refine G_iload_n hX 4 rfl rfl dX10_found_99 ?_
    refine G_cVi hX 3 8 (fun ad adK => [.int r2, .int p2]) [] (fun z2 h2 => cX8_levelFor_ok (cx_l X) N r2 p2 μ z2 h2) ok_X8_levelFor lm_X10_247 atC3.1 atC3.2 rfl rfl (fun _ _ => rfl) (Nat.le_of_ble_eq_true rfl) ⟨rfl, rfl, by decide, by decide⟩ (csk hcs (by decide) (by decide)) dX10_found_100 (fun r3 μ => ?_)
    exact G_iretX hX hQ hcs ⟨by decide, by decide⟩ dX10_found_103
  refine G_swOut hX 104 (by decide) dX10_found_40 (by have e0 := lv_neT (a := (0 : Int)) hc0 rfl; have e1 := lv_neT (a := (1 : Int)) hc1 rfl; have e2 := lv_neT (a := (2 : Int)) hc2 rfl; omega) ?_
  exact G_throwX xd_0 xd_1 xd_2 xd_5 xfits rfl (tx := "there is no such number of how a worth is found") (si := 21) hX hQ hcs 3 (by decide) xf_3 xl_3 xi_3 xg_3 xb_3 xo_3 (by decide +kernel) ⟨by decide, Nat.le_of_ble_eq_true rfl, by decide, by decide⟩ ⟨by decide, by decide⟩ dX10_found_104 dX10_found_107 dX10_found_108 dX10_found_110 dX10_found_113
theorem cX10_found_ok (l : Launch) (hl0 : l.stackTraces = false) (N : Nat) (p0 : Int32) (p1 : Int32) (p2 : Int32) (p3 : Int32) (μ : Mem) (z : (Int32 ⊕ Nat) × Mem) (h : fX10_found N p0 p1 p2 p3 μ = some z) : Ei wC l yX10_found cX10_found 6 .int (rmx 7 114 4 24) 4 24 (fun ad adK => [.ref (ad 0), .int p0, .int p1, .int p2, .int p3]) μ z := Ei.of hl0 h (by decide +kernel) (fun _ _ => Nat.le_of_ble_eq_true rfl) (fun X hX hQ hcs => gX10_found_E hX hQ hcs N p0 p1 p2 p3 μ)
/-! ===== DutyCase.needExport(I)V ===== -/
set_option maxHeartbeats 4000000 in
set_option maxRecDepth 100000 in
theorem gX10_needExport_E {X : Ctx} {z : (Unit ⊕ Nat) × Mem} (hX : Fx wC X cX10_needExport 2 RX10 none (rmx 7 113 2 12)) (hQ : Qy (Qe_v wC z) wC X z 2 12) (hcs : cx_cells X = 0 ∧ cx_slots X = 0) (N : Nat) (p0 : Int32) (μ : Mem) : G wC X z 0 [(0, .ref (cx_ad X 0)), (1, .int p0)] [] μ (fX10_needExport N p0 μ) := by
  unfold fX10_needExport
  refine G_aload_n hX 0 rfl rfl dX10_needExport_0 ?_
  refine G_iload_n hX 1 rfl rfl dX10_needExport_1 ?_
  refine G_xV hX hQ (fun _ _ => rfl) hcs 0 10 (fun ad adK => [.int p0]) (fun ad adK => []) (fun ad adK => [(0, .ref (ad 0)), (1, .int p0)]) (fun z2 h2 => cX10_needSale_ok (cx_l X) hQ.2.1 N p0 μ z2 h2) ok_X10_needSale lm_X10_135 atC0.1 atC0.2 rfl rfl rfl (fun _ _ => rfl) (fun _ _ => Nat.le_of_ble_eq_true rfl) ⟨rfl, rfl, by decide, by decide⟩ ⟨by decide, by decide⟩ ⟨by decide, by decide⟩ dX10_needExport_2 (fun X μ hX hQ hcs => ?_)
  refine G_aload_n hX 0 rfl rfl dX10_needExport_5 ?_
  refine gf_X10_10_C0 hX dX10_needExport_6 (fun b_1 hb_1 => ?_)
  refine gf_X10_91_B0 hX hb_1 dX10_needExport_9 ?_
  refine gf_X10_138_B12 hX hb_1 dX10_needExport_12 ?_
  refine G_iload_n hX 1 rfl rfl dX10_needExport_15 ?_
  refine G_aI hX (atB_13 hb_1) dX10_needExport_16 (fun x2 => ?_)
  refine G_iconst hX (1 : Int32) rfl dX10_needExport_17 ?_
  refine G_icmp_eq hX 32 (by decide) dX10_needExport_18 ?_ ?_
  · exact G_vretX hX hQ hcs ⟨by decide, by decide⟩ dX10_needExport_32
  · exact G_throwW (tx := "the sale is no export") (si := 22) hX hQ hcs 1 (by decide) xf_1 xl_1 xi_1 xg_1 xb_1 xo_1 (by decide +kernel) ⟨by decide, Nat.le_of_ble_eq_true rfl, by decide, by decide⟩ ⟨by decide, by decide⟩ dX10_needExport_21 dX10_needExport_24 dX10_needExport_25 dX10_needExport_28 dX10_needExport_31
theorem cX10_needExport_ok (l : Launch) (hl0 : l.stackTraces = false) (N : Nat) (p0 : Int32) (μ : Mem) (z : (Unit ⊕ Nat) × Mem) (h : fX10_needExport N p0 μ = some z) : Ev wC l yX10_needExport cX10_needExport 2 (rmx 7 113 2 12) 2 12 (fun ad adK => [.ref (ad 0), .int p0]) μ z := Ev.of hl0 h (by decide +kernel) (fun _ _ => Nat.le_of_ble_eq_true rfl) (fun X hX hQ hcs => gX10_needExport_E hX hQ hcs N p0 μ)
/-! ===== DutyCase.match(I)I ===== -/
set_option maxHeartbeats 4000000 in
set_option maxRecDepth 100000 in
theorem gX10_match_E {X : Ctx} {z : (Int32 ⊕ Nat) × Mem} (hX : Fx wC X cX10_match 2 RX10 (some .int) (rmx 8 134 2 12)) (hQ : Qy (Qe_i wC z) wC X z 2 12) (hcs : cx_cells X = 0 ∧ cx_slots X = 0) (N : Nat) (p0 : Int32) (μ : Mem) : G wC X z 0 [(0, .ref (cx_ad X 0)), (1, .int p0)] [] μ (fX10_match N p0 μ) := by
  unfold fX10_match
  refine G_aload_n hX 0 rfl rfl dX10_match_0 ?_
  refine G_iload_n hX 1 rfl rfl dX10_match_1 ?_
  refine G_xV hX hQ (fun _ _ => rfl) hcs 0 10 (fun ad adK => [.int p0]) (fun ad adK => []) (fun ad adK => [(0, .ref (ad 0)), (1, .int p0)]) (fun z2 h2 => cX10_needExport_ok (cx_l X) hQ.2.1 N p0 μ z2 h2) ok_X10_needExport lm_X10_252 atC0.1 atC0.2 rfl rfl rfl (fun _ _ => rfl) (fun _ _ => Nat.le_of_ble_eq_true rfl) ⟨rfl, rfl, by decide, by decide⟩ ⟨by decide, by decide⟩ ⟨by decide, by decide⟩ dX10_match_2 (fun X μ hX hQ hcs => ?_)
  refine G_aload_n hX 0 rfl rfl dX10_match_5 ?_
  refine gf_X10_38_C0 hX dX10_match_6 ?_
  refine G_aload_n hX 0 rfl rfl dX10_match_9 ?_
  refine gf_X10_10_C0 hX dX10_match_10 (fun b_1 hb_1 => ?_)
  refine G_aload_n hX 0 rfl rfl dX10_match_13 ?_
  refine gf_X10_10_C0 hX dX10_match_14 (fun b_2 hb_2 => ?_)
  refine gf_X10_91_B0 hX hb_2 dX10_match_17 ?_
  refine gf_X10_141_B12 hX hb_2 dX10_match_20 ?_
  refine G_iload_n hX 1 rfl rfl dX10_match_23 ?_
  refine G_aI hX (atB_14 hb_2) dX10_match_24 (fun x3 => ?_)
  refine G_cVv hX 3 8 (fun ad adK => [.ref (ad b_1), .int x3]) [] (fun z2 h2 => cX8_look_ok (cx_l X) N b_1 x3 μ z2 h2) ok_X8_look lm_X10_165 atC3.1 atC3.2 rfl rfl (fun _ _ => rfl) (Nat.le_of_ble_eq_true rfl) ⟨rfl, rfl, by decide, by decide⟩ (csk hcs (by decide) (by decide)) dX10_match_25 (fun μ => ?_)
  refine G_aload_n hX 0 rfl rfl dX10_match_28 ?_
  refine gf_X10_38_C0 hX dX10_match_29 ?_
  refine G_iload_n hX 1 rfl rfl dX10_match_32 ?_
  refine G_cVi hX 3 8 (fun ad adK => [.int p0]) [] (fun z2 h2 => cX8_matchFor_ok (cx_l X) N p0 μ z2 h2) ok_X8_matchFor lm_X10_255 atC3.1 atC3.2 rfl rfl (fun _ _ => rfl) (Nat.le_of_ble_eq_true rfl) ⟨rfl, rfl, by decide, by decide⟩ (csk hcs (by decide) (by decide)) dX10_match_33 (fun r4 μ => ?_)
  exact G_iretX hX hQ hcs ⟨by decide, by decide⟩ dX10_match_36
theorem cX10_match_ok (l : Launch) (hl0 : l.stackTraces = false) (N : Nat) (p0 : Int32) (μ : Mem) (z : (Int32 ⊕ Nat) × Mem) (h : fX10_match N p0 μ = some z) : Ei wC l yX10_match cX10_match 2 .int (rmx 8 134 2 12) 2 12 (fun ad adK => [.ref (ad 0), .int p0]) μ z := Ei.of hl0 h (by decide +kernel) (fun _ _ => Nat.le_of_ble_eq_true rfl) (fun X hX hQ hcs => gX10_match_E hX hQ hcs N p0 μ)
/-! ===== DutyCase.difference(II)J ===== -/
set_option maxHeartbeats 4000000 in
set_option maxRecDepth 100000 in
theorem gX10_difference_E {X : Ctx} {z : (Int64 ⊕ Nat) × Mem} (hX : Fx wC X cX10_difference 3 RX10 (some .long) (rmx 8 134 3 18)) (hQ : Qy (Qe_l wC z) wC X z 3 18) (hcs : cx_cells X = 0 ∧ cx_slots X = 0) (N : Nat) (p0 : Int32) (p1 : Int32) (μ : Mem) : G wC X z 0 [(0, .ref (cx_ad X 0)), (1, .int p0), (2, .int p1)] [] μ (fX10_difference N p0 p1 μ) := by
  unfold fX10_difference
  refine G_aload_n hX 0 rfl rfl dX10_difference_0 ?_
  refine G_iload_n hX 1 rfl rfl dX10_difference_1 ?_
  refine G_xV hX hQ (fun _ _ => rfl) hcs 0 10 (fun ad adK => [.int p0]) (fun ad adK => []) (fun ad adK => [(0, .ref (ad 0)), (1, .int p0), (2, .int p1)]) (fun z2 h2 => cX10_needExport_ok (cx_l X) hQ.2.1 N p0 μ z2 h2) ok_X10_needExport lm_X10_252 atC0.1 atC0.2 rfl rfl rfl (fun _ _ => rfl) (fun _ _ => Nat.le_of_ble_eq_true rfl) ⟨rfl, rfl, by decide, by decide⟩ ⟨by decide, by decide⟩ ⟨by decide, by decide⟩ dX10_difference_2 (fun X μ hX hQ hcs => ?_)
  refine G_iload_n hX 2 rfl rfl dX10_difference_5 ?_
  refine G_iconst hX (1 : Int32) rfl dX10_difference_6 ?_
  refine G_iconst hX (2 : Int32) rfl dX10_difference_7 ?_
  refine G_xS hX hQ (fun _ _ => rfl) hcs (fun ad adK => [.int p1, .int (1 : Int32), .int (2 : Int32)]) (fun ad adK => []) (fun ad adK => [(0, .ref (ad 0)), (1, .int p0), (2, .int p1)]) (fun z2 h2 => cX10_needWithin_ok (cx_l X) hQ.2.1 N p1 (1 : Int32) (2 : Int32) μ z2 h2) ok_X10_needWithin lm_X10_178 rfl rfl (fun _ _ => rfl) (fun _ _ => Nat.le_of_ble_eq_true rfl) ⟨rfl, rfl, by decide, by decide⟩ ⟨by decide, by decide⟩ ⟨by decide, by decide⟩ dX10_difference_8 (fun X μ hX hQ hcs => ?_)
  refine G_aload_n hX 0 rfl rfl dX10_difference_11 ?_
  refine gf_X10_47_C0 hX dX10_difference_12 ?_
  refine G_aload_n hX 0 rfl rfl dX10_difference_15 ?_
  refine gf_X10_10_C0 hX dX10_difference_16 (fun b_1 hb_1 => ?_)
  refine G_iload_n hX 1 rfl rfl dX10_difference_19 ?_
  refine G_iload_n hX 2 rfl rfl dX10_difference_20 ?_
  refine G_cVl hX 4 2 (fun ad adK => [.ref (ad b_1), .int p0, .int p1]) [] (fun z2 h2 => cX2_differenceFor_ok (cx_l X) N b_1 p0 p1 μ z2 h2) ok_X2_differenceFor lm_X10_258 atC4.1 atC4.2 rfl rfl (fun _ _ => rfl) (Nat.le_of_ble_eq_true rfl) ⟨rfl, rfl, by decide, by decide⟩ (csk hcs (by decide) (by decide)) dX10_difference_21 (fun r2 μ => ?_)
  exact G_lretX hX hQ hcs ⟨by decide, by decide⟩ dX10_difference_24
theorem cX10_difference_ok (l : Launch) (hl0 : l.stackTraces = false) (N : Nat) (p0 : Int32) (p1 : Int32) (μ : Mem) (z : (Int64 ⊕ Nat) × Mem) (h : fX10_difference N p0 p1 μ = some z) : El wC l yX10_difference cX10_difference 3 .long (rmx 8 134 3 18) 3 18 (fun ad adK => [.ref (ad 0), .int p0, .int p1]) μ z := El.of hl0 h (by decide +kernel) (fun _ _ => Nat.le_of_ble_eq_true rfl) (fun X hX hQ hcs => gX10_difference_E hX hQ hcs N p0 p1 μ)
/-! ===== DutyCase.groups(I)I ===== -/
set_option maxHeartbeats 4000000 in
set_option maxRecDepth 100000 in
theorem gX10_groups_E {X : Ctx} {z : (Int32 ⊕ Nat) × Mem} (hX : Fx wC X cX10_groups 2 RX10 (some .int) (rmx 7 127 1 6)) (hQ : Qy (Qe_i wC z) wC X z 1 6) (hcs : cx_cells X = 0 ∧ cx_slots X = 0) (N : Nat) (p0 : Int32) (μ : Mem) : G wC X z 0 [(0, .ref (cx_ad X 0)), (1, .int p0)] [] μ (fX10_groups N p0 μ) := by
  unfold fX10_groups
  refine G_aload_n hX 0 rfl rfl dX10_groups_0 ?_
  refine G_iload_n hX 1 rfl rfl dX10_groups_1 ?_
  refine G_xV hX hQ (fun _ _ => rfl) hcs 0 10 (fun ad adK => [.int p0]) (fun ad adK => []) (fun ad adK => [(0, .ref (ad 0)), (1, .int p0)]) (fun z2 h2 => cX10_needFirm_ok (cx_l X) hQ.2.1 N p0 μ z2 h2) ok_X10_needFirm lm_X10_98 atC0.1 atC0.2 rfl rfl rfl (fun _ _ => rfl) (fun _ _ => Nat.le_of_ble_eq_true rfl) ⟨rfl, rfl, by decide, by decide⟩ ⟨by decide, by decide⟩ ⟨by decide, by decide⟩ dX10_groups_2 (fun X μ hX hQ hcs => ?_)
  refine G_aload_n hX 0 rfl rfl dX10_groups_5 ?_
  refine gf_X10_47_C0 hX dX10_groups_6 ?_
  refine G_aload_n hX 0 rfl rfl dX10_groups_9 ?_
  refine gf_X10_10_C0 hX dX10_groups_10 (fun b_1 hb_1 => ?_)
  refine G_iload_n hX 1 rfl rfl dX10_groups_13 ?_
  refine G_iconst hX (0 : Int32) rfl dX10_groups_14 ?_
  refine G_cVv hX 4 2 (fun ad adK => [.ref (ad b_1), .int p0, .int (0 : Int32)]) [] (fun z2 h2 => cX2_gather_ok (cx_l X) N b_1 p0 (0 : Int32) μ z2 h2) ok_X2_gather lm_X10_262 atC4.1 atC4.2 rfl rfl (fun _ _ => rfl) (Nat.le_of_ble_eq_true rfl) ⟨rfl, rfl, by decide, by decide⟩ (csk hcs (by decide) (by decide)) dX10_groups_15 (fun μ => ?_)
  refine G_aload_n hX 0 rfl rfl dX10_groups_18 ?_
  refine gf_X10_47_C0 hX dX10_groups_19 ?_
  refine gf_X10_266_C4 hX dX10_groups_22 ?_
  refine G_nmi (fun x2 => ?_)
  exact G_iretX hX hQ hcs ⟨by decide, by decide⟩ dX10_groups_25
theorem cX10_groups_ok (l : Launch) (hl0 : l.stackTraces = false) (N : Nat) (p0 : Int32) (μ : Mem) (z : (Int32 ⊕ Nat) × Mem) (h : fX10_groups N p0 μ = some z) : Ei wC l yX10_groups cX10_groups 2 .int (rmx 7 127 1 6) 1 6 (fun ad adK => [.ref (ad 0), .int p0]) μ z := Ei.of hl0 h (by decide +kernel) (fun _ _ => Nat.le_of_ble_eq_true rfl) (fun X hX hQ hcs => gX10_groups_E hX hQ hcs N p0 μ)
/-! ===== DutyCase.group(III)J ===== -/
set_option maxHeartbeats 4000000 in
set_option maxRecDepth 100000 in
theorem gX10_group_E {X : Ctx} {z : (Int64 ⊕ Nat) × Mem} (hX : Fx wC X cX10_group 5 RX10 (some .long) (rmx 7 127 2 12)) (hQ : Qy (Qe_l wC z) wC X z 2 12) (hcs : cx_cells X = 0 ∧ cx_slots X = 0) (N : Nat) (p0 : Int32) (p1 : Int32) (p2 : Int32) (μ : Mem) : G wC X z 0 [(0, .ref (cx_ad X 0)), (1, .int p0), (2, .int p1), (3, .int p2)] [] μ (fX10_group N p0 p1 p2 μ) := by
  unfold fX10_group
  refine G_aload_n hX 0 rfl rfl dX10_group_0 ?_
  refine G_iload_n hX 1 rfl rfl dX10_group_1 ?_
  refine G_xV hX hQ (fun _ _ => rfl) hcs 0 10 (fun ad adK => [.int p0]) (fun ad adK => []) (fun ad adK => [(0, .ref (ad 0)), (1, .int p0), (2, .int p1), (3, .int p2)]) (fun z2 h2 => cX10_needFirm_ok (cx_l X) hQ.2.1 N p0 μ z2 h2) ok_X10_needFirm lm_X10_98 atC0.1 atC0.2 rfl rfl rfl (fun _ _ => rfl) (fun _ _ => Nat.le_of_ble_eq_true rfl) ⟨rfl, rfl, by decide, by decide⟩ ⟨by decide, by decide⟩ ⟨by decide, by decide⟩ dX10_group_2 (fun X μ hX hQ hcs => ?_)
  refine G_aload_n hX 0 rfl rfl dX10_group_5 ?_
  refine gf_X10_47_C0 hX dX10_group_6 ?_
  refine G_aload_n hX 0 rfl rfl dX10_group_9 ?_
  refine gf_X10_10_C0 hX dX10_group_10 (fun b_1 hb_1 => ?_)
  refine G_iload_n hX 1 rfl rfl dX10_group_13 ?_
  refine G_iconst hX (0 : Int32) rfl dX10_group_14 ?_
  refine G_cVv hX 4 2 (fun ad adK => [.ref (ad b_1), .int p0, .int (0 : Int32)]) [] (fun z2 h2 => cX2_gather_ok (cx_l X) N b_1 p0 (0 : Int32) μ z2 h2) ok_X2_gather lm_X10_262 atC4.1 atC4.2 rfl rfl (fun _ _ => rfl) (Nat.le_of_ble_eq_true rfl) ⟨rfl, rfl, by decide, by decide⟩ (csk hcs (by decide) (by decide)) dX10_group_15 (fun μ => ?_)
  refine G_iload_n hX 2 rfl rfl dX10_group_18 ?_
  refine G_if_lt hX 33 (by decide) dX10_group_19 ?_ ?_
  · exact G_throwWX xd_0 xd_1 xd_2 xd_5 xfits rfl (tx := "there is no such group") (si := 23) hX hQ hcs 3 (by decide) xf_3 xl_3 xi_3 xg_3 xb_3 xo_3 (by decide +kernel) ⟨by decide, Nat.le_of_ble_eq_true rfl, by decide, by decide⟩ ⟨by decide, by decide⟩ dX10_group_33 dX10_group_36 dX10_group_37 dX10_group_40 dX10_group_43
  · refine G_iload_n hX 2 rfl rfl dX10_group_22 ?_
    refine G_aload_n hX 0 rfl rfl dX10_group_23 ?_
    refine gf_X10_47_C0 hX dX10_group_24 ?_
    refine gf_X10_266_C4 hX dX10_group_27 ?_
    refine G_nmi (fun x2 => ?_)
    refine G_icmp_lt hX 44 (by decide) dX10_group_30 ?_ ?_
    · refine G_aload_n hX 0 rfl rfl dX10_group_44 ?_
      refine gf_X10_47_C0 hX dX10_group_45 ?_
      refine gf_X10_271_C4 hX dX10_group_48 ?_
      refine G_iload_n hX 2 rfl rfl dX10_group_51 ?_
      refine G_aI hX atC19 dX10_group_52 (fun x3 => ?_)
      refine G_istore hX [(4, .int x3), (0, .ref (cx_ad X 0)), (1, .int p0), (2, .int p1), (3, .int p2)] (by decide) rfl dX10_group_53 ?_
      refine G_iload_n hX 4 rfl rfl dX10_group_55 ?_
      refine G_sw (fun hc0 => ?_) (fun hc0 => ?_)
      · refine G_swIn hX 100 0 (0) (by rw [hc0]; rfl) (by decide) (by decide) rfl rfl (by decide) dX10_group_56 ?_
        refine G_aload_n hX 1 rfl rfl dX10_group_100 ?_
        refine gf_X10_10_C0 hX dX10_group_101 (fun b_4 hb_4 => ?_)
        refine gf_X10_91_B0 hX hb_4 dX10_group_104 ?_
        refine gf_X10_144_B12 hX hb_4 dX10_group_107 ?_
        refine G_iload hX 0 rfl dX10_group_110 ?_
        refine G_aI hX (atB_15 hb_4) dX10_group_112 (fun x5 => ?_)
        refine G_i2l hX dX10_group_113 ?_
        exact G_lretX hX hQ hcs ⟨by decide, by decide⟩ dX10_group_114
      refine G_sw (fun hc1 => ?_) (fun hc1 => ?_)
      · refine G_swIn hX 115 1 (1) (by rw [hc1]; rfl) (by decide) (by decide) rfl rfl (by decide) dX10_group_56 ?_
        refine G_aload_n hX 1 rfl rfl dX10_group_115 ?_
        refine gf_X10_10_C0 hX dX10_group_116 (fun b_6 hb_6 => ?_)
        refine gf_X10_91_B0 hX hb_6 dX10_group_119 ?_
        refine gf_X10_147_B12 hX hb_6 dX10_group_122 ?_
        refine G_iload hX 0 rfl dX10_group_125 ?_
        refine G_aI hX (atB_16 hb_6) dX10_group_127 (fun x7 => ?_)
        refine G_i2l hX dX10_group_128 ?_
        exact G_lretX hX hQ hcs ⟨by decide, by decide⟩ dX10_group_129
      refine G_sw (fun hc2 => ?_) (fun hc2 => ?_)
      · refine G_swIn hX 130 2 (2) (by rw [hc2]; rfl) (by decide) (by decide) rfl rfl (by decide) dX10_group_56 ?_
        refine G_aload_n hX 1 rfl rfl dX10_group_130 ?_
        refine gf_X10_10_C0 hX dX10_group_131 (fun b_8 hb_8 => ?_)
        refine G_iload hX 0 rfl dX10_group_134 ?_
        refine G_cVi hX b_8 1 (fun ad adK => [.int x3]) [] (fun z2 h2 => cX1_monthToCompare_ok (cx_l X) N b_8 x3 μ z2 h2) ok_X1_monthToCompare lm_X10_274 (atB_0 hb_8).1 (atB_0 hb_8).2 rfl rfl (fun _ _ => rfl) (Nat.le_of_ble_eq_true rfl) ⟨rfl, rfl, by decide, by decide⟩ (csk hcs (by decide) (by decide)) dX10_group_136 (fun r9 μ => ?_)
        refine G_i2l hX dX10_group_139 ?_
        exact G_lretX hX hQ hcs ⟨by decide, by decide⟩ dX10_group_140
      refine G_sw (fun hc3 => ?_) (fun hc3 => ?_)
      · refine G_swIn hX 141 3 (3) (by rw [hc3]; rfl) (by decide) (by decide) rfl rfl (by decide) dX10_group_56 ?_
        refine G_aload_n hX 1 rfl rfl dX10_group_141 ?_
        refine gf_X10_47_C0 hX dX10_group_142 ?_
        refine gf_X10_277_C4 hX dX10_group_145 ?_
        refine G_iload_n hX 3 rfl rfl dX10_group_148 ?_
        refine G_aI hX atC20 dX10_group_149 (fun x10 => ?_)
        refine G_i2l hX dX10_group_150 ?_
        exact G_lretX hX hQ hcs ⟨by decide, by decide⟩ dX10_group_151
      refine G_sw (fun hc4 => ?_) (fun hc4 => ?_)
      · refine G_swIn hX 152 4 (4) (by rw [hc4]; rfl) (by decide) (by decide) rfl rfl (by decide) dX10_group_56 ?_
        refine G_aload_n hX 1 rfl rfl dX10_group_152 ?_
        refine gf_X10_47_C0 hX dX10_group_153 ?_
        refine gf_X10_278_C4 hX dX10_group_156 ?_
        refine G_iload_n hX 3 rfl rfl dX10_group_159 ?_
        refine G_aL hX atC21 dX10_group_160 (fun x11 => ?_)
        exact G_lretX hX hQ hcs ⟨by decide, by decide⟩ dX10_group_161
      refine G_sw (fun hc5 => ?_) (fun hc5 => ?_)
      · refine G_swIn hX 162 5 (5) (by rw [hc5]; rfl) (by decide) (by decide) rfl rfl (by decide) dX10_group_56 ?_
        refine G_aload_n hX 1 rfl rfl dX10_group_162 ?_
        refine gf_X10_47_C0 hX dX10_group_163 ?_
        refine gf_X10_282_C4 hX dX10_group_166 ?_
        refine G_iload_n hX 3 rfl rfl dX10_group_169 ?_
        refine G_aL hX atC22 dX10_group_170 (fun x12 => ?_)
        exact G_lretX hX hQ hcs ⟨by decide, by decide⟩ dX10_group_171
      refine G_sw (fun hc6 => ?_) (fun hc6 => ?_)
      · refine G_swIn hX 172 6 (6) (by rw [hc6]; rfl) (by decide) (by decide) rfl rfl (by decide) dX10_group_56 ?_
        refine G_aload_n hX 1 rfl rfl dX10_group_172 ?_
        refine gf_X10_47_C0 hX dX10_group_173 ?_
        refine G_iload_n hX 3 rfl rfl dX10_group_176 ?_
        refine G_iconst hX (0 : Int32) rfl dX10_group_177 ?_
        refine G_cVl hX 4 2 (fun ad adK => [.int p1, .int (0 : Int32)]) [] (fun z2 h2 => cX2_differenceAt_ok (cx_l X) N p1 (0 : Int32) μ z2 h2) ok_X2_differenceAt lm_X10_285 atC4.1 atC4.2 rfl rfl (fun _ _ => rfl) (Nat.le_of_ble_eq_true rfl) ⟨rfl, rfl, by decide, by decide⟩ (csk hcs (by decide) (by decide)) dX10_group_178 (fun r13 μ => ?_)
        exact G_lretX hX hQ hcs ⟨by decide, by decide⟩ dX10_group_181
      refine G_swOut hX 182 (by decide) dX10_group_56 (by have e0 := lv_neT (a := (0 : Int)) hc0 rfl; have e1 := lv_neT (a := (1 : Int)) hc1 rfl; have e2 := lv_neT (a := (2 : Int)) hc2 rfl; have e3 := lv_neT (a := (3 : Int)) hc3 rfl; have e4 := lv_neT (a := (4 : Int)) hc4 rfl; have e5 := lv_neT (a := (5 : Int)) hc5 rfl; have e6 := lv_neT (a := (6 : Int)) hc6 rfl; omega) ?_
      exact G_throwWX xd_0 xd_1 xd_2 xd_5 xfits rfl (tx := "a group has no such number") (si := 24) hX hQ hcs 3 (by decide) xf_3 xl_3 xi_3 xg_3 xb_3 xo_3 (by decide +kernel) ⟨by decide, Nat.le_of_ble_eq_true rfl, by decide, by decide⟩ ⟨by decide, by decide⟩ dX10_group_182 dX10_group_185 dX10_group_186 dX10_group_189 dX10_group_192
    · exact G_throwWX xd_0 xd_1 xd_2 xd_5 xfits rfl (tx := "there is no such group") (si := 23) hX hQ hcs 3 (by decide) xf_3 xl_3 xi_3 xg_3 xb_3 xo_3 (by decide +kernel) ⟨by decide, Nat.le_of_ble_eq_true rfl, by decide, by decide⟩ ⟨by decide, by decide⟩ dX10_group_33 dX10_group_36 dX10_group_37 dX10_group_40 dX10_group_43
theorem cX10_group_ok (l : Launch) (hl0 : l.stackTraces = false) (N : Nat) (p0 : Int32) (p1 : Int32) (p2 : Int32) (μ : Mem) (z : (Int64 ⊕ Nat) × Mem) (h : fX10_group N p0 p1 p2 μ = some z) : El wC l yX10_group cX10_group 5 .long (rmx 7 127 2 12) 2 12 (fun ad adK => [.ref (ad 0), .int p0, .int p1, .int p2]) μ z := El.of hl0 h (by decide +kernel) (fun _ _ => Nat.le_of_ble_eq_true rfl) (fun X hX hQ hcs => gX10_group_E hX hQ hcs N p0 p1 p2 μ)
/-! ===== DutyCase.sum(IIZ)J ===== -/
set_option maxHeartbeats 4000000 in
set_option maxRecDepth 100000 in
theorem gX10_sum_E {X : Ctx} {z : (Int64 ⊕ Nat) × Mem} (hX : Fx wC X cX10_sum 4 RX10 (some .long) (rmx 7 127 2 12)) (hQ : Qy (Qe_l wC z) wC X z 2 12) (hcs : cx_cells X = 0 ∧ cx_slots X = 0) (N : Nat) (p0 : Int32) (p1 : Int32) (p2 : Int32) (μ : Mem) : G wC X z 0 [(0, .ref (cx_ad X 0)), (1, .int p0), (2, .int p1), (3, .int p2)] [] μ (fX10_sum N p0 p1 p2 μ) := by
  unfold fX10_sum
  refine G_aload_n hX 0 rfl rfl dX10_sum_0 ?_
  refine G_iload_n hX 1 rfl rfl dX10_sum_1 ?_
  refine G_xV hX hQ (fun _ _ => rfl) hcs 0 10 (fun ad adK => [.int p0]) (fun ad adK => []) (fun ad adK => [(0, .ref (ad 0)), (1, .int p0), (2, .int p1), (3, .int p2)]) (fun z2 h2 => cX10_needFirm_ok (cx_l X) hQ.2.1 N p0 μ z2 h2) ok_X10_needFirm lm_X10_98 atC0.1 atC0.2 rfl rfl rfl (fun _ _ => rfl) (fun _ _ => Nat.le_of_ble_eq_true rfl) ⟨rfl, rfl, by decide, by decide⟩ ⟨by decide, by decide⟩ ⟨by decide, by decide⟩ dX10_sum_2 (fun X μ hX hQ hcs => ?_)
  refine G_iload_n hX 2 rfl rfl dX10_sum_5 ?_
  refine G_iconst hX (0 : Int32) rfl dX10_sum_6 ?_
  refine G_iconst hX (2 : Int32) rfl dX10_sum_7 ?_
  refine G_xS hX hQ (fun _ _ => rfl) hcs (fun ad adK => [.int p1, .int (0 : Int32), .int (2 : Int32)]) (fun ad adK => []) (fun ad adK => [(0, .ref (ad 0)), (1, .int p0), (2, .int p1), (3, .int p2)]) (fun z2 h2 => cX10_needWithin_ok (cx_l X) hQ.2.1 N p1 (0 : Int32) (2 : Int32) μ z2 h2) ok_X10_needWithin lm_X10_178 rfl rfl (fun _ _ => rfl) (fun _ _ => Nat.le_of_ble_eq_true rfl) ⟨rfl, rfl, by decide, by decide⟩ ⟨by decide, by decide⟩ ⟨by decide, by decide⟩ dX10_sum_8 (fun X μ hX hQ hcs => ?_)
  refine G_aload_n hX 0 rfl rfl dX10_sum_11 ?_
  refine gf_X10_47_C0 hX dX10_sum_12 ?_
  refine G_aload_n hX 0 rfl rfl dX10_sum_15 ?_
  refine gf_X10_10_C0 hX dX10_sum_16 (fun b_1 hb_1 => ?_)
  refine G_iload_n hX 1 rfl rfl dX10_sum_19 ?_
  refine G_iload_n hX 2 rfl rfl dX10_sum_20 ?_
  refine G_cVv hX 4 2 (fun ad adK => [.ref (ad b_1), .int p0, .int p1]) [] (fun z2 h2 => cX2_gather_ok (cx_l X) N b_1 p0 p1 μ z2 h2) ok_X2_gather lm_X10_262 atC4.1 atC4.2 rfl rfl (fun _ _ => rfl) (Nat.le_of_ble_eq_true rfl) ⟨rfl, rfl, by decide, by decide⟩ (csk hcs (by decide) (by decide)) dX10_sum_21 (fun μ => ?_)
  refine G_aload_n hX 0 rfl rfl dX10_sum_24 ?_
  refine gf_X10_47_C0 hX dX10_sum_25 ?_
  refine G_iload_n hX 3 rfl rfl dX10_sum_28 ?_
  refine G_iconst hX (0 : Int32) rfl dX10_sum_29 ?_
  refine G_cVl hX 4 2 (fun ad adK => [.int p2, .int (0 : Int32)]) [] (fun z2 h2 => cX2_sumAt_ok (cx_l X) N p2 (0 : Int32) μ z2 h2) ok_X2_sumAt lm_X10_291 atC4.1 atC4.2 rfl rfl (fun _ _ => rfl) (Nat.le_of_ble_eq_true rfl) ⟨rfl, rfl, by decide, by decide⟩ (csk hcs (by decide) (by decide)) dX10_sum_30 (fun r2 μ => ?_)
  exact G_lretX hX hQ hcs ⟨by decide, by decide⟩ dX10_sum_33
theorem cX10_sum_ok (l : Launch) (hl0 : l.stackTraces = false) (N : Nat) (p0 : Int32) (p1 : Int32) (p2 : Int32) (μ : Mem) (z : (Int64 ⊕ Nat) × Mem) (h : fX10_sum N p0 p1 p2 μ = some z) : El wC l yX10_sum cX10_sum 4 .long (rmx 7 127 2 12) 2 12 (fun ad adK => [.ref (ad 0), .int p0, .int p1, .int p2]) μ z := El.of hl0 h (by decide +kernel) (fun _ _ => Nat.le_of_ble_eq_true rfl) (fun X hX hQ hcs => gX10_sum_E hX hQ hcs N p0 p1 p2 μ)
/-! ===== DutyCase.value(I)J ===== -/
set_option maxHeartbeats 4000000 in
set_option maxRecDepth 100000 in
theorem gX10_value_E {X : Ctx} {z : (Int64 ⊕ Nat) × Mem} (hX : Fx wC X cX10_value 2 RX10 (some .long) (rmx 7 113 1 6)) (hQ : Qy (Qe_l wC z) wC X z 1 6) (hcs : cx_cells X = 0 ∧ cx_slots X = 0) (N : Nat) (p0 : Int32) (μ : Mem) : G wC X z 0 [(0, .ref (cx_ad X 0)), (1, .int p0)] [] μ (fX10_value N p0 μ) := by
  unfold fX10_value
  refine G_aload_n hX 0 rfl rfl dX10_value_0 ?_
  refine G_iload_n hX 1 rfl rfl dX10_value_1 ?_
  refine G_xV hX hQ (fun _ _ => rfl) hcs 0 10 (fun ad adK => [.int p0]) (fun ad adK => []) (fun ad adK => [(0, .ref (ad 0)), (1, .int p0)]) (fun z2 h2 => cX10_needFirm_ok (cx_l X) hQ.2.1 N p0 μ z2 h2) ok_X10_needFirm lm_X10_98 atC0.1 atC0.2 rfl rfl rfl (fun _ _ => rfl) (fun _ _ => Nat.le_of_ble_eq_true rfl) ⟨rfl, rfl, by decide, by decide⟩ ⟨by decide, by decide⟩ ⟨by decide, by decide⟩ dX10_value_2 (fun X μ hX hQ hcs => ?_)
  refine G_aload_n hX 0 rfl rfl dX10_value_5 ?_
  refine gf_X10_10_C0 hX dX10_value_6 (fun b_1 hb_1 => ?_)
  refine gf_X10_91_B0 hX hb_1 dX10_value_9 ?_
  refine G_iload_n hX 1 rfl rfl dX10_value_12 ?_
  refine G_cVl hX (b_1 + 12) 7 (fun ad adK => [.int p0]) [] (fun z2 h2 => cX7_exportValue_ok (cx_l X) N (b_1 + 12) p0 μ z2 h2) ok_X7_exportValue lm_X10_295 (atB_12 hb_1).1 (atB_12 hb_1).2 rfl rfl (fun _ _ => rfl) (Nat.le_of_ble_eq_true rfl) ⟨rfl, rfl, by decide, by decide⟩ (csk hcs (by decide) (by decide)) dX10_value_13 (fun r2 μ => ?_)
  exact G_lretX hX hQ hcs ⟨by decide, by decide⟩ dX10_value_16
theorem cX10_value_ok (l : Launch) (hl0 : l.stackTraces = false) (N : Nat) (p0 : Int32) (μ : Mem) (z : (Int64 ⊕ Nat) × Mem) (h : fX10_value N p0 μ = some z) : El wC l yX10_value cX10_value 2 .long (rmx 7 113 1 6) 1 6 (fun ad adK => [.ref (ad 0), .int p0]) μ z := El.of hl0 h (by decide +kernel) (fun _ _ => Nat.le_of_ble_eq_true rfl) (fun X hX hQ hcs => gX10_value_E hX hQ hcs N p0 μ)
/-! ===== DutyCase.margin(IIZ)I ===== -/
set_option maxHeartbeats 4000000 in
set_option maxRecDepth 100000 in
theorem gX10_margin_E {X : Ctx} {z : (Int32 ⊕ Nat) × Mem} (hX : Fx wC X cX10_margin 4 RX10 (some .int) (rmx 7 177 2 12)) (hQ : Qy (Qe_i wC z) wC X z 2 12) (hcs : cx_cells X = 0 ∧ cx_slots X = 0) (N : Nat) (p0 : Int32) (p1 : Int32) (p2 : Int32) (μ : Mem) : G wC X z 0 [(0, .ref (cx_ad X 0)), (1, .int p0), (2, .int p1), (3, .int p2)] [] μ (fX10_margin N p0 p1 p2 μ) := by
  unfold fX10_margin
  refine G_aload_n hX 0 rfl rfl dX10_margin_0 ?_
  refine G_iload_n hX 1 rfl rfl dX10_margin_1 ?_
  refine G_xV hX hQ (fun _ _ => rfl) hcs 0 10 (fun ad adK => [.int p0]) (fun ad adK => []) (fun ad adK => [(0, .ref (ad 0)), (1, .int p0), (2, .int p1), (3, .int p2)]) (fun z2 h2 => cX10_needFirm_ok (cx_l X) hQ.2.1 N p0 μ z2 h2) ok_X10_needFirm lm_X10_98 atC0.1 atC0.2 rfl rfl rfl (fun _ _ => rfl) (fun _ _ => Nat.le_of_ble_eq_true rfl) ⟨rfl, rfl, by decide, by decide⟩ ⟨by decide, by decide⟩ ⟨by decide, by decide⟩ dX10_margin_2 (fun X μ hX hQ hcs => ?_)
  refine G_iload_n hX 2 rfl rfl dX10_margin_5 ?_
  refine G_iconst hX (0 : Int32) rfl dX10_margin_6 ?_
  refine G_iconst hX (2 : Int32) rfl dX10_margin_7 ?_
  refine G_xS hX hQ (fun _ _ => rfl) hcs (fun ad adK => [.int p1, .int (0 : Int32), .int (2 : Int32)]) (fun ad adK => []) (fun ad adK => [(0, .ref (ad 0)), (1, .int p0), (2, .int p1), (3, .int p2)]) (fun z2 h2 => cX10_needWithin_ok (cx_l X) hQ.2.1 N p1 (0 : Int32) (2 : Int32) μ z2 h2) ok_X10_needWithin lm_X10_178 rfl rfl (fun _ _ => rfl) (fun _ _ => Nat.le_of_ble_eq_true rfl) ⟨rfl, rfl, by decide, by decide⟩ ⟨by decide, by decide⟩ ⟨by decide, by decide⟩ dX10_margin_8 (fun X μ hX hQ hcs => ?_)
  refine G_aload_n hX 0 rfl rfl dX10_margin_11 ?_
  refine gf_X10_56_C0 hX dX10_margin_12 ?_
  refine G_aload_n hX 0 rfl rfl dX10_margin_15 ?_
  refine gf_X10_10_C0 hX dX10_margin_16 (fun b_1 hb_1 => ?_)
  refine G_iload_n hX 1 rfl rfl dX10_margin_19 ?_
  refine G_iload_n hX 2 rfl rfl dX10_margin_20 ?_
  refine G_iload_n hX 3 rfl rfl dX10_margin_21 ?_
  refine G_cVi hX 5 3 (fun ad adK => [.ref (ad b_1), .int p0, .int p1, .int p2]) [] (fun z2 h2 => cX3_marginTold_ok (cx_l X) N b_1 p0 p1 p2 μ z2 h2) ok_X3_marginTold lm_X10_299 atC5.1 atC5.2 rfl rfl (fun _ _ => rfl) (Nat.le_of_ble_eq_true rfl) ⟨rfl, rfl, by decide, by decide⟩ (csk hcs (by decide) (by decide)) dX10_margin_22 (fun r2 μ => ?_)
  exact G_iretX hX hQ hcs ⟨by decide, by decide⟩ dX10_margin_25
theorem cX10_margin_ok (l : Launch) (hl0 : l.stackTraces = false) (N : Nat) (p0 : Int32) (p1 : Int32) (p2 : Int32) (μ : Mem) (z : (Int32 ⊕ Nat) × Mem) (h : fX10_margin N p0 p1 p2 μ = some z) : Ei wC l yX10_margin cX10_margin 4 .int (rmx 7 177 2 12) 2 12 (fun ad adK => [.ref (ad 0), .int p0, .int p1, .int p2]) μ z := Ei.of hl0 h (by decide +kernel) (fun _ _ => Nat.le_of_ble_eq_true rfl) (fun X hX hQ hcs => gX10_margin_E hX hQ hcs N p0 p1 p2 μ)
/-! ===== DutyCase.negligible(I)Z ===== -/
set_option maxHeartbeats 4000000 in
set_option maxRecDepth 100000 in
theorem gX10_negligible_E {X : Ctx} {z : (Int32 ⊕ Nat) × Mem} (hX : Fx wC X cX10_negligible 2 RX10 (some .boolean) (rmx 7 113 1 6)) (hQ : Qy (Qe_i wC z) wC X z 1 6) (hcs : cx_cells X = 0 ∧ cx_slots X = 0) (N : Nat) (p0 : Int32) (μ : Mem) : G wC X z 0 [(0, .ref (cx_ad X 0)), (1, .int p0)] [] μ (fX10_negligible N p0 μ) := by
  unfold fX10_negligible
  refine G_aload_n hX 0 rfl rfl dX10_negligible_0 ?_
  refine G_iload_n hX 1 rfl rfl dX10_negligible_1 ?_
  refine G_xV hX hQ (fun _ _ => rfl) hcs 0 10 (fun ad adK => [.int p0]) (fun ad adK => []) (fun ad adK => [(0, .ref (ad 0)), (1, .int p0)]) (fun z2 h2 => cX10_needFirm_ok (cx_l X) hQ.2.1 N p0 μ z2 h2) ok_X10_needFirm lm_X10_98 atC0.1 atC0.2 rfl rfl rfl (fun _ _ => rfl) (fun _ _ => Nat.le_of_ble_eq_true rfl) ⟨rfl, rfl, by decide, by decide⟩ ⟨by decide, by decide⟩ ⟨by decide, by decide⟩ dX10_negligible_2 (fun X μ hX hQ hcs => ?_)
  refine G_aload_n hX 0 rfl rfl dX10_negligible_5 ?_
  refine gf_X10_56_C0 hX dX10_negligible_6 ?_
  refine G_aload_n hX 0 rfl rfl dX10_negligible_9 ?_
  refine gf_X10_10_C0 hX dX10_negligible_10 (fun b_1 hb_1 => ?_)
  refine G_cVv hX 5 3 (fun ad adK => [.ref (ad b_1)]) [] (fun z2 h2 => cX3_markNegligible_ok (cx_l X) N b_1 μ z2 h2) ok_X3_markNegligible lm_X10_303 atC5.1 atC5.2 rfl rfl (fun _ _ => rfl) (Nat.le_of_ble_eq_true rfl) ⟨rfl, rfl, by decide, by decide⟩ (csk hcs (by decide) (by decide)) dX10_negligible_13 (fun μ => ?_)
  refine G_aload_n hX 0 rfl rfl dX10_negligible_16 ?_
  refine gf_X10_56_C0 hX dX10_negligible_17 ?_
  refine gf_X10_306_C5 hX dX10_negligible_20 ?_
  refine G_iload_n hX 1 rfl rfl dX10_negligible_23 ?_
  refine G_aZ hX atC27 dX10_negligible_24 (fun x2 => ?_)
  exact G_zretX hX hQ hcs ⟨by decide, by decide⟩ dX10_negligible_25
theorem cX10_negligible_ok (l : Launch) (hl0 : l.stackTraces = false) (N : Nat) (p0 : Int32) (μ : Mem) (z : (Int32 ⊕ Nat) × Mem) (h : fX10_negligible N p0 μ = some z) : Ei wC l yX10_negligible cX10_negligible 2 .boolean (rmx 7 113 1 6) 1 6 (fun ad adK => [.ref (ad 0), .int p0]) μ z := Ei.of hl0 h (by decide +kernel) (fun _ _ => Nat.le_of_ble_eq_true rfl) (fun X hX hQ hcs => gX10_negligible_E hX hQ hcs N p0 μ)
/-! ===== DutyCase.duty(II)I ===== -/
set_option maxHeartbeats 4000000 in
set_option maxRecDepth 100000 in
theorem gX10_duty_E {X : Ctx} {z : (Int32 ⊕ Nat) × Mem} (hX : Fx wC X cX10_duty 3 RX10 (some .int) (rmx 7 174 2 12)) (hQ : Qy (Qe_i wC z) wC X z 2 12) (hcs : cx_cells X = 0 ∧ cx_slots X = 0) (N : Nat) (p0 : Int32) (p1 : Int32) (μ : Mem) : G wC X z 0 [(0, .ref (cx_ad X 0)), (1, .int p0), (2, .int p1)] [] μ (fX10_duty N p0 p1 μ) := by
  unfold fX10_duty
  refine G_aload_n hX 0 rfl rfl dX10_duty_0 ?_
  refine G_iload_n hX 1 rfl rfl dX10_duty_1 ?_
  refine G_xV hX hQ (fun _ _ => rfl) hcs 0 10 (fun ad adK => [.int p0]) (fun ad adK => []) (fun ad adK => [(0, .ref (ad 0)), (1, .int p0), (2, .int p1)]) (fun z2 h2 => cX10_needFirm_ok (cx_l X) hQ.2.1 N p0 μ z2 h2) ok_X10_needFirm lm_X10_98 atC0.1 atC0.2 rfl rfl rfl (fun _ _ => rfl) (fun _ _ => Nat.le_of_ble_eq_true rfl) ⟨rfl, rfl, by decide, by decide⟩ ⟨by decide, by decide⟩ ⟨by decide, by decide⟩ dX10_duty_2 (fun X μ hX hQ hcs => ?_)
  refine G_aload_n hX 0 rfl rfl dX10_duty_5 ?_
  refine gf_X10_56_C0 hX dX10_duty_6 ?_
  refine G_aload_n hX 0 rfl rfl dX10_duty_9 ?_
  refine gf_X10_10_C0 hX dX10_duty_10 (fun b_1 hb_1 => ?_)
  refine G_cVv hX 5 3 (fun ad adK => [.ref (ad b_1)]) [] (fun z2 h2 => cX3_assess_ok (cx_l X) N b_1 μ z2 h2) ok_X3_assess lm_X10_309 atC5.1 atC5.2 rfl rfl (fun _ _ => rfl) (Nat.le_of_ble_eq_true rfl) ⟨rfl, rfl, by decide, by decide⟩ (csk hcs (by decide) (by decide)) dX10_duty_13 (fun μ => ?_)
  refine G_iload_n hX 2 rfl rfl dX10_duty_16 ?_
  refine G_sw (fun hc0 => ?_) (fun hc0 => ?_)
  · refine G_swIn hX 48 0 (0) (by rw [hc0]; rfl) (by decide) (by decide) rfl rfl (by decide) dX10_duty_17 ?_
    refine G_aload_n hX 0 rfl rfl dX10_duty_48 ?_
    refine gf_X10_56_C0 hX dX10_duty_49 ?_
    refine gf_X10_312_C5 hX dX10_duty_52 ?_
    refine G_iload_n hX 1 rfl rfl dX10_duty_55 ?_
    refine G_aI hX atC23 dX10_duty_56 (fun x2 => ?_)
    exact G_iretX hX hQ hcs ⟨by decide, by decide⟩ dX10_duty_57
  refine G_sw (fun hc1 => ?_) (fun hc1 => ?_)
  · refine G_swIn hX 58 1 (1) (by rw [hc1]; rfl) (by decide) (by decide) rfl rfl (by decide) dX10_duty_17 ?_
    refine G_aload_n hX 0 rfl rfl dX10_duty_58 ?_
    refine gf_X10_56_C0 hX dX10_duty_59 ?_
    refine gf_X10_315_C5 hX dX10_duty_62 ?_
    refine G_iload_n hX 1 rfl rfl dX10_duty_65 ?_
    refine G_aI hX atC24 dX10_duty_66 (fun x3 => ?_)
    exact G_iretX hX hQ hcs ⟨by decide, by decide⟩ dX10_duty_67
  refine G_sw (fun hc2 => ?_) (fun hc2 => ?_)
  · refine G_swIn hX 68 2 (2) (by rw [hc2]; rfl) (by decide) (by decide) rfl rfl (by decide) dX10_duty_17 ?_
    refine G_aload_n hX 0 rfl rfl dX10_duty_68 ?_
    refine gf_X10_56_C0 hX dX10_duty_69 ?_
    refine gf_X10_318_C5 hX dX10_duty_72 ?_
    refine G_iload_n hX 1 rfl rfl dX10_duty_75 ?_
    refine G_aI hX atC25 dX10_duty_76 (fun x4 => ?_)
    exact G_iretX hX hQ hcs ⟨by decide, by decide⟩ dX10_duty_77
  refine G_sw (fun hc3 => ?_) (fun hc3 => ?_)
  · refine G_swIn hX 78 3 (3) (by rw [hc3]; rfl) (by decide) (by decide) rfl rfl (by decide) dX10_duty_17 ?_
    refine G_aload_n hX 0 rfl rfl dX10_duty_78 ?_
    refine gf_X10_56_C0 hX dX10_duty_79 ?_
    refine gf_X10_321_C5 hX dX10_duty_82 ?_
    refine G_iload_n hX 1 rfl rfl dX10_duty_85 ?_
    refine G_aI hX atC26 dX10_duty_86 (fun x5 => ?_)
    exact G_iretX hX hQ hcs ⟨by decide, by decide⟩ dX10_duty_87
  refine G_swOut hX 88 (by decide) dX10_duty_17 (by have e0 := lv_neT (a := (0 : Int)) hc0 rfl; have e1 := lv_neT (a := (1 : Int)) hc1 rfl; have e2 := lv_neT (a := (2 : Int)) hc2 rfl; have e3 := lv_neT (a := (3 : Int)) hc3 rfl; omega) ?_
  exact G_throwWX xd_0 xd_1 xd_2 xd_5 xfits rfl (tx := "there is no such number of a duty") (si := 25) hX hQ hcs 3 (by decide) xf_3 xl_3 xi_3 xg_3 xb_3 xo_3 (by decide +kernel) ⟨by decide, Nat.le_of_ble_eq_true rfl, by decide, by decide⟩ ⟨by decide, by decide⟩ dX10_duty_88 dX10_duty_91 dX10_duty_92 dX10_duty_95 dX10_duty_98
theorem cX10_duty_ok (l : Launch) (hl0 : l.stackTraces = false) (N : Nat) (p0 : Int32) (p1 : Int32) (μ : Mem) (z : (Int32 ⊕ Nat) × Mem) (h : fX10_duty N p0 p1 μ = some z) : Ei wC l yX10_duty cX10_duty 3 .int (rmx 7 174 2 12) 2 12 (fun ad adK => [.ref (ad 0), .int p0, .int p1]) μ z := Ei.of hl0 h (by decide +kernel) (fun _ _ => Nat.le_of_ble_eq_true rfl) (fun X hX hQ hcs => gX10_duty_E hX hQ hcs N p0 p1 μ)
/-! ===== DutyCase.others()I ===== -/
set_option maxHeartbeats 4000000 in
set_option maxRecDepth 100000 in
theorem gX10_others_E {X : Ctx} {z : Int32 × Mem} (hX : Fx wC X cX10_others 1 RX10 (some .int) (rmo 7 174)) (hQ : Qx_i wC X z) (hcs : cx_cells X = 0 ∧ cx_slots X = 0) (N : Nat) (μ : Mem) : G wC X z 0 [(0, .ref (cx_ad X 0))] [] μ (fX10_others N μ) := by
  unfold fX10_others
  refine G_aload_n hX 0 rfl rfl dX10_others_0 ?_
  refine gf_X10_56_C0 hX dX10_others_1 ?_
  refine G_aload_n hX 0 rfl rfl dX10_others_4 ?_
  refine gf_X10_10_C0 hX dX10_others_5 (fun b_1 hb_1 => ?_)
  refine G_cVv hX 5 3 (fun ad adK => [.ref (ad b_1)]) [] (fun z2 h2 => cX3_assess_ok (cx_l X) N b_1 μ z2 h2) ok_X3_assess lm_X10_309 atC5.1 atC5.2 rfl rfl (fun _ _ => rfl) (Nat.le_of_ble_eq_true rfl) ⟨rfl, rfl, by decide, by decide⟩ (cs0 hcs) dX10_others_8 (fun μ => ?_)
  refine G_aload_n hX 0 rfl rfl dX10_others_11 ?_
  refine gf_X10_56_C0 hX dX10_others_12 ?_
  refine G_aload_n hX 0 rfl rfl dX10_others_15 ?_
  refine gf_X10_10_C0 hX dX10_others_16 (fun b_2 hb_2 => ?_)
  refine G_cVi hX 5 3 (fun ad adK => [.ref (ad b_2)]) [] (fun z2 h2 => cX3_rateOfOthers_ok (cx_l X) N b_2 μ z2 h2) ok_X3_rateOfOthers lm_X10_326 atC5.1 atC5.2 rfl rfl (fun _ _ => rfl) (Nat.le_of_ble_eq_true rfl) ⟨rfl, rfl, by decide, by decide⟩ (cs0 hcs) dX10_others_19 (fun r3 μ => ?_)
  exact G_iret hX hQ dX10_others_22
theorem cX10_others_ok (l : Launch) (N : Nat) (μ : Mem) (z : Int32 × Mem) (h : fX10_others N μ = some z) : Mi wC l yX10_others cX10_others 1 .int (rmo 7 174) (fun ad adK => [.ref (ad 0)]) μ z := Mi.of h (by decide +kernel) (fun _ _ => Nat.le_of_ble_eq_true rfl) (fun X hX hQ hl hcs => gX10_others_E hX hQ hcs N μ)
/-! ===== DutyCase.method(II)I ===== -/
set_option maxHeartbeats 4000000 in
set_option maxRecDepth 100000 in
theorem gX10_method_52 {X : Ctx} {z : (Int32 ⊕ Nat) × Mem} (hX : Fx wC X cX10_method 7 RX10 (some .int) (rmx 7 177 2 12)) (hQ : Qy (Qe_i wC z) wC X z 2 12) (hcs : cx_cells X = 1 ∧ cx_slots X = 6) (N : Nat) : ∀ (n : Nat) (v1 : Int32) (v2 : Int32) (v3 : Int32) (v4 : Int32) (v5 : Int32) (μ : Mem), G wC X z 52 [(0, .ref (cx_ad X 0)), (1, .int v1), (2, .int v2), (3, .int v3), (4, .int v4), (5, .int v5)] [] μ (fX10_method_52 N n v1 v2 v3 v4 v5 μ) := by
  intro n
  induction n with
  | zero =>
    intro v1 v2 v3 v4 v5 μ
    exact G_none
  | succ n ih =>
    intro v1 v2 v3 v4 v5 μ
    unfold fX10_method_52
    refine G_iload hX 5 rfl dX10_method_52 ?_
    refine G_iconst hX (3 : Int32) rfl dX10_method_54 ?_
    refine G_icmp_ge hX 115 (by decide) dX10_method_55 ?_ ?_
    · refine G_iload_n hX 3 rfl rfl dX10_method_115 ?_
      exact G_iretX hX hQ hcs ⟨by decide, by decide⟩ dX10_method_116
    · refine G_aload_n hX 0 rfl rfl dX10_method_58 ?_
      refine gf_X10_56_C0 hX dX10_method_59 ?_
      refine G_aload_n hX 0 rfl rfl dX10_method_62 ?_
      refine gf_X10_10_C0 hX dX10_method_63 (fun b_5 hb_5 => ?_)
      refine G_iload_n hX 1 rfl rfl dX10_method_66 ?_
      refine G_iload hX 5 rfl dX10_method_67 ?_
      refine G_aload_n hX 0 rfl rfl dX10_method_69 ?_
      refine gf_X10_10_C0 hX dX10_method_70 (fun b_6 hb_6 => ?_)
      refine G_cVi hX b_6 1 (fun ad adK => []) [.int v5, .int v1, .ref (cx_ad X b_5), .ref (cx_ad X 5)] (fun z2 h2 => cX1_isZeroing_ok (cx_l X) N b_6 μ z2 h2) ok_X1_isZeroing lm_X10_332 (atB_0 hb_6).1 (atB_0 hb_6).2 rfl rfl (fun _ _ => rfl) (Nat.le_of_ble_eq_true rfl) ⟨rfl, rfl, by decide, by decide⟩ (csk hcs (by decide) (by decide)) dX10_method_73 (fun r7 μ => ?_)
      refine G_cVi hX 5 3 (fun ad adK => [.ref (ad b_5), .int v1, .int v5, .int r7]) [] (fun z2 h2 => cX3_marginTold_ok (cx_l X) N b_5 v1 v5 r7 μ z2 h2) ok_X3_marginTold lm_X10_299 atC5.1 atC5.2 rfl rfl (fun _ _ => rfl) (Nat.le_of_ble_eq_true rfl) ⟨rfl, rfl, by decide, by decide⟩ (csk hcs (by decide) (by decide)) dX10_method_76 (fun r8 μ => ?_)
      refine G_istore hX [(6, .int r8), (0, .ref (cx_ad X 0)), (1, .int v1), (2, .int v2), (3, .int v3), (4, .int v4), (5, .int v5)] (by decide) rfl dX10_method_79 ?_
      refine G_iload_n hX 3 rfl rfl dX10_method_81 ?_
      refine G_if_ne hX 95 (by decide) dX10_method_82 ?_ ?_
      · refine G_iload hX 0 rfl dX10_method_95 ?_
        refine G_iload hX 5 rfl dX10_method_97 ?_
        refine G_icmp_ge hX 109 (by decide) dX10_method_99 ?_ ?_
        · refine G_iincN hX 6 (fun x9 => [(5, .int x9), (6, .int r8), (0, .ref (cx_ad X 0)), (1, .int v1), (2, .int v2), (3, .int v3), (4, .int v4)]) rfl rfl (by decide) (fun _ => rfl) dX10_method_109 (fun x9 => ?_)
          refine G_goto hX 52 (by decide) dX10_method_112 ?_
          exact G_sub [2, 3, 4, 5, 6, 0] rfl (ih v1 v2 v3 v4 x9 μ)
        · refine G_iload hX 6 rfl dX10_method_102 ?_
          refine G_istore_n hX [(3, .int v5), (6, .int r8), (0, .ref (cx_ad X 0)), (1, .int v1), (2, .int v2), (4, .int v4), (5, .int v5)] rfl (by decide) rfl dX10_method_104 ?_
          refine G_iload hX 1 rfl dX10_method_105 ?_
          refine G_istore hX [(4, .int r8), (3, .int v5), (6, .int r8), (0, .ref (cx_ad X 0)), (1, .int v1), (2, .int v2), (5, .int v5)] (by decide) rfl dX10_method_107 ?_
          refine G_iincN hX 6 (fun x10 => [(5, .int x10), (4, .int r8), (3, .int v5), (6, .int r8), (0, .ref (cx_ad X 0)), (1, .int v1), (2, .int v2)]) rfl rfl (by decide) (fun _ => rfl) dX10_method_109 (fun x10 => ?_)
          refine G_goto hX 52 (by decide) dX10_method_112 ?_
          exact G_sub [4, 5, 6, 2, 1, 0] rfl (ih v1 v2 v5 r8 x10 μ)
      · refine G_iload hX 0 rfl dX10_method_85 ?_
        refine G_iload hX 5 rfl dX10_method_87 ?_
        refine G_icmp_le hX 109 (by decide) dX10_method_89 ?_ ?_
        · refine G_iincN hX 6 (fun x11 => [(5, .int x11), (6, .int r8), (0, .ref (cx_ad X 0)), (1, .int v1), (2, .int v2), (3, .int v3), (4, .int v4)]) rfl rfl (by decide) (fun _ => rfl) dX10_method_109 (fun x11 => ?_)
          refine G_goto hX 52 (by decide) dX10_method_112 ?_
          exact G_sub [2, 3, 4, 5, 6, 0] rfl (ih v1 v2 v3 v4 x11 μ)
        · refine G_goto hX 102 (by decide) dX10_method_92 ?_
          refine G_iload hX 6 rfl dX10_method_102 ?_
          refine G_istore_n hX [(3, .int v5), (6, .int r8), (0, .ref (cx_ad X 0)), (1, .int v1), (2, .int v2), (4, .int v4), (5, .int v5)] rfl (by decide) rfl dX10_method_104 ?_
          refine G_iload hX 1 rfl dX10_method_105 ?_
          refine G_istore hX [(4, .int r8), (3, .int v5), (6, .int r8), (0, .ref (cx_ad X 0)), (1, .int v1), (2, .int v2), (5, .int v5)] (by decide) rfl dX10_method_107 ?_
          refine G_iincN hX 6 (fun x12 => [(5, .int x12), (4, .int r8), (3, .int v5), (6, .int r8), (0, .ref (cx_ad X 0)), (1, .int v1), (2, .int v2)]) rfl rfl (by decide) (fun _ => rfl) dX10_method_109 (fun x12 => ?_)
          refine G_goto hX 52 (by decide) dX10_method_112 ?_
          exact G_sub [4, 5, 6, 2, 1, 0] rfl (ih v1 v2 v5 r8 x12 μ)
set_option maxHeartbeats 4000000 in
set_option maxRecDepth 100000 in
theorem gX10_method_25 {X : Ctx} {z : (Int32 ⊕ Nat) × Mem} (hX : Fx wC X cX10_method 7 RX10 (some .int) (rmx 7 177 2 12)) (hQ : Qy (Qe_i wC z) wC X z 2 12) (hcs : cx_cells X = 1 ∧ cx_slots X = 6) (N : Nat) (v1 : Int32) (v2 : Int32) (μ : Mem) : G wC X z 25 [(0, .ref (cx_ad X 0)), (1, .int v1), (2, .int v2)] [] μ (fX10_method_25 N v1 v2 μ) := by
  unfold fX10_method_25
  refine G_iconst hX (0 : Int32) rfl dX10_method_25 ?_
  refine G_istore_n hX [(3, .int (0 : Int32)), (0, .ref (cx_ad X 0)), (1, .int v1), (2, .int v2)] rfl (by decide) rfl dX10_method_26 ?_
  refine G_aload_n hX 1 rfl rfl dX10_method_27 ?_
  refine gf_X10_56_C0 hX dX10_method_28 ?_
  refine G_aload_n hX 1 rfl rfl dX10_method_31 ?_
  refine gf_X10_10_C0 hX dX10_method_32 (fun b_1 hb_1 => ?_)
  refine G_iload_n hX 2 rfl rfl dX10_method_35 ?_
  refine G_iconst hX (0 : Int32) rfl dX10_method_36 ?_
  refine G_aload_n hX 1 rfl rfl dX10_method_37 ?_
  refine gf_X10_10_C0 hX dX10_method_38 (fun b_2 hb_2 => ?_)
  refine G_cVi hX b_2 1 (fun ad adK => []) [.int (0 : Int32), .int v1, .ref (cx_ad X b_1), .ref (cx_ad X 5)] (fun z2 h2 => cX1_isZeroing_ok (cx_l X) N b_2 μ z2 h2) ok_X1_isZeroing lm_X10_332 (atB_0 hb_2).1 (atB_0 hb_2).2 rfl rfl (fun _ _ => rfl) (Nat.le_of_ble_eq_true rfl) ⟨rfl, rfl, by decide, by decide⟩ (csk hcs (by decide) (by decide)) dX10_method_41 (fun r3 μ => ?_)
  refine G_cVi hX 5 3 (fun ad adK => [.ref (ad b_1), .int v1, .int (0 : Int32), .int r3]) [] (fun z2 h2 => cX3_marginTold_ok (cx_l X) N b_1 v1 (0 : Int32) r3 μ z2 h2) ok_X3_marginTold lm_X10_299 atC5.1 atC5.2 rfl rfl (fun _ _ => rfl) (Nat.le_of_ble_eq_true rfl) ⟨rfl, rfl, by decide, by decide⟩ (csk hcs (by decide) (by decide)) dX10_method_44 (fun r4 μ => ?_)
  refine G_istore hX [(4, .int r4), (3, .int (0 : Int32)), (0, .ref (cx_ad X 0)), (1, .int v1), (2, .int v2)] (by decide) rfl dX10_method_47 ?_
  refine G_iconst hX (1 : Int32) rfl dX10_method_49 ?_
  refine G_istore hX [(5, .int (1 : Int32)), (4, .int r4), (3, .int (0 : Int32)), (0, .ref (cx_ad X 0)), (1, .int v1), (2, .int v2)] (by decide) rfl dX10_method_50 ?_
  exact G_sub [3, 4, 5, 2, 1, 0] rfl (gX10_method_52 hX hQ hcs N N v1 v2 (0 : Int32) r4 (1 : Int32) μ)
set_option maxHeartbeats 4000000 in
set_option maxRecDepth 100000 in
theorem gX10_method_E {X : Ctx} {z : (Int32 ⊕ Nat) × Mem} (hX : Fx wC X cX10_method 7 RX10 (some .int) (rmx 7 177 2 12)) (hQ : Qy (Qe_i wC z) wC X z 2 12) (hcs : cx_cells X = 0 ∧ cx_slots X = 0) (N : Nat) (p0 : Int32) (p1 : Int32) (μ : Mem) : G wC X z 0 [(0, .ref (cx_ad X 0)), (1, .int p0), (2, .int p1)] [] μ (fX10_method N p0 p1 μ) := by
  unfold fX10_method
  refine G_aload_n hX 0 rfl rfl dX10_method_0 ?_
  refine G_iload_n hX 1 rfl rfl dX10_method_1 ?_
  refine G_xV hX hQ (fun _ _ => rfl) hcs 0 10 (fun ad adK => [.int p0]) (fun ad adK => []) (fun ad adK => [(0, .ref (ad 0)), (1, .int p0), (2, .int p1)]) (fun z2 h2 => cX10_needFirm_ok (cx_l X) hQ.2.1 N p0 μ z2 h2) ok_X10_needFirm lm_X10_98 atC0.1 atC0.2 rfl rfl rfl (fun _ _ => rfl) (fun _ _ => Nat.le_of_ble_eq_true rfl) ⟨rfl, rfl, by decide, by decide⟩ ⟨by decide, by decide⟩ ⟨by decide, by decide⟩ dX10_method_2 (fun X μ hX hQ hcs => ?_)
  refine G_iload_n hX 2 rfl rfl dX10_method_5 ?_
  refine G_if_eq hX 25 (by decide) dX10_method_6 ?_ ?_
  · exact G_sub [0, 1, 2] rfl (gX10_method_25 hX hQ hcs N p0 p1 μ)
  · refine G_iload_n hX 2 rfl rfl dX10_method_9 ?_
    refine G_iconst hX (1 : Int32) rfl dX10_method_10 ?_
    refine G_icmp_eq hX 25 (by decide) dX10_method_11 ?_ ?_
    · exact G_sub [0, 1, 2] rfl (gX10_method_25 hX hQ hcs N p0 p1 μ)
    · exact G_throwWX xd_0 xd_1 xd_2 xd_5 xfits rfl (tx := "a method is the greatest one or the least one") (si := 26) hX hQ hcs 3 (by decide) xf_3 xl_3 xi_3 xg_3 xb_3 xo_3 (by decide +kernel) ⟨by decide, Nat.le_of_ble_eq_true rfl, by decide, by decide⟩ ⟨by decide, by decide⟩ dX10_method_14 dX10_method_17 dX10_method_18 dX10_method_21 dX10_method_24
theorem cX10_method_ok (l : Launch) (hl0 : l.stackTraces = false) (N : Nat) (p0 : Int32) (p1 : Int32) (μ : Mem) (z : (Int32 ⊕ Nat) × Mem) (h : fX10_method N p0 p1 μ = some z) : Ei wC l yX10_method cX10_method 7 .int (rmx 7 177 2 12) 2 12 (fun ad adK => [.ref (ad 0), .int p0, .int p1]) μ z := Ei.of hl0 h (by decide +kernel) (fun _ _ => Nat.le_of_ble_eq_true rfl) (fun X hX hQ hcs => gX10_method_E hX hQ hcs N p0 p1 μ)
/-! ===== DutyCase.undertaking(I)I ===== -/
set_option maxHeartbeats 4000000 in
set_option maxRecDepth 100000 in
theorem gX10_undertaking_E {X : Ctx} {z : (Int32 ⊕ Nat) × Mem} (hX : Fx wC X cX10_undertaking 2 RX10 (some .int) (rmx 7 127 2 12)) (hQ : Qy (Qe_i wC z) wC X z 2 12) (hcs : cx_cells X = 0 ∧ cx_slots X = 0) (N : Nat) (p0 : Int32) (μ : Mem) : G wC X z 0 [(0, .ref (cx_ad X 0)), (1, .int p0)] [] μ (fX10_undertaking N p0 μ) := by
  unfold fX10_undertaking
  refine G_aload_n hX 0 rfl rfl dX10_undertaking_0 ?_
  refine G_iload_n hX 1 rfl rfl dX10_undertaking_1 ?_
  refine G_xV hX hQ (fun _ _ => rfl) hcs 0 10 (fun ad adK => [.int p0]) (fun ad adK => []) (fun ad adK => [(0, .ref (ad 0)), (1, .int p0)]) (fun z2 h2 => cX10_needFirm_ok (cx_l X) hQ.2.1 N p0 μ z2 h2) ok_X10_needFirm lm_X10_98 atC0.1 atC0.2 rfl rfl rfl (fun _ _ => rfl) (fun _ _ => Nat.le_of_ble_eq_true rfl) ⟨rfl, rfl, by decide, by decide⟩ ⟨by decide, by decide⟩ ⟨by decide, by decide⟩ dX10_undertaking_2 (fun X μ hX hQ hcs => ?_)
  refine G_aload_n hX 0 rfl rfl dX10_undertaking_5 ?_
  refine gf_X10_10_C0 hX dX10_undertaking_6 (fun b_1 hb_1 => ?_)
  refine gf_X10_91_B0 hX hb_1 dX10_undertaking_9 ?_
  refine G_iload_n hX 1 rfl rfl dX10_undertaking_12 ?_
  refine G_cVi hX (b_1 + 12) 7 (fun ad adK => [.int p0]) [] (fun z2 h2 => cX7_exportMany_ok (cx_l X) N (b_1 + 12) p0 μ z2 h2) ok_X7_exportMany lm_X10_336 (atB_12 hb_1).1 (atB_12 hb_1).2 rfl rfl (fun _ _ => rfl) (Nat.le_of_ble_eq_true rfl) ⟨rfl, rfl, by decide, by decide⟩ (csk hcs (by decide) (by decide)) dX10_undertaking_13 (fun r2 μ => ?_)
  refine G_if_ne hX 30 (by decide) dX10_undertaking_16 ?_ ?_
  · refine G_aload_n hX 0 rfl rfl dX10_undertaking_30 ?_
    refine gf_X10_47_C0 hX dX10_undertaking_31 ?_
    refine G_aload_n hX 0 rfl rfl dX10_undertaking_34 ?_
    refine gf_X10_10_C0 hX dX10_undertaking_35 (fun b_3 hb_3 => ?_)
    refine G_iload_n hX 1 rfl rfl dX10_undertaking_38 ?_
    refine G_aload_n hX 0 rfl rfl dX10_undertaking_39 ?_
    refine gf_X10_10_C0 hX dX10_undertaking_40 (fun b_4 hb_4 => ?_)
    refine gf_X10_216_B0 hX hb_4 dX10_undertaking_43 ?_
    refine G_iconst hX (0 : Int32) rfl dX10_undertaking_46 ?_
    refine G_aI hX (atB_28 hb_4) dX10_undertaking_47 (fun x5 => ?_)
    refine G_cVv hX 4 2 (fun ad adK => [.ref (ad b_3), .int p0, .int x5]) [] (fun z2 h2 => cX2_gather_ok (cx_l X) N b_3 p0 x5 μ z2 h2) ok_X2_gather lm_X10_262 atC4.1 atC4.2 rfl rfl (fun _ _ => rfl) (Nat.le_of_ble_eq_true rfl) ⟨rfl, rfl, by decide, by decide⟩ (csk hcs (by decide) (by decide)) dX10_undertaking_48 (fun μ => ?_)
    refine G_aload_n hX 0 rfl rfl dX10_undertaking_51 ?_
    refine gf_X10_47_C0 hX dX10_undertaking_52 ?_
    refine G_aload_n hX 0 rfl rfl dX10_undertaking_55 ?_
    refine gf_X10_10_C0 hX dX10_undertaking_56 (fun b_6 hb_6 => ?_)
    refine G_cVi hX b_6 1 (fun ad adK => []) [.ref (cx_ad X 4)] (fun z2 h2 => cX1_isZeroing_ok (cx_l X) N b_6 μ z2 h2) ok_X1_isZeroing lm_X10_332 (atB_0 hb_6).1 (atB_0 hb_6).2 rfl rfl (fun _ _ => rfl) (Nat.le_of_ble_eq_true rfl) ⟨rfl, rfl, by decide, by decide⟩ (csk hcs (by decide) (by decide)) dX10_undertaking_59 (fun r7 μ => ?_)
    refine G_cVi hX 4 2 (fun ad adK => [.int r7]) [] (fun z2 h2 => cX2_leastRaise_ok (cx_l X) N r7 μ z2 h2) ok_X2_leastRaise lm_X10_341 atC4.1 atC4.2 rfl rfl (fun _ _ => rfl) (Nat.le_of_ble_eq_true rfl) ⟨rfl, rfl, by decide, by decide⟩ (csk hcs (by decide) (by decide)) dX10_undertaking_62 (fun r8 μ => ?_)
    exact G_iretX hX hQ hcs ⟨by decide, by decide⟩ dX10_undertaking_65
  · exact G_throwW (tx := "the firm has no exports") (si := 27) hX hQ hcs 2 (by decide) xf_2 xl_2 xi_2 xg_2 xb_2 xo_2 (by decide +kernel) ⟨by decide, Nat.le_of_ble_eq_true rfl, by decide, by decide⟩ ⟨by decide, by decide⟩ dX10_undertaking_19 dX10_undertaking_22 dX10_undertaking_23 dX10_undertaking_26 dX10_undertaking_29
theorem cX10_undertaking_ok (l : Launch) (hl0 : l.stackTraces = false) (N : Nat) (p0 : Int32) (μ : Mem) (z : (Int32 ⊕ Nat) × Mem) (h : fX10_undertaking N p0 μ = some z) : Ei wC l yX10_undertaking cX10_undertaking 2 .int (rmx 7 127 2 12) 2 12 (fun ad adK => [.ref (ad 0), .int p0]) μ z := Ei.of hl0 h (by decide +kernel) (fun _ _ => Nat.le_of_ble_eq_true rfl) (fun X hX hQ hcs => gX10_undertaking_E hX hQ hcs N p0 μ)
/-! ===== DutyCase.picked(I)I ===== -/
set_option maxHeartbeats 4000000 in
set_option maxRecDepth 100000 in
theorem gX10_picked_E {X : Ctx} {z : (Int32 ⊕ Nat) × Mem} (hX : Fx wC X cX10_picked 2 RX10 (some .int) (rmx 7 113 1 6)) (hQ : Qy (Qe_i wC z) wC X z 1 6) (hcs : cx_cells X = 0 ∧ cx_slots X = 0) (N : Nat) (p0 : Int32) (μ : Mem) : G wC X z 0 [(0, .ref (cx_ad X 0)), (1, .int p0)] [] μ (fX10_picked N p0 μ) := by
  unfold fX10_picked
  refine G_aload_n hX 0 rfl rfl dX10_picked_0 ?_
  refine G_iload_n hX 1 rfl rfl dX10_picked_1 ?_
  refine G_xV hX hQ (fun _ _ => rfl) hcs 0 10 (fun ad adK => [.int p0]) (fun ad adK => []) (fun ad adK => [(0, .ref (ad 0)), (1, .int p0)]) (fun z2 h2 => cX10_needFirm_ok (cx_l X) hQ.2.1 N p0 μ z2 h2) ok_X10_needFirm lm_X10_98 atC0.1 atC0.2 rfl rfl rfl (fun _ _ => rfl) (fun _ _ => Nat.le_of_ble_eq_true rfl) ⟨rfl, rfl, by decide, by decide⟩ ⟨by decide, by decide⟩ ⟨by decide, by decide⟩ dX10_picked_2 (fun X μ hX hQ hcs => ?_)
  refine G_aload_n hX 0 rfl rfl dX10_picked_5 ?_
  refine gf_X10_56_C0 hX dX10_picked_6 ?_
  refine G_aload_n hX 0 rfl rfl dX10_picked_9 ?_
  refine gf_X10_10_C0 hX dX10_picked_10 (fun b_1 hb_1 => ?_)
  refine gf_X10_91_B0 hX hb_1 dX10_picked_13 ?_
  refine G_iload_n hX 1 rfl rfl dX10_picked_16 ?_
  refine G_cVi hX 5 3 (fun ad adK => [.ref (ad (b_1 + 12)), .int p0]) [] (fun z2 h2 => cX3_pickedMonths_ok (cx_l X) N (b_1 + 12) p0 μ z2 h2) ok_X3_pickedMonths lm_X10_345 atC5.1 atC5.2 rfl rfl (fun _ _ => rfl) (Nat.le_of_ble_eq_true rfl) ⟨rfl, rfl, by decide, by decide⟩ (csk hcs (by decide) (by decide)) dX10_picked_17 (fun r2 μ => ?_)
  exact G_iretX hX hQ hcs ⟨by decide, by decide⟩ dX10_picked_20
theorem cX10_picked_ok (l : Launch) (hl0 : l.stackTraces = false) (N : Nat) (p0 : Int32) (μ : Mem) (z : (Int32 ⊕ Nat) × Mem) (h : fX10_picked N p0 μ = some z) : Ei wC l yX10_picked cX10_picked 2 .int (rmx 7 113 1 6) 1 6 (fun ad adK => [.ref (ad 0), .int p0]) μ z := Ei.of hl0 h (by decide +kernel) (fun _ _ => Nat.le_of_ble_eq_true rfl) (fun X hX hQ hcs => gX10_picked_E hX hQ hcs N p0 μ)
/-! ===== DutyCase.collected(IZ)J ===== -/
set_option maxHeartbeats 4000000 in
set_option maxRecDepth 100000 in
theorem gX10_collected_E {X : Ctx} {z : (Int64 ⊕ Nat) × Mem} (hX : Fx wC X cX10_collected 3 RX10 (some .long) (rmx 8 174 2 12)) (hQ : Qy (Qe_l wC z) wC X z 2 12) (hcs : cx_cells X = 0 ∧ cx_slots X = 0) (N : Nat) (p0 : Int32) (p1 : Int32) (μ : Mem) : G wC X z 0 [(0, .ref (cx_ad X 0)), (1, .int p0), (2, .int p1)] [] μ (fX10_collected N p0 p1 μ) := by
  unfold fX10_collected
  refine G_aload_n hX 0 rfl rfl dX10_collected_0 ?_
  refine G_iload_n hX 1 rfl rfl dX10_collected_1 ?_
  refine G_xV hX hQ (fun _ _ => rfl) hcs 0 10 (fun ad adK => [.int p0]) (fun ad adK => []) (fun ad adK => [(0, .ref (ad 0)), (1, .int p0), (2, .int p1)]) (fun z2 h2 => cX10_needExport_ok (cx_l X) hQ.2.1 N p0 μ z2 h2) ok_X10_needExport lm_X10_252 atC0.1 atC0.2 rfl rfl rfl (fun _ _ => rfl) (fun _ _ => Nat.le_of_ble_eq_true rfl) ⟨rfl, rfl, by decide, by decide⟩ ⟨by decide, by decide⟩ ⟨by decide, by decide⟩ dX10_collected_2 (fun X μ hX hQ hcs => ?_)
  refine G_iload_n hX 2 rfl rfl dX10_collected_5 ?_
  refine G_if_eq hX 33 (by decide) dX10_collected_6 ?_ ?_
  · refine G_aload_n hX 0 rfl rfl dX10_collected_33 ?_
    refine gf_X10_56_C0 hX dX10_collected_34 ?_
    refine G_aload_n hX 0 rfl rfl dX10_collected_37 ?_
    refine gf_X10_10_C0 hX dX10_collected_38 (fun b_1 hb_1 => ?_)
    refine G_cVv hX 5 3 (fun ad adK => [.ref (ad b_1)]) [] (fun z2 h2 => cX3_assess_ok (cx_l X) N b_1 μ z2 h2) ok_X3_assess lm_X10_309 atC5.1 atC5.2 rfl rfl (fun _ _ => rfl) (Nat.le_of_ble_eq_true rfl) ⟨rfl, rfl, by decide, by decide⟩ (csk hcs (by decide) (by decide)) dX10_collected_41 (fun μ => ?_)
    refine G_aload_n hX 0 rfl rfl dX10_collected_44 ?_
    refine gf_X10_56_C0 hX dX10_collected_45 ?_
    refine G_aload_n hX 0 rfl rfl dX10_collected_48 ?_
    refine gf_X10_10_C0 hX dX10_collected_49 (fun b_2 hb_2 => ?_)
    refine gf_X10_91_B0 hX hb_2 dX10_collected_52 ?_
    refine G_iload_n hX 1 rfl rfl dX10_collected_55 ?_
    refine G_cVl hX 5 3 (fun ad adK => [.ref (ad (b_2 + 12)), .int p0]) [] (fun z2 h2 => cX3_depositOf_ok (cx_l X) N (b_2 + 12) p0 μ z2 h2) ok_X3_depositOf lm_X10_359 atC5.1 atC5.2 rfl rfl (fun _ _ => rfl) (Nat.le_of_ble_eq_true rfl) ⟨rfl, rfl, by decide, by decide⟩ (csk hcs (by decide) (by decide)) dX10_collected_56 (fun r3 μ => ?_)
    exact G_lretX hX hQ hcs ⟨by decide, by decide⟩ dX10_collected_59
  · refine G_lconst hX (0 : Int64) rfl dX10_collected_9 ?_
    refine G_aload_n hX 0 rfl rfl dX10_collected_10 ?_
    refine gf_X10_47_C0 hX dX10_collected_11 ?_
    refine G_aload_n hX 0 rfl rfl dX10_collected_14 ?_
    refine gf_X10_10_C0 hX dX10_collected_15 (fun b_4 hb_4 => ?_)
    refine G_iload_n hX 1 rfl rfl dX10_collected_18 ?_
    refine G_aload_n hX 0 rfl rfl dX10_collected_19 ?_
    refine gf_X10_10_C0 hX dX10_collected_20 (fun b_5 hb_5 => ?_)
    refine G_cVi hX b_5 1 (fun ad adK => []) [.int p0, .ref (cx_ad X b_4), .ref (cx_ad X 4), .long (0 : Int64)] (fun z2 h2 => cX1_methodOwed_ok (cx_l X) N b_5 μ z2 h2) ok_X1_methodOwed lm_X10_349 (atB_0 hb_5).1 (atB_0 hb_5).2 rfl rfl (fun _ _ => rfl) (Nat.le_of_ble_eq_true rfl) ⟨rfl, rfl, by decide, by decide⟩ (csk hcs (by decide) (by decide)) dX10_collected_23 (fun r6 μ => ?_)
    refine G_cVl hX 4 2 (fun ad adK => [.ref (ad b_4), .int p0, .int r6]) [.long (0 : Int64)] (fun z2 h2 => cX2_differenceFor_ok (cx_l X) N b_4 p0 r6 μ z2 h2) ok_X2_differenceFor lm_X10_258 atC4.1 atC4.2 rfl rfl (fun _ _ => rfl) (Nat.le_of_ble_eq_true rfl) ⟨rfl, rfl, by decide, by decide⟩ (csk hcs (by decide) (by decide)) dX10_collected_26 (fun r7 μ => ?_)
    refine G_mmaxL hX lm_X10_353 ok_J9_max_f86c9.1 ok_J9_max_f86c9.2.1 ok_J9_max_f86c9.2.2.1 ⟨Nat.le_of_ble_eq_true rfl, Nat.le_of_ble_eq_true rfl⟩ (csk hcs (by decide) (by decide)) dX10_collected_29 ?_
    exact G_lretX hX hQ hcs ⟨by decide, by decide⟩ dX10_collected_32
theorem cX10_collected_ok (l : Launch) (hl0 : l.stackTraces = false) (N : Nat) (p0 : Int32) (p1 : Int32) (μ : Mem) (z : (Int64 ⊕ Nat) × Mem) (h : fX10_collected N p0 p1 μ = some z) : El wC l yX10_collected cX10_collected 3 .long (rmx 8 174 2 12) 2 12 (fun ad adK => [.ref (ad 0), .int p0, .int p1]) μ z := El.of hl0 h (by decide +kernel) (fun _ _ => Nat.le_of_ble_eq_true rfl) (fun X hX hQ hcs => gX10_collected_E hX hQ hcs N p0 p1 μ)
/-! ===== DutyCase.back(I)J ===== -/
set_option maxHeartbeats 4000000 in
set_option maxRecDepth 100000 in
theorem gX10_back_E {X : Ctx} {z : (Int64 ⊕ Nat) × Mem} (hX : Fx wC X cX10_back 4 RX10 (some .long) (rmx 7 174 1 6)) (hQ : Qy (Qe_l wC z) wC X z 1 6) (hcs : cx_cells X = 0 ∧ cx_slots X = 0) (N : Nat) (p0 : Int32) (μ : Mem) : G wC X z 0 [(0, .ref (cx_ad X 0)), (1, .int p0)] [] μ (fX10_back N p0 μ) := by
  unfold fX10_back
  refine G_aload_n hX 0 rfl rfl dX10_back_0 ?_
  refine G_iload_n hX 1 rfl rfl dX10_back_1 ?_
  refine G_xV hX hQ (fun _ _ => rfl) hcs 0 10 (fun ad adK => [.int p0]) (fun ad adK => []) (fun ad adK => [(0, .ref (ad 0)), (1, .int p0)]) (fun z2 h2 => cX10_needFirm_ok (cx_l X) hQ.2.1 N p0 μ z2 h2) ok_X10_needFirm lm_X10_98 atC0.1 atC0.2 rfl rfl rfl (fun _ _ => rfl) (fun _ _ => Nat.le_of_ble_eq_true rfl) ⟨rfl, rfl, by decide, by decide⟩ ⟨by decide, by decide⟩ ⟨by decide, by decide⟩ dX10_back_2 (fun X μ hX hQ hcs => ?_)
  refine G_aload_n hX 0 rfl rfl dX10_back_5 ?_
  refine gf_X10_56_C0 hX dX10_back_6 ?_
  refine G_aload_n hX 0 rfl rfl dX10_back_9 ?_
  refine gf_X10_10_C0 hX dX10_back_10 (fun b_1 hb_1 => ?_)
  refine G_cVv hX 5 3 (fun ad adK => [.ref (ad b_1)]) [] (fun z2 h2 => cX3_assess_ok (cx_l X) N b_1 μ z2 h2) ok_X3_assess lm_X10_309 atC5.1 atC5.2 rfl rfl (fun _ _ => rfl) (Nat.le_of_ble_eq_true rfl) ⟨rfl, rfl, by decide, by decide⟩ (csk hcs (by decide) (by decide)) dX10_back_13 (fun μ => ?_)
  refine G_aload_n hX 0 rfl rfl dX10_back_16 ?_
  refine gf_X10_56_C0 hX dX10_back_17 ?_
  refine G_aload_n hX 0 rfl rfl dX10_back_20 ?_
  refine gf_X10_10_C0 hX dX10_back_21 (fun b_2 hb_2 => ?_)
  refine gf_X10_91_B0 hX hb_2 dX10_back_24 ?_
  refine G_iload_n hX 1 rfl rfl dX10_back_27 ?_
  refine G_cVl hX 5 3 (fun ad adK => [.ref (ad (b_2 + 12)), .int p0]) [] (fun z2 h2 => cX3_depositsOf_ok (cx_l X) N (b_2 + 12) p0 μ z2 h2) ok_X3_depositsOf lm_X10_363 atC5.1 atC5.2 rfl rfl (fun _ _ => rfl) (Nat.le_of_ble_eq_true rfl) ⟨rfl, rfl, by decide, by decide⟩ (csk hcs (by decide) (by decide)) dX10_back_28 (fun r3 μ => ?_)
  refine G_lstore_n hX [(2, .long r3), (0, .ref (cx_ad X 0)), (1, .int p0)] rfl (by decide) rfl dX10_back_31 ?_
  refine G_aload_n hX 1 rfl rfl dX10_back_32 ?_
  refine gf_X10_47_C0 hX dX10_back_33 ?_
  refine G_aload_n hX 1 rfl rfl dX10_back_36 ?_
  refine gf_X10_10_C0 hX dX10_back_37 (fun b_4 hb_4 => ?_)
  refine G_iload_n hX 2 rfl rfl dX10_back_40 ?_
  refine G_aload_n hX 1 rfl rfl dX10_back_41 ?_
  refine gf_X10_10_C0 hX dX10_back_42 (fun b_5 hb_5 => ?_)
  refine G_cVi hX b_5 1 (fun ad adK => []) [.int p0, .ref (cx_ad X b_4), .ref (cx_ad X 4)] (fun z2 h2 => cX1_methodOwed_ok (cx_l X) N b_5 μ z2 h2) ok_X1_methodOwed lm_X10_349 (atB_0 hb_5).1 (atB_0 hb_5).2 rfl rfl (fun _ _ => rfl) (Nat.le_of_ble_eq_true rfl) ⟨rfl, rfl, by decide, by decide⟩ (csk hcs (by decide) (by decide)) dX10_back_45 (fun r6 μ => ?_)
  refine G_cVv hX 4 2 (fun ad adK => [.ref (ad b_4), .int p0, .int r6]) [] (fun z2 h2 => cX2_gather_ok (cx_l X) N b_4 p0 r6 μ z2 h2) ok_X2_gather lm_X10_262 atC4.1 atC4.2 rfl rfl (fun _ _ => rfl) (Nat.le_of_ble_eq_true rfl) ⟨rfl, rfl, by decide, by decide⟩ (csk hcs (by decide) (by decide)) dX10_back_48 (fun μ => ?_)
  refine G_lload_n hX 0 rfl rfl dX10_back_51 ?_
  refine G_aload_n hX 1 rfl rfl dX10_back_52 ?_
  refine gf_X10_47_C0 hX dX10_back_53 ?_
  refine G_iconst hX (1 : Int32) rfl dX10_back_56 ?_
  refine G_iconst hX (0 : Int32) rfl dX10_back_57 ?_
  refine G_cVl hX 4 2 (fun ad adK => [.int (1 : Int32), .int (0 : Int32)]) [.long r3] (fun z2 h2 => cX2_sumAt_ok (cx_l X) N (1 : Int32) (0 : Int32) μ z2 h2) ok_X2_sumAt lm_X10_291 atC4.1 atC4.2 rfl rfl (fun _ _ => rfl) (Nat.le_of_ble_eq_true rfl) ⟨rfl, rfl, by decide, by decide⟩ (csk hcs (by decide) (by decide)) dX10_back_58 (fun r7 μ => ?_)
  refine G_lsub hX dX10_back_61 ?_
  exact G_lretX hX hQ hcs ⟨by decide, by decide⟩ dX10_back_62
theorem cX10_back_ok (l : Launch) (hl0 : l.stackTraces = false) (N : Nat) (p0 : Int32) (μ : Mem) (z : (Int64 ⊕ Nat) × Mem) (h : fX10_back N p0 μ = some z) : El wC l yX10_back cX10_back 4 .long (rmx 7 174 1 6) 1 6 (fun ad adK => [.ref (ad 0), .int p0]) μ z := El.of hl0 h (by decide +kernel) (fun _ _ => Nat.le_of_ble_eq_true rfl) (fun X hX hQ hcs => gX10_back_E hX hQ hcs N p0 μ)
/-! ===== DutyCase.weight(I)I ===== -/
set_option maxHeartbeats 4000000 in
set_option maxRecDepth 100000 in
theorem gX10_weight_E {X : Ctx} {z : (Int32 ⊕ Nat) × Mem} (hX : Fx wC X cX10_weight 3 RX10 (some .int) (rmx 7 172 1 6)) (hQ : Qy (Qe_i wC z) wC X z 1 6) (hcs : cx_cells X = 0 ∧ cx_slots X = 0) (N : Nat) (p0 : Int32) (μ : Mem) : G wC X z 0 [(0, .ref (cx_ad X 0)), (1, .int p0)] [] μ (fX10_weight N p0 μ) := by
  unfold fX10_weight
  refine G_aload_n hX 0 rfl rfl dX10_weight_0 ?_
  refine G_iload_n hX 1 rfl rfl dX10_weight_1 ?_
  refine G_xV hX hQ (fun _ _ => rfl) hcs 0 10 (fun ad adK => [.int p0]) (fun ad adK => []) (fun ad adK => [(0, .ref (ad 0)), (1, .int p0)]) (fun z2 h2 => cX10_needSale_ok (cx_l X) hQ.2.1 N p0 μ z2 h2) ok_X10_needSale lm_X10_135 atC0.1 atC0.2 rfl rfl rfl (fun _ _ => rfl) (fun _ _ => Nat.le_of_ble_eq_true rfl) ⟨rfl, rfl, by decide, by decide⟩ ⟨by decide, by decide⟩ ⟨by decide, by decide⟩ dX10_weight_2 (fun X μ hX hQ hcs => ?_)
  refine G_aload_n hX 0 rfl rfl dX10_weight_5 ?_
  refine gf_X10_10_C0 hX dX10_weight_6 (fun b_1 hb_1 => ?_)
  refine gf_X10_91_B0 hX hb_1 dX10_weight_9 ?_
  refine gf_X10_141_B12 hX hb_1 dX10_weight_12 ?_
  refine G_iload_n hX 1 rfl rfl dX10_weight_15 ?_
  refine G_aI hX (atB_14 hb_1) dX10_weight_16 (fun x2 => ?_)
  refine G_istore_n hX [(2, .int x2), (0, .ref (cx_ad X 0)), (1, .int p0)] rfl (by decide) rfl dX10_weight_17 ?_
  refine G_aload_n hX 1 rfl rfl dX10_weight_18 ?_
  refine gf_X10_47_C0 hX dX10_weight_19 ?_
  refine G_aload_n hX 1 rfl rfl dX10_weight_22 ?_
  refine gf_X10_10_C0 hX dX10_weight_23 (fun b_3 hb_3 => ?_)
  refine G_iload_n hX 2 rfl rfl dX10_weight_26 ?_
  refine G_cVi hX 4 2 (fun ad adK => [.ref (ad b_3), .int p0]) [] (fun z2 h2 => cX2_marginWithout_ok (cx_l X) N b_3 p0 μ z2 h2) ok_X2_marginWithout lm_X10_366 atC4.1 atC4.2 rfl rfl (fun _ _ => rfl) (Nat.le_of_ble_eq_true rfl) ⟨rfl, rfl, by decide, by decide⟩ (csk hcs (by decide) (by decide)) dX10_weight_27 (fun r4 μ => ?_)
  refine G_aload_n hX 1 rfl rfl dX10_weight_30 ?_
  refine gf_X10_47_C0 hX dX10_weight_31 ?_
  refine G_aload_n hX 1 rfl rfl dX10_weight_34 ?_
  refine gf_X10_10_C0 hX dX10_weight_35 (fun b_5 hb_5 => ?_)
  refine G_iload_n hX 0 rfl rfl dX10_weight_38 ?_
  refine G_cVi hX 4 2 (fun ad adK => [.ref (ad b_5), .int x2]) [.int r4] (fun z2 h2 => cX2_marginNow_ok (cx_l X) N b_5 x2 μ z2 h2) ok_X2_marginNow lm_X10_370 atC4.1 atC4.2 rfl rfl (fun _ _ => rfl) (Nat.le_of_ble_eq_true rfl) ⟨rfl, rfl, by decide, by decide⟩ (csk hcs (by decide) (by decide)) dX10_weight_39 (fun r6 μ => ?_)
  refine G_isub hX dX10_weight_42 ?_
  exact G_iretX hX hQ hcs ⟨by decide, by decide⟩ dX10_weight_43
theorem cX10_weight_ok (l : Launch) (hl0 : l.stackTraces = false) (N : Nat) (p0 : Int32) (μ : Mem) (z : (Int32 ⊕ Nat) × Mem) (h : fX10_weight N p0 μ = some z) : Ei wC l yX10_weight cX10_weight 3 .int (rmx 7 172 1 6) 1 6 (fun ad adK => [.ref (ad 0), .int p0]) μ z := Ei.of hl0 h (by decide +kernel) (fun _ _ => Nat.le_of_ble_eq_true rfl) (fun X hX hQ hcs => gX10_weight_E hX hQ hcs N p0 μ)
/-! ===== DutyCase.heaviest(IZ)I ===== -/
set_option maxHeartbeats 4000000 in
set_option maxRecDepth 100000 in
theorem gX10_heaviest_22 {X : Ctx} {z : (Int32 ⊕ Nat) × Mem} (hX : Fx wC X cX10_heaviest 8 RX10 (some .int) (rmx 7 172 1 6)) (hQ : Qy (Qe_i wC z) wC X z 1 6) (hcs : cx_cells X = 1 ∧ cx_slots X = 6) (N : Nat) : ∀ (n : Nat) (b0 : Nat) (v1 : Int32) (v2 : Int32) (v4 : Int32) (v5 : Int32) (v6 : Int32) (hb0 : kB b0) (μ : Mem), G wC X z 22 [(0, .ref (cx_ad X 0)), (1, .int v1), (2, .int v2), (3, .ref (cx_ad X (b0 + 12))), (4, .int v4), (5, .int v5), (6, .int v6)] [] μ (fX10_heaviest_22 N n b0 v1 v2 v4 v5 v6 μ) := by
  intro n
  induction n with
  | zero =>
    intro b0 v1 v2 v4 v5 v6 hb0 μ
    exact G_none
  | succ n ih =>
    intro b0 v1 v2 v4 v5 v6 hb0 μ
    unfold fX10_heaviest_22
    refine G_iload hX 6 rfl dX10_heaviest_22 ?_
    refine G_aload_n hX 3 rfl rfl dX10_heaviest_24 ?_
    refine gf_X10_95_B12 hX hb0 dX10_heaviest_25 ?_
    refine G_nmi (fun x2 => ?_)
    refine G_icmp_ge hX 108 (by decide) dX10_heaviest_28 ?_ ?_
    · refine G_iload hX 4 rfl dX10_heaviest_108 ?_
      exact G_iretX hX hQ hcs ⟨by decide, by decide⟩ dX10_heaviest_110
    · refine G_aload_n hX 3 rfl rfl dX10_heaviest_31 ?_
      refine gf_X10_197_B12 hX hb0 dX10_heaviest_32 ?_
      refine G_iload hX 6 rfl dX10_heaviest_35 ?_
      refine G_aZ hX (atB_22 hb0) dX10_heaviest_37 (fun x3 => ?_)
      refine G_if_eq hX 102 (by decide) dX10_heaviest_38 ?_ ?_
      · refine G_iincN hX 6 (fun x4 => [(6, .int x4), (0, .ref (cx_ad X 0)), (1, .int v1), (2, .int v2), (3, .ref (cx_ad X (b0 + 12))), (4, .int v4), (5, .int v5)]) rfl rfl (by decide) (fun _ => rfl) dX10_heaviest_102 (fun x4 => ?_)
        refine G_goto hX 22 (by decide) dX10_heaviest_105 ?_
        exact G_sub [1, 2, 3, 4, 5, 6, 0] rfl (ih b0 v1 v2 v4 v5 x4 hb0 μ)
      · refine G_aload_n hX 3 rfl rfl dX10_heaviest_41 ?_
        refine gf_X10_141_B12 hX hb0 dX10_heaviest_42 ?_
        refine G_iload hX 6 rfl dX10_heaviest_45 ?_
        refine G_aI hX (atB_14 hb0) dX10_heaviest_47 (fun x5 => ?_)
        refine G_iload_n hX 1 rfl rfl dX10_heaviest_48 ?_
        refine G_icmp_ne hX 102 (by decide) dX10_heaviest_49 ?_ ?_
        · refine G_iincN hX 6 (fun x6 => [(6, .int x6), (0, .ref (cx_ad X 0)), (1, .int v1), (2, .int v2), (3, .ref (cx_ad X (b0 + 12))), (4, .int v4), (5, .int v5)]) rfl rfl (by decide) (fun _ => rfl) dX10_heaviest_102 (fun x6 => ?_)
          refine G_goto hX 22 (by decide) dX10_heaviest_105 ?_
          exact G_sub [1, 2, 3, 4, 5, 6, 0] rfl (ih b0 v1 v2 v4 v5 x6 hb0 μ)
        · refine G_aload_n hX 0 rfl rfl dX10_heaviest_52 ?_
          refine gf_X10_47_C0 hX dX10_heaviest_53 ?_
          refine G_aload_n hX 0 rfl rfl dX10_heaviest_56 ?_
          refine gf_X10_10_C0 hX dX10_heaviest_57 (fun b_7 hb_7 => ?_)
          refine G_iload hX 6 rfl dX10_heaviest_60 ?_
          refine G_cVi hX 4 2 (fun ad adK => [.ref (ad b_7), .int v6]) [] (fun z2 h2 => cX2_marginWithout_ok (cx_l X) N b_7 v6 μ z2 h2) ok_X2_marginWithout lm_X10_366 atC4.1 atC4.2 rfl rfl (fun _ _ => rfl) (Nat.le_of_ble_eq_true rfl) ⟨rfl, rfl, by decide, by decide⟩ (csk hcs (by decide) (by decide)) dX10_heaviest_62 (fun r8 μ => ?_)
          refine G_istore hX [(7, .int r8), (0, .ref (cx_ad X 0)), (1, .int v1), (2, .int v2), (3, .ref (cx_ad X (b0 + 12))), (4, .int v4), (5, .int v5), (6, .int v6)] (by decide) rfl dX10_heaviest_65 ?_
          refine G_iload hX 5 rfl dX10_heaviest_67 ?_
          refine G_iconst hX (-1 : Int32) rfl dX10_heaviest_69 ?_
          refine G_icmp_eq hX 94 (by decide) dX10_heaviest_70 ?_ ?_
          · refine G_iload hX 7 rfl dX10_heaviest_94 ?_
            refine G_istore hX [(4, .int v6), (7, .int r8), (0, .ref (cx_ad X 0)), (1, .int v1), (2, .int v2), (3, .ref (cx_ad X (b0 + 12))), (5, .int v5), (6, .int v6)] (by decide) rfl dX10_heaviest_96 ?_
            refine G_iload hX 1 rfl dX10_heaviest_98 ?_
            refine G_istore hX [(5, .int r8), (4, .int v6), (7, .int r8), (0, .ref (cx_ad X 0)), (1, .int v1), (2, .int v2), (3, .ref (cx_ad X (b0 + 12))), (6, .int v6)] (by decide) rfl dX10_heaviest_100 ?_
            refine G_iincN hX 7 (fun x9 => [(6, .int x9), (5, .int r8), (4, .int v6), (7, .int r8), (0, .ref (cx_ad X 0)), (1, .int v1), (2, .int v2), (3, .ref (cx_ad X (b0 + 12)))]) rfl rfl (by decide) (fun _ => rfl) dX10_heaviest_102 (fun x9 => ?_)
            refine G_goto hX 22 (by decide) dX10_heaviest_105 ?_
            exact G_sub [4, 5, 6, 7, 2, 1, 0] rfl (ih b0 v1 v2 v6 r8 x9 hb0 μ)
          · refine G_iload_n hX 3 rfl rfl dX10_heaviest_73 ?_
            refine G_if_eq hX 87 (by decide) dX10_heaviest_74 ?_ ?_
            · refine G_iload hX 0 rfl dX10_heaviest_87 ?_
              refine G_iload hX 6 rfl dX10_heaviest_89 ?_
              refine G_icmp_le hX 102 (by decide) dX10_heaviest_91 ?_ ?_
              · refine G_iincN hX 7 (fun x10 => [(6, .int x10), (7, .int r8), (0, .ref (cx_ad X 0)), (1, .int v1), (2, .int v2), (3, .ref (cx_ad X (b0 + 12))), (4, .int v4), (5, .int v5)]) rfl rfl (by decide) (fun _ => rfl) dX10_heaviest_102 (fun x10 => ?_)
                refine G_goto hX 22 (by decide) dX10_heaviest_105 ?_
                exact G_sub [2, 3, 4, 5, 6, 7, 0] rfl (ih b0 v1 v2 v4 v5 x10 hb0 μ)
              · refine G_iload hX 7 rfl dX10_heaviest_94 ?_
                refine G_istore hX [(4, .int v6), (7, .int r8), (0, .ref (cx_ad X 0)), (1, .int v1), (2, .int v2), (3, .ref (cx_ad X (b0 + 12))), (5, .int v5), (6, .int v6)] (by decide) rfl dX10_heaviest_96 ?_
                refine G_iload hX 1 rfl dX10_heaviest_98 ?_
                refine G_istore hX [(5, .int r8), (4, .int v6), (7, .int r8), (0, .ref (cx_ad X 0)), (1, .int v1), (2, .int v2), (3, .ref (cx_ad X (b0 + 12))), (6, .int v6)] (by decide) rfl dX10_heaviest_100 ?_
                refine G_iincN hX 7 (fun x11 => [(6, .int x11), (5, .int r8), (4, .int v6), (7, .int r8), (0, .ref (cx_ad X 0)), (1, .int v1), (2, .int v2), (3, .ref (cx_ad X (b0 + 12)))]) rfl rfl (by decide) (fun _ => rfl) dX10_heaviest_102 (fun x11 => ?_)
                refine G_goto hX 22 (by decide) dX10_heaviest_105 ?_
                exact G_sub [4, 5, 6, 7, 2, 1, 0] rfl (ih b0 v1 v2 v6 r8 x11 hb0 μ)
            · refine G_iload hX 0 rfl dX10_heaviest_77 ?_
              refine G_iload hX 6 rfl dX10_heaviest_79 ?_
              refine G_icmp_ge hX 102 (by decide) dX10_heaviest_81 ?_ ?_
              · refine G_iincN hX 7 (fun x12 => [(6, .int x12), (7, .int r8), (0, .ref (cx_ad X 0)), (1, .int v1), (2, .int v2), (3, .ref (cx_ad X (b0 + 12))), (4, .int v4), (5, .int v5)]) rfl rfl (by decide) (fun _ => rfl) dX10_heaviest_102 (fun x12 => ?_)
                refine G_goto hX 22 (by decide) dX10_heaviest_105 ?_
                exact G_sub [2, 3, 4, 5, 6, 7, 0] rfl (ih b0 v1 v2 v4 v5 x12 hb0 μ)
              · refine G_goto hX 94 (by decide) dX10_heaviest_84 ?_
                refine G_iload hX 7 rfl dX10_heaviest_94 ?_
                refine G_istore hX [(4, .int v6), (7, .int r8), (0, .ref (cx_ad X 0)), (1, .int v1), (2, .int v2), (3, .ref (cx_ad X (b0 + 12))), (5, .int v5), (6, .int v6)] (by decide) rfl dX10_heaviest_96 ?_
                refine G_iload hX 1 rfl dX10_heaviest_98 ?_
                refine G_istore hX [(5, .int r8), (4, .int v6), (7, .int r8), (0, .ref (cx_ad X 0)), (1, .int v1), (2, .int v2), (3, .ref (cx_ad X (b0 + 12))), (6, .int v6)] (by decide) rfl dX10_heaviest_100 ?_
                refine G_iincN hX 7 (fun x13 => [(6, .int x13), (5, .int r8), (4, .int v6), (7, .int r8), (0, .ref (cx_ad X 0)), (1, .int v1), (2, .int v2), (3, .ref (cx_ad X (b0 + 12)))]) rfl rfl (by decide) (fun _ => rfl) dX10_heaviest_102 (fun x13 => ?_)
                refine G_goto hX 22 (by decide) dX10_heaviest_105 ?_
                exact G_sub [4, 5, 6, 7, 2, 1, 0] rfl (ih b0 v1 v2 v6 r8 x13 hb0 μ)
set_option maxHeartbeats 4000000 in
set_option maxRecDepth 100000 in
theorem gX10_heaviest_E {X : Ctx} {z : (Int32 ⊕ Nat) × Mem} (hX : Fx wC X cX10_heaviest 8 RX10 (some .int) (rmx 7 172 1 6)) (hQ : Qy (Qe_i wC z) wC X z 1 6) (hcs : cx_cells X = 0 ∧ cx_slots X = 0) (N : Nat) (p0 : Int32) (p1 : Int32) (μ : Mem) : G wC X z 0 [(0, .ref (cx_ad X 0)), (1, .int p0), (2, .int p1)] [] μ (fX10_heaviest N p0 p1 μ) := by
  unfold fX10_heaviest
  refine G_aload_n hX 0 rfl rfl dX10_heaviest_0 ?_
  refine G_iload_n hX 1 rfl rfl dX10_heaviest_1 ?_
  refine G_xV hX hQ (fun _ _ => rfl) hcs 0 10 (fun ad adK => [.int p0]) (fun ad adK => []) (fun ad adK => [(0, .ref (ad 0)), (1, .int p0), (2, .int p1)]) (fun z2 h2 => cX10_needFirm_ok (cx_l X) hQ.2.1 N p0 μ z2 h2) ok_X10_needFirm lm_X10_98 atC0.1 atC0.2 rfl rfl rfl (fun _ _ => rfl) (fun _ _ => Nat.le_of_ble_eq_true rfl) ⟨rfl, rfl, by decide, by decide⟩ ⟨by decide, by decide⟩ ⟨by decide, by decide⟩ dX10_heaviest_2 (fun X μ hX hQ hcs => ?_)
  refine G_aload_n hX 0 rfl rfl dX10_heaviest_5 ?_
  refine gf_X10_10_C0 hX dX10_heaviest_6 (fun b_1 hb_1 => ?_)
  refine gf_X10_91_B0 hX hb_1 dX10_heaviest_9 ?_
  refine G_astore_n hX [(3, .ref (cx_ad X (b_1 + 12))), (0, .ref (cx_ad X 0)), (1, .int p0), (2, .int p1)] rfl (by decide) rfl dX10_heaviest_12 ?_
  refine G_iconst hX (-1 : Int32) rfl dX10_heaviest_13 ?_
  refine G_istore hX [(4, .int (-1 : Int32)), (3, .ref (cx_ad X (b_1 + 12))), (0, .ref (cx_ad X 0)), (1, .int p0), (2, .int p1)] (by decide) rfl dX10_heaviest_14 ?_
  refine G_iconst hX (0 : Int32) rfl dX10_heaviest_16 ?_
  refine G_istore hX [(5, .int (0 : Int32)), (4, .int (-1 : Int32)), (3, .ref (cx_ad X (b_1 + 12))), (0, .ref (cx_ad X 0)), (1, .int p0), (2, .int p1)] (by decide) rfl dX10_heaviest_17 ?_
  refine G_iconst hX (0 : Int32) rfl dX10_heaviest_19 ?_
  refine G_istore hX [(6, .int (0 : Int32)), (5, .int (0 : Int32)), (4, .int (-1 : Int32)), (3, .ref (cx_ad X (b_1 + 12))), (0, .ref (cx_ad X 0)), (1, .int p0), (2, .int p1)] (by decide) rfl dX10_heaviest_20 ?_
  exact G_sub [4, 5, 6, 3, 2, 1, 0] rfl (gX10_heaviest_22 hX hQ hcs N N b_1 p0 p1 (-1 : Int32) (0 : Int32) (0 : Int32) hb_1 μ)
theorem cX10_heaviest_ok (l : Launch) (hl0 : l.stackTraces = false) (N : Nat) (p0 : Int32) (p1 : Int32) (μ : Mem) (z : (Int32 ⊕ Nat) × Mem) (h : fX10_heaviest N p0 p1 μ = some z) : Ei wC l yX10_heaviest cX10_heaviest 8 .int (rmx 7 172 1 6) 1 6 (fun ad adK => [.ref (ad 0), .int p0, .int p1]) μ z := Ei.of hl0 h (by decide +kernel) (fun _ _ => Nat.le_of_ble_eq_true rfl) (fun X hX hQ hcs => gX10_heaviest_E hX hQ hcs N p0 p1 μ)
/-! ===== DutyCase.ranked(I)I ===== -/
set_option maxHeartbeats 4000000 in
set_option maxRecDepth 100000 in
theorem gX10_ranked_33 {X : Ctx} {z : Int32 × Mem} (hX : Fx wC X cX10_ranked 3 RX10 (some .int) (rmo 7 174)) (hQ : Qx_i wC X z) (hcs : cx_cells X = 0 ∧ cx_slots X = 0) (N : Nat) : ∀ (n : Nat) (v1 : Int32) (v2 : Int32) (μ : Mem), G wC X z 33 [(0, .ref (cx_ad X 0)), (1, .int v1), (2, .int v2)] [] μ (fX10_ranked_33 N n v1 v2 μ) := by
  intro n
  induction n with
  | zero =>
    intro v1 v2 μ
    exact G_none
  | succ n ih =>
    intro v1 v2 μ
    unfold fX10_ranked_33
    refine G_iload_n hX 2 rfl rfl dX10_ranked_33 ?_
    refine G_aload_n hX 0 rfl rfl dX10_ranked_34 ?_
    refine gf_X10_10_C0 hX dX10_ranked_35 (fun b_4 hb_4 => ?_)
    refine gf_X10_101_B0 hX hb_4 dX10_ranked_38 ?_
    refine gf_X10_373_B4 hX hb_4 dX10_ranked_41 ?_
    refine G_nmi (fun x5 => ?_)
    refine G_icmp_ge hX 77 (by decide) dX10_ranked_44 ?_ ?_
    · refine G_iconst hX (-1 : Int32) rfl dX10_ranked_77 ?_
      exact G_iret hX hQ dX10_ranked_78
    · refine G_aload_n hX 0 rfl rfl dX10_ranked_47 ?_
      refine gf_X10_56_C0 hX dX10_ranked_48 ?_
      refine G_iload_n hX 2 rfl rfl dX10_ranked_51 ?_
      refine G_aload_n hX 0 rfl rfl dX10_ranked_52 ?_
      refine gf_X10_10_C0 hX dX10_ranked_53 (fun b_6 hb_6 => ?_)
      refine gf_X10_101_B0 hX hb_6 dX10_ranked_56 ?_
      refine gf_X10_373_B4 hX hb_6 dX10_ranked_59 ?_
      refine G_nmi (fun x7 => ?_)
      refine G_cVi hX 5 3 (fun ad adK => [.int v2, .int x7]) [] (fun z2 h2 => cX3_placeOf_ok (cx_l X) N v2 x7 μ z2 h2) ok_X3_placeOf lm_X10_374 atC5.1 atC5.2 rfl rfl (fun _ _ => rfl) (Nat.le_of_ble_eq_true rfl) ⟨rfl, rfl, by decide, by decide⟩ (cs0 hcs) dX10_ranked_62 (fun r8 μ => ?_)
      refine G_iload_n hX 1 rfl rfl dX10_ranked_65 ?_
      refine G_icmp_ne hX 71 (by decide) dX10_ranked_66 ?_ ?_
      · refine G_iincN hX 2 (fun x9 => [(2, .int x9), (0, .ref (cx_ad X 0)), (1, .int v1)]) rfl rfl (by decide) (fun _ => rfl) dX10_ranked_71 (fun x9 => ?_)
        refine G_goto hX 33 (by decide) dX10_ranked_74 ?_
        exact G_sub [1, 2, 0] rfl (ih v1 x9 μ)
      · refine G_iload_n hX 2 rfl rfl dX10_ranked_69 ?_
        exact G_iret hX hQ dX10_ranked_70
set_option maxHeartbeats 4000000 in
set_option maxRecDepth 100000 in
theorem gX10_ranked_E {X : Ctx} {z : Int32 × Mem} (hX : Fx wC X cX10_ranked 3 RX10 (some .int) (rmo 7 174)) (hQ : Qx_i wC X z) (hcs : cx_cells X = 0 ∧ cx_slots X = 0) (N : Nat) (p0 : Int32) (μ : Mem) : G wC X z 0 [(0, .ref (cx_ad X 0)), (1, .int p0)] [] μ (fX10_ranked N p0 μ) := by
  unfold fX10_ranked
  refine G_iload_n hX 1 rfl rfl dX10_ranked_0 ?_
  refine G_if_lt hX 18 (by decide) dX10_ranked_1 ?_ ?_
  · refine G_iconst hX (-1 : Int32) rfl dX10_ranked_18 ?_
    exact G_iret hX hQ dX10_ranked_19
  · refine G_iload_n hX 1 rfl rfl dX10_ranked_4 ?_
    refine G_aload_n hX 0 rfl rfl dX10_ranked_5 ?_
    refine gf_X10_10_C0 hX dX10_ranked_6 (fun b_1 hb_1 => ?_)
    refine gf_X10_101_B0 hX hb_1 dX10_ranked_9 ?_
    refine gf_X10_373_B4 hX hb_1 dX10_ranked_12 ?_
    refine G_nmi (fun x2 => ?_)
    refine G_icmp_lt hX 20 (by decide) dX10_ranked_15 ?_ ?_
    · refine G_aload_n hX 0 rfl rfl dX10_ranked_20 ?_
      refine gf_X10_56_C0 hX dX10_ranked_21 ?_
      refine G_aload_n hX 0 rfl rfl dX10_ranked_24 ?_
      refine gf_X10_10_C0 hX dX10_ranked_25 (fun b_3 hb_3 => ?_)
      refine G_cVv hX 5 3 (fun ad adK => [.ref (ad b_3)]) [] (fun z2 h2 => cX3_assess_ok (cx_l X) N b_3 μ z2 h2) ok_X3_assess lm_X10_309 atC5.1 atC5.2 rfl rfl (fun _ _ => rfl) (Nat.le_of_ble_eq_true rfl) ⟨rfl, rfl, by decide, by decide⟩ (cs0 hcs) dX10_ranked_28 (fun μ => ?_)
      refine G_iconst hX (0 : Int32) rfl dX10_ranked_31 ?_
      refine G_istore_n hX [(2, .int (0 : Int32)), (0, .ref (cx_ad X 0)), (1, .int p0)] rfl (by decide) rfl dX10_ranked_32 ?_
      exact G_sub [1, 2, 0] rfl (gX10_ranked_33 hX hQ hcs N N p0 (0 : Int32) μ)
    · refine G_iconst hX (-1 : Int32) rfl dX10_ranked_18 ?_
      exact G_iret hX hQ dX10_ranked_19
theorem cX10_ranked_ok (l : Launch) (N : Nat) (p0 : Int32) (μ : Mem) (z : Int32 × Mem) (h : fX10_ranked N p0 μ = some z) : Mi wC l yX10_ranked cX10_ranked 3 .int (rmo 7 174) (fun ad adK => [.ref (ad 0), .int p0]) μ z := Mi.of h (by decide +kernel) (fun _ _ => Nat.le_of_ble_eq_true rfl) (fun X hX hQ hl hcs => gX10_ranked_E hX hQ hcs N p0 μ)
/-! ===== DutyCase.write(I)I ===== -/
set_option maxHeartbeats 4000000 in
set_option maxRecDepth 100000 in
theorem gX10_write_123 {X : Ctx} {z : (Int32 ⊕ Nat) × Mem} (hX : Fx wC X cX10_write 3 RX10 (some .int) (rmx 7 174 1 6)) (hQ : Qy (Qe_i wC z) wC X z 1 6) (hcs : cx_cells X = 1 ∧ cx_slots X = 6) (N : Nat) (v1 : Int32) (μ : Mem) : G wC X z 123 [(0, .ref (cx_ad X 0)), (1, .int v1)] [] μ (fX10_write_123 N v1 μ) := by
  unfold fX10_write_123
  refine G_aload_n hX 0 rfl rfl dX10_write_123 ?_
  refine gf_X10_56_C0 hX dX10_write_124 ?_
  refine gf_X10_306_C5 hX dX10_write_127 ?_
  refine G_iload_n hX 1 rfl rfl dX10_write_130 ?_
  refine G_aZ hX atC27 dX10_write_131 (fun x10 => ?_)
  refine G_if_eq hX 145 (by decide) dX10_write_132 ?_ ?_
  · refine G_aload_n hX 0 rfl rfl dX10_write_145 ?_
    refine gf_X10_63_C0 hX dX10_write_146 ?_
    refine gf_X10_377_C6 hX dX10_write_149 ?_
    refine G_nmi (fun x11 => ?_)
    exact G_iretX hX hQ hcs ⟨by decide, by decide⟩ dX10_write_152
  · refine G_aload_n hX 0 rfl rfl dX10_write_135 ?_
    refine gf_X10_63_C0 hX dX10_write_136 ?_
    refine G_ldcSw hX (tx := " negligible") 29 (by decide +kernel) dX10_write_139 ?_
    refine G_cVv hX 6 6 (fun ad adK => [.ref (adK 29)]) [] (fun z2 h2 => cX6_addText_ok (cx_l X) N 29 μ z2 h2) ok_X6_addText lm_X10_388 atC6.1 atC6.2 rfl rfl (fun _ _ => rfl) (Nat.le_of_ble_eq_true rfl) ⟨rfl, rfl, by decide, by decide⟩ (csk hcs (by decide) (by decide)) dX10_write_142 (fun μ => ?_)
    refine G_aload_n hX 0 rfl rfl dX10_write_145 ?_
    refine gf_X10_63_C0 hX dX10_write_146 ?_
    refine gf_X10_377_C6 hX dX10_write_149 ?_
    refine G_nmi (fun x12 => ?_)
    exact G_iretX hX hQ hcs ⟨by decide, by decide⟩ dX10_write_152
set_option maxHeartbeats 4000000 in
set_option maxRecDepth 100000 in
theorem gX10_write_67 {X : Ctx} {z : (Int32 ⊕ Nat) × Mem} (hX : Fx wC X cX10_write 3 RX10 (some .int) (rmx 7 174 1 6)) (hQ : Qy (Qe_i wC z) wC X z 1 6) (hcs : cx_cells X = 1 ∧ cx_slots X = 6) (N : Nat) (v1 : Int32) (μ : Mem) : G wC X z 67 [(0, .ref (cx_ad X 0)), (1, .int v1)] [] μ (fX10_write_67 N v1 μ) := by
  unfold fX10_write_67
  refine G_aload_n hX 0 rfl rfl dX10_write_67 ?_
  refine gf_X10_63_C0 hX dX10_write_68 ?_
  refine G_bipush hX (32 : Int32) rfl dX10_write_71 ?_
  refine G_cVv hX 6 6 (fun ad adK => [.int (32 : Int32)]) [] (fun z2 h2 => cX6_add_ok (cx_l X) N (32 : Int32) μ z2 h2) ok_X6_add lm_X10_381 atC6.1 atC6.2 rfl rfl (fun _ _ => rfl) (Nat.le_of_ble_eq_true rfl) ⟨rfl, rfl, by decide, by decide⟩ (csk hcs (by decide) (by decide)) dX10_write_73 (fun μ => ?_)
  refine G_aload_n hX 0 rfl rfl dX10_write_76 ?_
  refine gf_X10_63_C0 hX dX10_write_77 ?_
  refine G_aload_n hX 0 rfl rfl dX10_write_80 ?_
  refine gf_X10_56_C0 hX dX10_write_81 ?_
  refine gf_X10_321_C5 hX dX10_write_84 ?_
  refine G_iload_n hX 1 rfl rfl dX10_write_87 ?_
  refine G_aI hX atC26 dX10_write_88 (fun x7 => ?_)
  refine G_cVv hX 6 6 (fun ad adK => [.int x7]) [] (fun z2 h2 => cX6_addHundredths_ok (cx_l X) N x7 μ z2 h2) ok_X6_addHundredths lm_X10_383 atC6.1 atC6.2 rfl rfl (fun _ _ => rfl) (Nat.le_of_ble_eq_true rfl) ⟨rfl, rfl, by decide, by decide⟩ (csk hcs (by decide) (by decide)) dX10_write_89 (fun μ => ?_)
  refine G_aload_n hX 0 rfl rfl dX10_write_92 ?_
  refine gf_X10_63_C0 hX dX10_write_93 ?_
  refine G_bipush hX (37 : Int32) rfl dX10_write_96 ?_
  refine G_cVv hX 6 6 (fun ad adK => [.int (37 : Int32)]) [] (fun z2 h2 => cX6_add_ok (cx_l X) N (37 : Int32) μ z2 h2) ok_X6_add lm_X10_381 atC6.1 atC6.2 rfl rfl (fun _ _ => rfl) (Nat.le_of_ble_eq_true rfl) ⟨rfl, rfl, by decide, by decide⟩ (csk hcs (by decide) (by decide)) dX10_write_98 (fun μ => ?_)
  refine G_aload_n hX 0 rfl rfl dX10_write_101 ?_
  refine gf_X10_10_C0 hX dX10_write_102 (fun b_8 hb_8 => ?_)
  refine gf_X10_219_B0 hX hb_8 dX10_write_105 ?_
  refine G_iload_n hX 1 rfl rfl dX10_write_108 ?_
  refine G_aZ hX (atB_27 hb_8) dX10_write_109 (fun x9 => ?_)
  refine G_if_eq hX 123 (by decide) dX10_write_110 ?_ ?_
  · exact G_sub [0, 1] rfl (gX10_write_123 hX hQ hcs N v1 μ)
  · refine G_aload_n hX 0 rfl rfl dX10_write_113 ?_
    refine gf_X10_63_C0 hX dX10_write_114 ?_
    refine G_ldcSw hX (tx := " silent") 28 (by decide +kernel) dX10_write_117 ?_
    refine G_cVv hX 6 6 (fun ad adK => [.ref (adK 28)]) [] (fun z2 h2 => cX6_addText_ok (cx_l X) N 28 μ z2 h2) ok_X6_addText lm_X10_388 atC6.1 atC6.2 rfl rfl (fun _ _ => rfl) (Nat.le_of_ble_eq_true rfl) ⟨rfl, rfl, by decide, by decide⟩ (csk hcs (by decide) (by decide)) dX10_write_120 (fun μ => ?_)
    exact G_sub [0, 1] rfl (gX10_write_123 hX hQ hcs N v1 μ)
set_option maxHeartbeats 4000000 in
set_option maxRecDepth 100000 in
theorem gX10_write_26 {X : Ctx} {z : (Int32 ⊕ Nat) × Mem} (hX : Fx wC X cX10_write 3 RX10 (some .int) (rmx 7 174 1 6)) (hQ : Qy (Qe_i wC z) wC X z 1 6) (hcs : cx_cells X = 1 ∧ cx_slots X = 6) (N : Nat) : ∀ (n : Nat) (v1 : Int32) (v2 : Int32) (μ : Mem), G wC X z 26 [(0, .ref (cx_ad X 0)), (1, .int v1), (2, .int v2)] [] μ (fX10_write_26 N n v1 v2 μ) := by
  intro n
  induction n with
  | zero =>
    intro v1 v2 μ
    exact G_none
  | succ n ih =>
    intro v1 v2 μ
    unfold fX10_write_26
    refine G_iload_n hX 2 rfl rfl dX10_write_26 ?_
    refine G_aload_n hX 0 rfl rfl dX10_write_27 ?_
    refine gf_X10_10_C0 hX dX10_write_28 (fun b_2 hb_2 => ?_)
    refine gf_X10_101_B0 hX hb_2 dX10_write_31 ?_
    refine gf_X10_378_B4 hX hb_2 dX10_write_34 ?_
    refine G_iload_n hX 1 rfl rfl dX10_write_37 ?_
    refine G_aI hX (atB_6 hb_2) dX10_write_38 (fun x3 => ?_)
    refine G_icmp_ge hX 67 (by decide) dX10_write_39 ?_ ?_
    · exact G_sub [0, 1] rfl (gX10_write_67 hX hQ hcs N v1 μ)
    · refine G_aload_n hX 0 rfl rfl dX10_write_42 ?_
      refine gf_X10_63_C0 hX dX10_write_43 ?_
      refine G_aload_n hX 0 rfl rfl dX10_write_46 ?_
      refine gf_X10_10_C0 hX dX10_write_47 (fun b_4 hb_4 => ?_)
      refine gf_X10_101_B0 hX hb_4 dX10_write_50 ?_
      refine G_iload_n hX 1 rfl rfl dX10_write_53 ?_
      refine G_iload_n hX 2 rfl rfl dX10_write_54 ?_
      refine G_cVi hX (b_4 + 4) 4 (fun ad adK => [.int v1, .int v2]) [.ref (cx_ad X 6)] (fun z2 h2 => cX4_letterAt_ok (cx_l X) N (b_4 + 4) v1 v2 μ z2 h2) ok_X4_letterAt lm_X10_105 (atB_4 hb_4).1 (atB_4 hb_4).2 rfl rfl (fun _ _ => rfl) (Nat.le_of_ble_eq_true rfl) ⟨rfl, rfl, by decide, by decide⟩ (csk hcs (by decide) (by decide)) dX10_write_55 (fun r5 μ => ?_)
      refine G_cVv hX 6 6 (fun ad adK => [.int r5]) [] (fun z2 h2 => cX6_add_ok (cx_l X) N r5 μ z2 h2) ok_X6_add lm_X10_381 atC6.1 atC6.2 rfl rfl (fun _ _ => rfl) (Nat.le_of_ble_eq_true rfl) ⟨rfl, rfl, by decide, by decide⟩ (csk hcs (by decide) (by decide)) dX10_write_58 (fun μ => ?_)
      refine G_iincN hX 2 (fun x6 => [(2, .int x6), (0, .ref (cx_ad X 0)), (1, .int v1)]) rfl rfl (by decide) (fun _ => rfl) dX10_write_61 (fun x6 => ?_)
      refine G_goto hX 26 (by decide) dX10_write_64 ?_
      exact G_sub [1, 2, 0] rfl (ih v1 x6 μ)
set_option maxHeartbeats 4000000 in
set_option maxRecDepth 100000 in
theorem gX10_write_E {X : Ctx} {z : (Int32 ⊕ Nat) × Mem} (hX : Fx wC X cX10_write 3 RX10 (some .int) (rmx 7 174 1 6)) (hQ : Qy (Qe_i wC z) wC X z 1 6) (hcs : cx_cells X = 0 ∧ cx_slots X = 0) (N : Nat) (p0 : Int32) (μ : Mem) : G wC X z 0 [(0, .ref (cx_ad X 0)), (1, .int p0)] [] μ (fX10_write N p0 μ) := by
  unfold fX10_write
  refine G_aload_n hX 0 rfl rfl dX10_write_0 ?_
  refine G_iload_n hX 1 rfl rfl dX10_write_1 ?_
  refine G_xV hX hQ (fun _ _ => rfl) hcs 0 10 (fun ad adK => [.int p0]) (fun ad adK => []) (fun ad adK => [(0, .ref (ad 0)), (1, .int p0)]) (fun z2 h2 => cX10_needFirm_ok (cx_l X) hQ.2.1 N p0 μ z2 h2) ok_X10_needFirm lm_X10_98 atC0.1 atC0.2 rfl rfl rfl (fun _ _ => rfl) (fun _ _ => Nat.le_of_ble_eq_true rfl) ⟨rfl, rfl, by decide, by decide⟩ ⟨by decide, by decide⟩ ⟨by decide, by decide⟩ dX10_write_2 (fun X μ hX hQ hcs => ?_)
  refine G_aload_n hX 0 rfl rfl dX10_write_5 ?_
  refine gf_X10_56_C0 hX dX10_write_6 ?_
  refine G_aload_n hX 0 rfl rfl dX10_write_9 ?_
  refine gf_X10_10_C0 hX dX10_write_10 (fun b_1 hb_1 => ?_)
  refine G_cVv hX 5 3 (fun ad adK => [.ref (ad b_1)]) [] (fun z2 h2 => cX3_assess_ok (cx_l X) N b_1 μ z2 h2) ok_X3_assess lm_X10_309 atC5.1 atC5.2 rfl rfl (fun _ _ => rfl) (Nat.le_of_ble_eq_true rfl) ⟨rfl, rfl, by decide, by decide⟩ (csk hcs (by decide) (by decide)) dX10_write_13 (fun μ => ?_)
  refine G_aload_n hX 0 rfl rfl dX10_write_16 ?_
  refine gf_X10_63_C0 hX dX10_write_17 ?_
  refine G_iconst hX (0 : Int32) rfl dX10_write_20 ?_
  refine pf_X10_377_C6 hX dX10_write_21 (fun μ => ?_)
  refine G_iconst hX (0 : Int32) rfl dX10_write_24 ?_
  refine G_istore_n hX [(2, .int (0 : Int32)), (0, .ref (cx_ad X 0)), (1, .int p0)] rfl (by decide) rfl dX10_write_25 ?_
  exact G_sub [1, 2, 0] rfl (gX10_write_26 hX hQ hcs N N p0 (0 : Int32) μ)
theorem cX10_write_ok (l : Launch) (hl0 : l.stackTraces = false) (N : Nat) (p0 : Int32) (μ : Mem) (z : (Int32 ⊕ Nat) × Mem) (h : fX10_write N p0 μ = some z) : Ei wC l yX10_write cX10_write 3 .int (rmx 7 174 1 6) 1 6 (fun ad adK => [.ref (ad 0), .int p0]) μ z := Ei.of hl0 h (by decide +kernel) (fun _ _ => Nat.le_of_ble_eq_true rfl) (fun X hX hQ hcs => gX10_write_E hX hQ hcs N p0 μ)
/-! ===== DutyCase.octet(I)I ===== -/
set_option maxHeartbeats 4000000 in
set_option maxRecDepth 100000 in
theorem gX10_octet_E {X : Ctx} {z : Int32 × Mem} (hX : Fx wC X cX10_octet 2 RX10 (some .int) (rmo 0 0)) (hQ : Qx_i wC X z) (hcs : cx_cells X = 0 ∧ cx_slots X = 0) (N : Nat) (p0 : Int32) (μ : Mem) : G wC X z 0 [(0, .ref (cx_ad X 0)), (1, .int p0)] [] μ (fX10_octet N p0 μ) := by
  unfold fX10_octet
  refine G_iload_n hX 1 rfl rfl dX10_octet_0 ?_
  refine G_if_lt hX 15 (by decide) dX10_octet_1 ?_ ?_
  · refine G_iconst hX (-1 : Int32) rfl dX10_octet_15 ?_
    refine G_goto hX 28 (by decide) dX10_octet_16 ?_
    exact G_iret hX hQ dX10_octet_28
  · refine G_iload_n hX 1 rfl rfl dX10_octet_4 ?_
    refine G_aload_n hX 0 rfl rfl dX10_octet_5 ?_
    refine gf_X10_63_C0 hX dX10_octet_6 ?_
    refine gf_X10_377_C6 hX dX10_octet_9 ?_
    refine G_nmi (fun x1 => ?_)
    refine G_icmp_lt hX 19 (by decide) dX10_octet_12 ?_ ?_
    · refine G_aload_n hX 0 rfl rfl dX10_octet_19 ?_
      refine gf_X10_63_C0 hX dX10_octet_20 ?_
      refine gf_X10_393_C6 hX dX10_octet_23 ?_
      refine G_iload_n hX 1 rfl rfl dX10_octet_26 ?_
      refine G_aB hX atC31 dX10_octet_27 (fun x2 => ?_)
      exact G_iret hX hQ dX10_octet_28
    · refine G_iconst hX (-1 : Int32) rfl dX10_octet_15 ?_
      refine G_goto hX 28 (by decide) dX10_octet_16 ?_
      exact G_iret hX hQ dX10_octet_28
theorem cX10_octet_ok (l : Launch) (N : Nat) (p0 : Int32) (μ : Mem) (z : Int32 × Mem) (h : fX10_octet N p0 μ = some z) : Mi wC l yX10_octet cX10_octet 2 .int (rmo 0 0) (fun ad adK => [.ref (ad 0), .int p0]) μ z := Mi.of h (by decide +kernel) (fun _ _ => Nat.le_of_ble_eq_true rfl) (fun X hX hQ hl hcs => gX10_octet_E hX hQ hcs N p0 μ)
/-! ===== DutyCase.count(I)I ===== -/
set_option maxHeartbeats 4000000 in
set_option maxRecDepth 100000 in
theorem gX10_count_112 {X : Ctx} {z : Int32 × Mem} (hX : Fx wC X cX10_count 2 RX10 (some .int) (rmo 1 22)) (hQ : Qx_i wC X z) (hcs : cx_cells X = 0 ∧ cx_slots X = 0) (N : Nat) (v1 : Int32) (μ : Mem) : G wC X z 112 [(0, .ref (cx_ad X 0)), (1, .int v1)] [] μ (fX10_count_112 N v1 μ) := by
  unfold fX10_count_112
  refine G_aload_n hX 0 rfl rfl dX10_count_112 ?_
  refine gf_X10_10_C0 hX dX10_count_113 (fun b_13 hb_13 => ?_)
  refine gf_X10_216_B0 hX hb_13 dX10_count_116 ?_
  refine G_iload_n hX 1 rfl rfl dX10_count_119 ?_
  refine G_iconst hX (4 : Int32) rfl dX10_count_120 ?_
  refine G_isub hX dX10_count_121 ?_
  refine G_aI hX (atB_28 hb_13) dX10_count_122 (fun x14 => ?_)
  exact G_iret hX hQ dX10_count_123
set_option maxHeartbeats 4000000 in
set_option maxRecDepth 100000 in
theorem gX10_count_E {X : Ctx} {z : Int32 × Mem} (hX : Fx wC X cX10_count 2 RX10 (some .int) (rmo 1 22)) (hQ : Qx_i wC X z) (hcs : cx_cells X = 0 ∧ cx_slots X = 0) (N : Nat) (p0 : Int32) (μ : Mem) : G wC X z 0 [(0, .ref (cx_ad X 0)), (1, .int p0)] [] μ (fX10_count N p0 μ) := by
  unfold fX10_count
  refine G_iload_n hX 1 rfl rfl dX10_count_0 ?_
  refine G_sw (fun hc0 => ?_) (fun hc0 => ?_)
  · refine G_swIn hX 68 0 (0) (by rw [hc0]; rfl) (by decide) (by decide) rfl rfl (by decide) dX10_count_1 ?_
    refine G_aload_n hX 0 rfl rfl dX10_count_68 ?_
    refine gf_X10_10_C0 hX dX10_count_69 (fun b_1 hb_1 => ?_)
    refine gf_X10_114_B0 hX hb_1 dX10_count_72 ?_
    refine gf_X10_373_B1 hX hb_1 dX10_count_75 ?_
    refine G_nmi (fun x2 => ?_)
    exact G_iret hX hQ dX10_count_78
  refine G_sw (fun hc1 => ?_) (fun hc1 => ?_)
  · refine G_swIn hX 79 1 (1) (by rw [hc1]; rfl) (by decide) (by decide) rfl rfl (by decide) dX10_count_1 ?_
    refine G_aload_n hX 0 rfl rfl dX10_count_79 ?_
    refine gf_X10_10_C0 hX dX10_count_80 (fun b_3 hb_3 => ?_)
    refine gf_X10_101_B0 hX hb_3 dX10_count_83 ?_
    refine gf_X10_373_B4 hX hb_3 dX10_count_86 ?_
    refine G_nmi (fun x4 => ?_)
    exact G_iret hX hQ dX10_count_89
  refine G_sw (fun hc2 => ?_) (fun hc2 => ?_)
  · refine G_swIn hX 90 2 (2) (by rw [hc2]; rfl) (by decide) (by decide) rfl rfl (by decide) dX10_count_1 ?_
    refine G_aload_n hX 0 rfl rfl dX10_count_90 ?_
    refine gf_X10_10_C0 hX dX10_count_91 (fun b_5 hb_5 => ?_)
    refine gf_X10_91_B0 hX hb_5 dX10_count_94 ?_
    refine gf_X10_95_B12 hX hb_5 dX10_count_97 ?_
    refine G_nmi (fun x6 => ?_)
    exact G_iret hX hQ dX10_count_100
  refine G_sw (fun hc3 => ?_) (fun hc3 => ?_)
  · refine G_swIn hX 101 3 (3) (by rw [hc3]; rfl) (by decide) (by decide) rfl rfl (by decide) dX10_count_1 ?_
    refine G_aload_n hX 0 rfl rfl dX10_count_101 ?_
    refine gf_X10_10_C0 hX dX10_count_102 (fun b_7 hb_7 => ?_)
    refine gf_X10_91_B0 hX hb_7 dX10_count_105 ?_
    refine G_cVi hX (b_7 + 12) 7 (fun ad adK => []) [] (fun z2 h2 => cX7_countLive_ok (cx_l X) N (b_7 + 12) μ z2 h2) ok_X7_countLive lm_X10_397 (atB_12 hb_7).1 (atB_12 hb_7).2 rfl rfl (fun _ _ => rfl) (Nat.le_of_ble_eq_true rfl) ⟨rfl, rfl, by decide, by decide⟩ (cs0 hcs) dX10_count_108 (fun r8 μ => ?_)
    exact G_iret hX hQ dX10_count_111
  refine G_sw (fun hc4 => ?_) (fun hc4 => ?_)
  · refine G_swIn hX 112 4 (4) (by rw [hc4]; rfl) (by decide) (by decide) rfl rfl (by decide) dX10_count_1 ?_
    exact G_sub [0, 1] rfl (gX10_count_112 hX hQ hcs N p0 μ)
  refine G_sw (fun hc5 => ?_) (fun hc5 => ?_)
  · refine G_swIn hX 112 5 (5) (by rw [hc5]; rfl) (by decide) (by decide) rfl rfl (by decide) dX10_count_1 ?_
    exact G_sub [0, 1] rfl (gX10_count_112 hX hQ hcs N p0 μ)
  refine G_sw (fun hc6 => ?_) (fun hc6 => ?_)
  · refine G_swIn hX 112 6 (6) (by rw [hc6]; rfl) (by decide) (by decide) rfl rfl (by decide) dX10_count_1 ?_
    exact G_sub [0, 1] rfl (gX10_count_112 hX hQ hcs N p0 μ)
  refine G_sw (fun hc7 => ?_) (fun hc7 => ?_)
  · refine G_swIn hX 112 7 (7) (by rw [hc7]; rfl) (by decide) (by decide) rfl rfl (by decide) dX10_count_1 ?_
    exact G_sub [0, 1] rfl (gX10_count_112 hX hQ hcs N p0 μ)
  refine G_sw (fun hc8 => ?_) (fun hc8 => ?_)
  · refine G_swIn hX 112 8 (8) (by rw [hc8]; rfl) (by decide) (by decide) rfl rfl (by decide) dX10_count_1 ?_
    exact G_sub [0, 1] rfl (gX10_count_112 hX hQ hcs N p0 μ)
  refine G_sw (fun hc9 => ?_) (fun hc9 => ?_)
  · refine G_swIn hX 112 9 (9) (by rw [hc9]; rfl) (by decide) (by decide) rfl rfl (by decide) dX10_count_1 ?_
    exact G_sub [0, 1] rfl (gX10_count_112 hX hQ hcs N p0 μ)
  refine G_sw (fun hc10 => ?_) (fun hc10 => ?_)
  · refine G_swIn hX 124 10 (10) (by rw [hc10]; rfl) (by decide) (by decide) rfl rfl (by decide) dX10_count_1 ?_
    refine G_aload_n hX 0 rfl rfl dX10_count_124 ?_
    refine gf_X10_31_C0 hX dX10_count_125 ?_
    refine gf_X10_88_C2 hX dX10_count_128 ?_
    refine G_nmi (fun x9 => ?_)
    exact G_iret hX hQ dX10_count_131
  refine G_sw (fun hc11 => ?_) (fun hc11 => ?_)
  · refine G_swIn hX 132 11 (11) (by rw [hc11]; rfl) (by decide) (by decide) rfl rfl (by decide) dX10_count_1 ?_
    refine G_aload_n hX 0 rfl rfl dX10_count_132 ?_
    refine gf_X10_63_C0 hX dX10_count_133 ?_
    refine gf_X10_377_C6 hX dX10_count_136 ?_
    refine G_nmi (fun x10 => ?_)
    exact G_iret hX hQ dX10_count_139
  refine G_sw (fun hc12 => ?_) (fun hc12 => ?_)
  · refine G_swIn hX 140 12 (12) (by rw [hc12]; rfl) (by decide) (by decide) rfl rfl (by decide) dX10_count_1 ?_
    refine G_aload_n hX 0 rfl rfl dX10_count_140 ?_
    refine gf_X10_10_C0 hX dX10_count_141 (fun b_11 hb_11 => ?_)
    refine G_cVi hX b_11 1 (fun ad adK => []) [] (fun z2 h2 => cX1_countSilent_ok (cx_l X) N b_11 μ z2 h2) ok_X1_countSilent lm_X10_400 (atB_0 hb_11).1 (atB_0 hb_11).2 rfl rfl (fun _ _ => rfl) (Nat.le_of_ble_eq_true rfl) ⟨rfl, rfl, by decide, by decide⟩ (cs0 hcs) dX10_count_144 (fun r12 μ => ?_)
    exact G_iret hX hQ dX10_count_147
  refine G_swOut hX 148 (by decide) dX10_count_1 (by have e0 := lv_neT (a := (0 : Int)) hc0 rfl; have e1 := lv_neT (a := (1 : Int)) hc1 rfl; have e2 := lv_neT (a := (2 : Int)) hc2 rfl; have e3 := lv_neT (a := (3 : Int)) hc3 rfl; have e4 := lv_neT (a := (4 : Int)) hc4 rfl; have e5 := lv_neT (a := (5 : Int)) hc5 rfl; have e6 := lv_neT (a := (6 : Int)) hc6 rfl; have e7 := lv_neT (a := (7 : Int)) hc7 rfl; have e8 := lv_neT (a := (8 : Int)) hc8 rfl; have e9 := lv_neT (a := (9 : Int)) hc9 rfl; have e10 := lv_neT (a := (10 : Int)) hc10 rfl; have e11 := lv_neT (a := (11 : Int)) hc11 rfl; have e12 := lv_neT (a := (12 : Int)) hc12 rfl; omega) ?_
  refine G_iconst hX (-1 : Int32) rfl dX10_count_148 ?_
  exact G_iret hX hQ dX10_count_149
theorem cX10_count_ok (l : Launch) (N : Nat) (p0 : Int32) (μ : Mem) (z : Int32 × Mem) (h : fX10_count N p0 μ = some z) : Mi wC l yX10_count cX10_count 2 .int (rmo 1 22) (fun ad adK => [.ref (ad 0), .int p0]) μ z := Mi.of h (by decide +kernel) (fun _ _ => Nat.le_of_ble_eq_true rfl) (fun X hX hQ hl hcs => gX10_count_E hX hQ hcs N p0 μ)
