/-! ===== DutyCase$Comparison.unitLike(LDutyCase$Book;I)I ===== -/
set_option maxHeartbeats 4000000 in
set_option maxRecDepth 100000 in
theorem gX2_unitLike_8 {X : Ctx} {z : Int32 × Mem} (hX : Fx wC X cX2_unitLike 6 RX2 (some .int) (rmo 1 21)) (hQ : Qx_i wC X z) (hcs : cx_cells X = 0 ∧ cx_slots X = 0) (N : Nat) : ∀ (n : Nat) (b0 : Nat) (v2 : Int32) (v4 : Int32) (hb0 : kB b0) (μ : Mem), G wC X z 8 [(0, .ref (cx_ad X 4)), (1, .ref (cx_ad X b0)), (2, .int v2), (3, .ref (cx_ad X (b0 + 12))), (4, .int v4)] [] μ (fX2_unitLike_8 N n b0 v2 v4 μ) := by
  intro n
  induction n with
  | zero =>
    intro b0 v2 v4 hb0 μ
    exact G_none
  | succ n ih =>
    intro b0 v2 v4 hb0 μ
    unfold fX2_unitLike_8
    refine G_iload hX 4 rfl dX2_unitLike_8 ?_
    refine G_aload_n hX 0 rfl rfl dX2_unitLike_10 ?_
    refine gf_X2_35_C4 hX dX2_unitLike_11 ?_
    refine G_nmi (fun x1 => ?_)
    refine G_icmp_ge hX 81 (by decide) dX2_unitLike_14 ?_ ?_
    · refine G_aload_n hX 0 rfl rfl dX2_unitLike_81 ?_
      refine gf_X2_35_C4 hX dX2_unitLike_82 ?_
      refine G_nmi (fun x2 => ?_)
      exact G_iret hX hQ dX2_unitLike_85
    · refine G_aload_n hX 0 rfl rfl dX2_unitLike_17 ?_
      refine gf_X2_9_C4 hX dX2_unitLike_18 ?_
      refine G_iload hX 4 rfl dX2_unitLike_21 ?_
      refine G_aI hX atC19 dX2_unitLike_23 (fun x3 => ?_)
      refine G_istore hX [(5, .int x3), (0, .ref (cx_ad X 4)), (1, .ref (cx_ad X b0)), (2, .int v2), (3, .ref (cx_ad X (b0 + 12))), (4, .int v4)] (by decide) rfl dX2_unitLike_24 ?_
      refine G_aload_n hX 4 rfl rfl dX2_unitLike_26 ?_
      refine gf_X2_78_B12 hX hb0 dX2_unitLike_27 ?_
      refine G_iload hX 0 rfl dX2_unitLike_30 ?_
      refine G_aI hX (atB_15 hb0) dX2_unitLike_32 (fun x4 => ?_)
      refine G_aload_n hX 4 rfl rfl dX2_unitLike_33 ?_
      refine gf_X2_78_B12 hX hb0 dX2_unitLike_34 ?_
      refine G_iload_n hX 3 rfl rfl dX2_unitLike_37 ?_
      refine G_aI hX (atB_15 hb0) dX2_unitLike_38 (fun x5 => ?_)
      refine G_icmp_ne hX 75 (by decide) dX2_unitLike_39 ?_ ?_
      · refine G_iincN hX 5 (fun x6 => [(4, .int x6), (5, .int x3), (0, .ref (cx_ad X 4)), (1, .ref (cx_ad X b0)), (2, .int v2), (3, .ref (cx_ad X (b0 + 12)))]) rfl rfl (by decide) (fun _ => rfl) dX2_unitLike_75 (fun x6 => ?_)
        refine G_goto hX 8 (by decide) dX2_unitLike_78 ?_
        exact G_sub [2, 3, 4, 5, 0] rfl (ih b0 v2 x6 hb0 μ)
      · refine G_aload_n hX 4 rfl rfl dX2_unitLike_42 ?_
        refine gf_X2_81_B12 hX hb0 dX2_unitLike_43 ?_
        refine G_iload hX 0 rfl dX2_unitLike_46 ?_
        refine G_aI hX (atB_16 hb0) dX2_unitLike_48 (fun x7 => ?_)
        refine G_aload_n hX 4 rfl rfl dX2_unitLike_49 ?_
        refine gf_X2_81_B12 hX hb0 dX2_unitLike_50 ?_
        refine G_iload_n hX 3 rfl rfl dX2_unitLike_53 ?_
        refine G_aI hX (atB_16 hb0) dX2_unitLike_54 (fun x8 => ?_)
        refine G_icmp_ne hX 75 (by decide) dX2_unitLike_55 ?_ ?_
        · refine G_iincN hX 5 (fun x9 => [(4, .int x9), (5, .int x3), (0, .ref (cx_ad X 4)), (1, .ref (cx_ad X b0)), (2, .int v2), (3, .ref (cx_ad X (b0 + 12)))]) rfl rfl (by decide) (fun _ => rfl) dX2_unitLike_75 (fun x9 => ?_)
          refine G_goto hX 8 (by decide) dX2_unitLike_78 ?_
          exact G_sub [2, 3, 4, 5, 0] rfl (ih b0 v2 x9 hb0 μ)
        · refine G_aload_n hX 2 rfl rfl dX2_unitLike_58 ?_
          refine G_iload hX 0 rfl dX2_unitLike_59 ?_
          refine G_cVi hX b0 1 (fun ad adK => [.int x3]) [] (fun z2 h2 => cX1_monthToCompare_ok (cx_l X) N b0 x3 μ z2 h2) ok_X1_monthToCompare lm_X2_84 (atB_0 hb0).1 (atB_0 hb0).2 rfl rfl (fun _ _ => rfl) (Nat.le_of_ble_eq_true rfl) ⟨rfl, rfl, by decide, by decide⟩ (cs0 hcs) dX2_unitLike_61 (fun r10 μ => ?_)
          refine G_aload_n hX 2 rfl rfl dX2_unitLike_64 ?_
          refine G_iload_n hX 3 rfl rfl dX2_unitLike_65 ?_
          refine G_cVi hX b0 1 (fun ad adK => [.int v2]) [.int r10] (fun z2 h2 => cX1_monthToCompare_ok (cx_l X) N b0 v2 μ z2 h2) ok_X1_monthToCompare lm_X2_84 (atB_0 hb0).1 (atB_0 hb0).2 rfl rfl (fun _ _ => rfl) (Nat.le_of_ble_eq_true rfl) ⟨rfl, rfl, by decide, by decide⟩ (cs0 hcs) dX2_unitLike_66 (fun r11 μ => ?_)
          refine G_icmp_ne hX 75 (by decide) dX2_unitLike_69 ?_ ?_
          · refine G_iincN hX 5 (fun x12 => [(4, .int x12), (5, .int x3), (0, .ref (cx_ad X 4)), (1, .ref (cx_ad X b0)), (2, .int v2), (3, .ref (cx_ad X (b0 + 12)))]) rfl rfl (by decide) (fun _ => rfl) dX2_unitLike_75 (fun x12 => ?_)
            refine G_goto hX 8 (by decide) dX2_unitLike_78 ?_
            exact G_sub [2, 3, 4, 5, 0] rfl (ih b0 v2 x12 hb0 μ)
          · refine G_iload hX 5 rfl dX2_unitLike_72 ?_
            exact G_iret hX hQ dX2_unitLike_74
set_option maxHeartbeats 4000000 in
set_option maxRecDepth 100000 in
theorem gX2_unitLike_E {X : Ctx} {z : Int32 × Mem} (hX : Fx wC X cX2_unitLike 6 RX2 (some .int) (rmo 1 21)) (hQ : Qx_i wC X z) (hcs : cx_cells X = 0 ∧ cx_slots X = 0) (N : Nat) (p0 : Nat) (p1 : Int32) (μ : Mem) : G wC X z 0 [(0, .ref (cx_ad X 4)), (1, .ref (cx_ad X p0)), (2, .int p1)] [] μ (fX2_unitLike N p0 p1 μ) := by
  unfold fX2_unitLike
  refine G_guard (fun hp0 => ?_)
  refine G_aload_n hX 1 rfl rfl dX2_unitLike_0 ?_
  refine gf_X2_46_B0 hX hp0 dX2_unitLike_1 ?_
  refine G_astore_n hX [(3, .ref (cx_ad X (p0 + 12))), (0, .ref (cx_ad X 4)), (1, .ref (cx_ad X p0)), (2, .int p1)] rfl (by decide) rfl dX2_unitLike_4 ?_
  refine G_iconst hX (0 : Int32) rfl dX2_unitLike_5 ?_
  refine G_istore hX [(4, .int (0 : Int32)), (3, .ref (cx_ad X (p0 + 12))), (0, .ref (cx_ad X 4)), (1, .ref (cx_ad X p0)), (2, .int p1)] (by decide) rfl dX2_unitLike_6 ?_
  exact G_sub [2, 3, 4, 1, 0] rfl (gX2_unitLike_8 hX hQ hcs N N p0 p1 (0 : Int32) hp0 μ)
theorem cX2_unitLike_ok (l : Launch) (N : Nat) (p0 : Nat) (p1 : Int32) (μ : Mem) (z : Int32 × Mem) (h : fX2_unitLike N p0 p1 μ = some z) : Mi wC l yX2_unitLike cX2_unitLike 6 .int (rmo 1 21) (fun ad adK => [.ref (ad 4), .ref (ad p0), .int p1]) μ z := Mi.of h (by decide +kernel) (fun _ _ => Nat.le_of_ble_eq_true rfl) (fun X hX hQ hl hcs => gX2_unitLike_E hX hQ hcs N p0 p1 μ)
/-! ===== DutyCase$Comparison.addExport(LDutyCase$Book;IZ)V ===== -/
set_option maxHeartbeats 4000000 in
set_option maxRecDepth 100000 in
theorem gX2_addExport_70 {X : Ctx} {z : Unit × Mem} (hX : Fx wC X cX2_addExport 5 RX2 none (rmo 2 46)) (hQ : Qx_v wC X z) (hcs : cx_cells X = 0 ∧ cx_slots X = 0) (N : Nat) (b0 : Nat) (v2 : Int32) (v4 : Int32) (hb0 : kB b0) (μ : Mem) : G wC X z 70 [(0, .ref (cx_ad X 4)), (1, .ref (cx_ad X b0)), (2, .int v2), (4, .int v4)] [] μ (fX2_addExport_70 N b0 v2 v4 μ) := by
  unfold fX2_addExport_70
  refine G_aload_n hX 0 rfl rfl dX2_addExport_70 ?_
  refine gf_X2_15_C4 hX dX2_addExport_71 ?_
  refine G_iload hX 3 rfl dX2_addExport_74 ?_
  refine G_dup2 hX rfl rfl dX2_addExport_76 ?_
  refine G_aI hX atC20 dX2_addExport_77 (fun x6 => ?_)
  refine G_aload_n hX 1 rfl rfl dX2_addExport_78 ?_
  refine gf_X2_46_B0 hX hb0 dX2_addExport_79 ?_
  refine gf_X2_73_B12 hX hb0 dX2_addExport_82 ?_
  refine G_iload_n hX 2 rfl rfl dX2_addExport_85 ?_
  refine G_aI hX (atB_18 hb0) dX2_addExport_86 (fun x7 => ?_)
  refine G_iadd hX dX2_addExport_87 ?_
  refine G_sI hX atC20 dX2_addExport_88 (fun μ => ?_)
  refine G_aload_n hX 0 rfl rfl dX2_addExport_89 ?_
  refine gf_X2_18_C4 hX dX2_addExport_90 ?_
  refine G_iload hX 3 rfl dX2_addExport_93 ?_
  refine G_dup2 hX rfl rfl dX2_addExport_95 ?_
  refine G_aL hX atC21 dX2_addExport_96 (fun x8 => ?_)
  refine G_aload_n hX 1 rfl rfl dX2_addExport_97 ?_
  refine gf_X2_46_B0 hX hb0 dX2_addExport_98 ?_
  refine G_iload_n hX 2 rfl rfl dX2_addExport_101 ?_
  refine G_cVl hX (b0 + 12) 7 (fun ad adK => [.int v2]) [.long x8, .int v4, .ref (cx_ad X 21)] (fun z2 h2 => cX7_valueAt_ok (cx_l X) N (b0 + 12) v2 μ z2 h2) ok_X7_valueAt lm_X2_74 (atB_12 hb0).1 (atB_12 hb0).2 rfl rfl (fun _ _ => rfl) (Nat.le_of_ble_eq_true rfl) ⟨rfl, rfl, by decide, by decide⟩ (cs0 hcs) dX2_addExport_102 (fun r9 μ => ?_)
  refine G_ladd hX dX2_addExport_105 ?_
  refine G_sL hX atC21 dX2_addExport_106 (fun μ => ?_)
  refine G_aload_n hX 0 rfl rfl dX2_addExport_107 ?_
  refine G_dup hX rfl dX2_addExport_108 ?_
  refine gf_X2_39_C4 hX dX2_addExport_109 ?_
  refine G_nml (fun x10 => ?_)
  refine G_aload_n hX 1 rfl rfl dX2_addExport_112 ?_
  refine gf_X2_46_B0 hX hb0 dX2_addExport_113 ?_
  refine G_iload_n hX 2 rfl rfl dX2_addExport_116 ?_
  refine G_cVl hX (b0 + 12) 7 (fun ad adK => [.int v2]) [.long x10, .ref (cx_ad X 4)] (fun z2 h2 => cX7_valueAt_ok (cx_l X) N (b0 + 12) v2 μ z2 h2) ok_X7_valueAt lm_X2_74 (atB_12 hb0).1 (atB_12 hb0).2 rfl rfl (fun _ _ => rfl) (Nat.le_of_ble_eq_true rfl) ⟨rfl, rfl, by decide, by decide⟩ (cs0 hcs) dX2_addExport_117 (fun r11 μ => ?_)
  refine G_ladd hX dX2_addExport_120 ?_
  refine G_nml (fun x12 => ?_)
  refine pf_X2_39_C4 hX dX2_addExport_121 (fun μ => ?_)
  refine G_aload_n hX 0 rfl rfl dX2_addExport_124 ?_
  refine G_dup hX rfl dX2_addExport_125 ?_
  refine gf_X2_43_C4 hX dX2_addExport_126 ?_
  refine G_nml (fun x13 => ?_)
  refine G_aload_n hX 1 rfl rfl dX2_addExport_129 ?_
  refine gf_X2_46_B0 hX hb0 dX2_addExport_130 ?_
  refine gf_X2_73_B12 hX hb0 dX2_addExport_133 ?_
  refine G_iload_n hX 2 rfl rfl dX2_addExport_136 ?_
  refine G_aI hX (atB_18 hb0) dX2_addExport_137 (fun x14 => ?_)
  refine G_i2l hX dX2_addExport_138 ?_
  refine G_ladd hX dX2_addExport_139 ?_
  refine G_nml (fun x15 => ?_)
  refine pf_X2_43_C4 hX dX2_addExport_140 (fun μ => ?_)
  exact G_vret hX hQ dX2_addExport_143
set_option maxHeartbeats 4000000 in
set_option maxRecDepth 100000 in
theorem gX2_addExport_17 {X : Ctx} {z : Unit × Mem} (hX : Fx wC X cX2_addExport 5 RX2 none (rmo 2 46)) (hQ : Qx_v wC X z) (hcs : cx_cells X = 0 ∧ cx_slots X = 0) (N : Nat) (b0 : Nat) (v2 : Int32) (s0 : Int32) (hb0 : kB b0) (μ : Mem) : G wC X z 17 [(0, .ref (cx_ad X 4)), (1, .ref (cx_ad X b0)), (2, .int v2)] [.int s0] μ (fX2_addExport_17 N b0 v2 s0 μ) := by
  unfold fX2_addExport_17
  refine G_istore hX [(4, .int s0), (0, .ref (cx_ad X 4)), (1, .ref (cx_ad X b0)), (2, .int v2)] (by decide) rfl dX2_addExport_17 ?_
  refine G_iload hX 0 rfl dX2_addExport_19 ?_
  refine G_bipush hX (40 : Int32) rfl dX2_addExport_21 ?_
  refine G_icmp_lt hX 27 (by decide) dX2_addExport_23 ?_ ?_
  · refine G_iload hX 0 rfl dX2_addExport_27 ?_
    refine G_aload_n hX 1 rfl rfl dX2_addExport_29 ?_
    refine gf_X2_35_C4 hX dX2_addExport_30 ?_
    refine G_nmi (fun x3 => ?_)
    refine G_icmp_ne hX 70 (by decide) dX2_addExport_33 ?_ ?_
    · exact G_sub [1, 2, 3, 0] rfl (gX2_addExport_70 hX hQ hcs N b0 v2 s0 hb0 μ)
    · refine G_aload_n hX 1 rfl rfl dX2_addExport_36 ?_
      refine gf_X2_9_C4 hX dX2_addExport_37 ?_
      refine G_iload hX 0 rfl dX2_addExport_40 ?_
      refine G_iload_n hX 3 rfl rfl dX2_addExport_42 ?_
      refine G_sI hX atC19 dX2_addExport_43 (fun μ => ?_)
      refine G_aload_n hX 1 rfl rfl dX2_addExport_44 ?_
      refine gf_X2_15_C4 hX dX2_addExport_45 ?_
      refine G_iload hX 0 rfl dX2_addExport_48 ?_
      refine G_iconst hX (0 : Int32) rfl dX2_addExport_50 ?_
      refine G_sI hX atC20 dX2_addExport_51 (fun μ => ?_)
      refine G_aload_n hX 1 rfl rfl dX2_addExport_52 ?_
      refine gf_X2_18_C4 hX dX2_addExport_53 ?_
      refine G_iload hX 0 rfl dX2_addExport_56 ?_
      refine G_lconst hX (0 : Int64) rfl dX2_addExport_58 ?_
      refine G_sL hX atC21 dX2_addExport_59 (fun μ => ?_)
      refine G_aload_n hX 1 rfl rfl dX2_addExport_60 ?_
      refine G_dup hX rfl dX2_addExport_61 ?_
      refine gf_X2_35_C4 hX dX2_addExport_62 ?_
      refine G_nmi (fun x4 => ?_)
      refine G_iconst hX (1 : Int32) rfl dX2_addExport_65 ?_
      refine G_iadd hX dX2_addExport_66 ?_
      refine G_nmi (fun x5 => ?_)
      refine pf_X2_35_C4 hX dX2_addExport_67 (fun μ => ?_)
      exact G_sub [1, 2, 3, 0] rfl (gX2_addExport_70 hX hQ hcs N b0 v2 s0 hb0 μ)
  · exact G_vret hX hQ dX2_addExport_26
set_option maxHeartbeats 4000000 in
set_option maxRecDepth 100000 in
theorem gX2_addExport_E {X : Ctx} {z : Unit × Mem} (hX : Fx wC X cX2_addExport 5 RX2 none (rmo 2 46)) (hQ : Qx_v wC X z) (hcs : cx_cells X = 0 ∧ cx_slots X = 0) (N : Nat) (p0 : Nat) (p1 : Int32) (p2 : Int32) (μ : Mem) : G wC X z 0 [(0, .ref (cx_ad X 4)), (1, .ref (cx_ad X p0)), (2, .int p1), (3, .int p2)] [] μ (fX2_addExport N p0 p1 p2 μ) := by
  unfold fX2_addExport
  refine G_guard (fun hp0 => ?_)
  refine G_iload_n hX 3 rfl rfl dX2_addExport_0 ?_
  refine G_if_eq hX 13 (by decide) dX2_addExport_1 ?_ ?_
  · refine G_aload_n hX 0 rfl rfl dX2_addExport_13 ?_
    refine gf_X2_35_C4 hX dX2_addExport_14 ?_
    refine G_nmi (fun x1 => ?_)
    exact G_sub [0, 1, 2] rfl (gX2_addExport_17 hX hQ hcs N p0 p1 x1 hp0 μ)
  · refine G_aload_n hX 0 rfl rfl dX2_addExport_4 ?_
    refine G_aload_n hX 1 rfl rfl dX2_addExport_5 ?_
    refine G_iload_n hX 2 rfl rfl dX2_addExport_6 ?_
    refine G_cVi hX 4 2 (fun ad adK => [.ref (ad p0), .int p1]) [] (fun z2 h2 => cX2_unitLike_ok (cx_l X) N p0 p1 μ z2 h2) ok_X2_unitLike lm_X2_69 atC4.1 atC4.2 rfl rfl (fun _ _ => rfl) (Nat.le_of_ble_eq_true rfl) ⟨rfl, rfl, by decide, by decide⟩ (cs0 hcs) dX2_addExport_7 (fun r2 μ => ?_)
    refine G_goto hX 17 (by decide) dX2_addExport_10 ?_
    exact G_sub [0, 1, 2] rfl (gX2_addExport_17 hX hQ hcs N p0 p1 r2 hp0 μ)
theorem cX2_addExport_ok (l : Launch) (N : Nat) (p0 : Nat) (p1 : Int32) (p2 : Int32) (μ : Mem) (z : Unit × Mem) (h : fX2_addExport N p0 p1 p2 μ = some z) : Mv wC l yX2_addExport cX2_addExport 5 (rmo 2 46) (fun ad adK => [.ref (ad 4), .ref (ad p0), .int p1, .int p2]) μ z := Mv.of h (by decide +kernel) (fun _ _ => Nat.le_of_ble_eq_true rfl) (fun X hX hQ hl hcs => gX2_addExport_E hX hQ hcs N p0 p1 p2 μ)
/-! ===== DutyCase$Comparison.worthFor(LDutyCase$Book;II)J ===== -/
set_option maxHeartbeats 4000000 in
set_option maxRecDepth 100000 in
theorem gX2_worthFor_17 {X : Ctx} {z : Int64 × Mem} (hX : Fx wC X cX2_worthFor 5 RX2 (some .long) (rmo 3 79)) (hQ : Qx_l wC X z) (hcs : cx_cells X = 0 ∧ cx_slots X = 0) (N : Nat) (b0 : Nat) (v2 : Int32) (s0 : Int32) (hb0 : kB b0) (μ : Mem) : G wC X z 17 [(0, .ref (cx_ad X 4)), (1, .ref (cx_ad X b0)), (2, .int v2)] [.int s0] μ (fX2_worthFor_17 N b0 v2 s0 μ) := by
  unfold fX2_worthFor_17
  refine G_istore hX [(4, .int s0), (0, .ref (cx_ad X 4)), (1, .ref (cx_ad X b0)), (2, .int v2)] (by decide) rfl dX2_worthFor_17 ?_
  refine G_iload hX 0 rfl dX2_worthFor_19 ?_
  refine G_iconst hX (-1 : Int32) rfl dX2_worthFor_21 ?_
  refine G_icmp_eq hX 36 (by decide) dX2_worthFor_22 ?_ ?_
  · refine G_aload_n hX 1 rfl rfl dX2_worthFor_36 ?_
    refine gf_X2_25_C4 hX dX2_worthFor_37 ?_
    refine G_aload_n hX 2 rfl rfl dX2_worthFor_40 ?_
    refine gf_X2_46_B0 hX hb0 dX2_worthFor_41 ?_
    refine gf_X2_78_B12 hX hb0 dX2_worthFor_44 ?_
    refine G_iload_n hX 3 rfl rfl dX2_worthFor_47 ?_
    refine G_aI hX (atB_15 hb0) dX2_worthFor_48 (fun x2 => ?_)
    refine G_aload_n hX 2 rfl rfl dX2_worthFor_49 ?_
    refine gf_X2_46_B0 hX hb0 dX2_worthFor_50 ?_
    refine gf_X2_81_B12 hX hb0 dX2_worthFor_53 ?_
    refine G_iload_n hX 3 rfl rfl dX2_worthFor_56 ?_
    refine G_aI hX (atB_16 hb0) dX2_worthFor_57 (fun x3 => ?_)
    refine G_aload_n hX 2 rfl rfl dX2_worthFor_58 ?_
    refine G_iload_n hX 3 rfl rfl dX2_worthFor_59 ?_
    refine G_cVi hX b0 1 (fun ad adK => [.int v2]) [.int x3, .int x2, .ref (cx_ad X 3)] (fun z2 h2 => cX1_monthToCompare_ok (cx_l X) N b0 v2 μ z2 h2) ok_X1_monthToCompare lm_X2_84 (atB_0 hb0).1 (atB_0 hb0).2 rfl rfl (fun _ _ => rfl) (Nat.le_of_ble_eq_true rfl) ⟨rfl, rfl, by decide, by decide⟩ (cs0 hcs) dX2_worthFor_60 (fun r4 μ => ?_)
    refine G_cVl hX 3 8 (fun ad adK => [.int x2, .int x3, .int r4]) [] (fun z2 h2 => cX8_worthAt_ok (cx_l X) N x2 x3 r4 μ z2 h2) ok_X8_worthAt lm_X2_95 atC3.1 atC3.2 rfl rfl (fun _ _ => rfl) (Nat.le_of_ble_eq_true rfl) ⟨rfl, rfl, by decide, by decide⟩ (cs0 hcs) dX2_worthFor_63 (fun r5 μ => ?_)
    exact G_lret hX hQ dX2_worthFor_66
  · refine G_aload_n hX 1 rfl rfl dX2_worthFor_25 ?_
    refine gf_X2_25_C4 hX dX2_worthFor_26 ?_
    refine G_iload_n hX 3 rfl rfl dX2_worthFor_29 ?_
    refine G_iload hX 0 rfl dX2_worthFor_30 ?_
    refine G_cVl hX 3 8 (fun ad adK => [.int v2, .int s0]) [] (fun z2 h2 => cX8_worthByMatch_ok (cx_l X) N v2 s0 μ z2 h2) ok_X8_worthByMatch lm_X2_91 atC3.1 atC3.2 rfl rfl (fun _ _ => rfl) (Nat.le_of_ble_eq_true rfl) ⟨rfl, rfl, by decide, by decide⟩ (cs0 hcs) dX2_worthFor_32 (fun r6 μ => ?_)
    exact G_lret hX hQ dX2_worthFor_35
set_option maxHeartbeats 4000000 in
set_option maxRecDepth 100000 in
theorem gX2_worthFor_E {X : Ctx} {z : Int64 × Mem} (hX : Fx wC X cX2_worthFor 5 RX2 (some .long) (rmo 3 79)) (hQ : Qx_l wC X z) (hcs : cx_cells X = 0 ∧ cx_slots X = 0) (N : Nat) (p0 : Nat) (p1 : Int32) (p2 : Int32) (μ : Mem) : G wC X z 0 [(0, .ref (cx_ad X 4)), (1, .ref (cx_ad X p0)), (2, .int p1), (3, .int p2)] [] μ (fX2_worthFor N p0 p1 p2 μ) := by
  unfold fX2_worthFor
  refine G_guard (fun hp0 => ?_)
  refine G_iload_n hX 3 rfl rfl dX2_worthFor_0 ?_
  refine G_iconst hX (2 : Int32) rfl dX2_worthFor_1 ?_
  refine G_icmp_ne hX 16 (by decide) dX2_worthFor_2 ?_ ?_
  · refine G_iconst hX (-1 : Int32) rfl dX2_worthFor_16 ?_
    exact G_sub [0, 1, 2] rfl (gX2_worthFor_17 hX hQ hcs N p0 p1 (-1 : Int32) hp0 μ)
  · refine G_aload_n hX 0 rfl rfl dX2_worthFor_5 ?_
    refine gf_X2_25_C4 hX dX2_worthFor_6 ?_
    refine G_iload_n hX 2 rfl rfl dX2_worthFor_9 ?_
    refine G_cVi hX 3 8 (fun ad adK => [.int p1]) [] (fun z2 h2 => cX8_matchFor_ok (cx_l X) N p1 μ z2 h2) ok_X8_matchFor lm_X2_88 atC3.1 atC3.2 rfl rfl (fun _ _ => rfl) (Nat.le_of_ble_eq_true rfl) ⟨rfl, rfl, by decide, by decide⟩ (cs0 hcs) dX2_worthFor_10 (fun r1 μ => ?_)
    refine G_goto hX 17 (by decide) dX2_worthFor_13 ?_
    exact G_sub [0, 1, 2] rfl (gX2_worthFor_17 hX hQ hcs N p0 p1 r1 hp0 μ)
theorem cX2_worthFor_ok (l : Launch) (N : Nat) (p0 : Nat) (p1 : Int32) (p2 : Int32) (μ : Mem) (z : Int64 × Mem) (h : fX2_worthFor N p0 p1 p2 μ = some z) : Ml wC l yX2_worthFor cX2_worthFor 5 .long (rmo 3 79) (fun ad adK => [.ref (ad 4), .ref (ad p0), .int p1, .int p2]) μ z := Ml.of h (by decide +kernel) (fun _ _ => Nat.le_of_ble_eq_true rfl) (fun X hX hQ hl hcs => gX2_worthFor_E hX hQ hcs N p0 p1 p2 μ)
/-! ===== DutyCase$Comparison.gather(LDutyCase$Book;II)V ===== -/
set_option maxHeartbeats 4000000 in
set_option maxRecDepth 100000 in
theorem gX2_gather_123 {X : Ctx} {z : Unit × Mem} (hX : Fx wC X cX2_gather 5 RX2 none (rmo 4 103)) (hQ : Qx_v wC X z) (hcs : cx_cells X = 0 ∧ cx_slots X = 0) (N : Nat) (k78 : Nat → Int32 → Int32 → Mem → Option (Unit × Mem)) (hk78 : ∀ (b0 : Nat) (v3 : Int32) (v4 : Int32) (_ : kB b0) (μ : Mem), G wC X z 78 [(0, .ref (cx_ad X 4)), (1, .ref (cx_ad X b0)), (3, .int v3), (4, .int v4)] [] μ (k78 b0 v3 v4 μ)) (b0 : Nat) (v3 : Int32) (v4 : Int32) (s0 : Int64) (s1 : Int32) (hb0 : kB b0) (μ : Mem) : G wC X z 123 [(0, .ref (cx_ad X 4)), (1, .ref (cx_ad X b0)), (3, .int v3), (4, .int v4)] [.long s0, .int s1, .ref (cx_ad X 21)] μ (fX2_gather_123 N k78 b0 v3 v4 s0 s1 μ) := by
  unfold fX2_gather_123
  refine G_sL hX atC21 dX2_gather_123 (fun μ => ?_)
  refine G_aload_n hX 0 rfl rfl dX2_gather_124 ?_
  refine gf_X2_22_C4 hX dX2_gather_125 ?_
  refine G_iload hX 3 rfl dX2_gather_128 ?_
  refine G_aload_n hX 0 rfl rfl dX2_gather_130 ?_
  refine G_aload_n hX 1 rfl rfl dX2_gather_131 ?_
  refine G_aload_n hX 0 rfl rfl dX2_gather_132 ?_
  refine gf_X2_9_C4 hX dX2_gather_133 ?_
  refine G_iload hX 3 rfl dX2_gather_136 ?_
  refine G_aI hX atC19 dX2_gather_138 (fun x10 => ?_)
  refine G_iload_n hX 2 rfl rfl dX2_gather_139 ?_
  refine G_cVl hX 4 2 (fun ad adK => [.ref (ad b0), .int x10, .int v3]) [.int v4, .ref (cx_ad X 22)] (fun z2 h2 => cX2_worthFor_ok (cx_l X) N b0 x10 v3 μ z2 h2) ok_X2_worthFor lm_X2_65 atC4.1 atC4.2 rfl rfl (fun _ _ => rfl) (Nat.le_of_ble_eq_true rfl) ⟨rfl, rfl, by decide, by decide⟩ (cs0 hcs) dX2_gather_140 (fun r11 μ => ?_)
  refine G_sL hX atC22 dX2_gather_143 (fun μ => ?_)
  refine G_iincN hX 3 (fun x12 => [(4, .int x12), (0, .ref (cx_ad X 4)), (1, .ref (cx_ad X b0)), (3, .int v3)]) rfl rfl (by decide) (fun _ => rfl) dX2_gather_144 (fun x12 => ?_)
  refine G_goto hX 78 (by decide) dX2_gather_147 ?_
  exact G_sub [1, 2, 3, 0] rfl (hk78 b0 v3 x12 hb0 μ)
set_option maxHeartbeats 4000000 in
set_option maxRecDepth 100000 in
theorem gX2_gather_78 {X : Ctx} {z : Unit × Mem} (hX : Fx wC X cX2_gather 5 RX2 none (rmo 4 103)) (hQ : Qx_v wC X z) (hcs : cx_cells X = 0 ∧ cx_slots X = 0) (N : Nat) : ∀ (n : Nat) (b0 : Nat) (v3 : Int32) (v4 : Int32) (hb0 : kB b0) (μ : Mem), G wC X z 78 [(0, .ref (cx_ad X 4)), (1, .ref (cx_ad X b0)), (3, .int v3), (4, .int v4)] [] μ (fX2_gather_78 N n b0 v3 v4 μ) := by
  intro n
  induction n with
  | zero =>
    intro b0 v3 v4 hb0 μ
    exact G_none
  | succ n ih =>
    intro b0 v3 v4 hb0 μ
    unfold fX2_gather_78
    refine G_iload hX 3 rfl dX2_gather_78 ?_
    refine G_aload_n hX 0 rfl rfl dX2_gather_80 ?_
    refine gf_X2_35_C4 hX dX2_gather_81 ?_
    refine G_nmi (fun x6 => ?_)
    refine G_icmp_ge hX 150 (by decide) dX2_gather_84 ?_ ?_
    · exact G_vret hX hQ dX2_gather_150
    · refine G_aload_n hX 0 rfl rfl dX2_gather_87 ?_
      refine gf_X2_18_C4 hX dX2_gather_88 ?_
      refine G_iload hX 3 rfl dX2_gather_91 ?_
      refine G_aload_n hX 0 rfl rfl dX2_gather_93 ?_
      refine gf_X2_15_C4 hX dX2_gather_94 ?_
      refine G_iload hX 3 rfl dX2_gather_97 ?_
      refine G_aI hX atC20 dX2_gather_99 (fun x7 => ?_)
      refine G_if_le hX 122 (by decide) dX2_gather_100 ?_ ?_
      · refine G_lconst hX (0 : Int64) rfl dX2_gather_122 ?_
        exact G_sub [0, 1, 2, 3] rfl (gX2_gather_123 hX hQ hcs N (fun b0 v3 v4 μ => fX2_gather_78 N n b0 v3 v4 μ) (fun b0 v3 v4 hb0 μ => ih b0 v3 v4 hb0 μ) b0 v3 v4 (0 : Int64) v4 hb0 μ)
      · refine G_aload_n hX 0 rfl rfl dX2_gather_103 ?_
        refine gf_X2_18_C4 hX dX2_gather_104 ?_
        refine G_iload hX 3 rfl dX2_gather_107 ?_
        refine G_aL hX atC21 dX2_gather_109 (fun x8 => ?_)
        refine G_aload_n hX 0 rfl rfl dX2_gather_110 ?_
        refine gf_X2_15_C4 hX dX2_gather_111 ?_
        refine G_iload hX 3 rfl dX2_gather_114 ?_
        refine G_aI hX atC20 dX2_gather_116 (fun x9 => ?_)
        refine G_i2l hX dX2_gather_117 ?_
        refine G_ldv hX dX2_gather_118 ?_
        refine G_goto hX 123 (by decide) dX2_gather_119 ?_
        exact G_sub [0, 1, 2, 3] rfl (gX2_gather_123 hX hQ hcs N (fun b0 v3 v4 μ => fX2_gather_78 N n b0 v3 v4 μ) (fun b0 v3 v4 hb0 μ => ih b0 v3 v4 hb0 μ) b0 v3 v4 (x8 / x9.toInt64) v4 hb0 μ)
set_option maxHeartbeats 4000000 in
set_option maxRecDepth 100000 in
theorem gX2_gather_27 {X : Ctx} {z : Unit × Mem} (hX : Fx wC X cX2_gather 5 RX2 none (rmo 4 103)) (hQ : Qx_v wC X z) (hcs : cx_cells X = 0 ∧ cx_slots X = 0) (N : Nat) : ∀ (n : Nat) (b0 : Nat) (v2 : Int32) (v3 : Int32) (v4 : Int32) (hb0 : kB b0) (μ : Mem), G wC X z 27 [(0, .ref (cx_ad X 4)), (1, .ref (cx_ad X b0)), (2, .int v2), (3, .int v3), (4, .int v4)] [] μ (fX2_gather_27 N n b0 v2 v3 v4 μ) := by
  intro n
  induction n with
  | zero =>
    intro b0 v2 v3 v4 hb0 μ
    exact G_none
  | succ n ih =>
    intro b0 v2 v3 v4 hb0 μ
    unfold fX2_gather_27
    refine G_iload hX 4 rfl dX2_gather_27 ?_
    refine G_aload_n hX 1 rfl rfl dX2_gather_29 ?_
    refine gf_X2_46_B0 hX hb0 dX2_gather_30 ?_
    refine gf_X2_52_B12 hX hb0 dX2_gather_33 ?_
    refine G_nmi (fun x1 => ?_)
    refine G_icmp_ge hX 75 (by decide) dX2_gather_36 ?_ ?_
    · refine G_iconst hX (0 : Int32) rfl dX2_gather_75 ?_
      refine G_istore hX [(4, .int (0 : Int32)), (0, .ref (cx_ad X 4)), (1, .ref (cx_ad X b0)), (2, .int v2), (3, .int v3)] (by decide) rfl dX2_gather_76 ?_
      exact G_sub [1, 2, 4, 0] rfl (gX2_gather_78 hX hQ hcs N N b0 v3 (0 : Int32) hb0 μ)
    · refine G_aload_n hX 1 rfl rfl dX2_gather_39 ?_
      refine gf_X2_46_B0 hX hb0 dX2_gather_40 ?_
      refine G_iload hX 4 rfl dX2_gather_43 ?_
      refine G_iload_n hX 2 rfl rfl dX2_gather_45 ?_
      refine G_iconst hX (1 : Int32) rfl dX2_gather_46 ?_
      refine G_cVi hX (b0 + 12) 7 (fun ad adK => [.int v4, .int v2, .int (1 : Int32)]) [] (fun z2 h2 => cX7_isOf_ok (cx_l X) N (b0 + 12) v4 v2 (1 : Int32) μ z2 h2) ok_X7_isOf lm_X2_57 (atB_12 hb0).1 (atB_12 hb0).2 rfl rfl (fun _ _ => rfl) (Nat.le_of_ble_eq_true rfl) ⟨rfl, rfl, by decide, by decide⟩ (cs0 hcs) dX2_gather_47 (fun r2 μ => ?_)
      refine G_if_eq hX 69 (by decide) dX2_gather_50 ?_ ?_
      · refine G_iincN hX 4 (fun x3 => [(4, .int x3), (0, .ref (cx_ad X 4)), (1, .ref (cx_ad X b0)), (2, .int v2), (3, .int v3)]) rfl rfl (by decide) (fun _ => rfl) dX2_gather_69 (fun x3 => ?_)
        refine G_goto hX 27 (by decide) dX2_gather_72 ?_
        exact G_sub [1, 2, 3, 4, 0] rfl (ih b0 v2 v3 x3 hb0 μ)
      · refine G_aload_n hX 0 rfl rfl dX2_gather_53 ?_
        refine G_aload_n hX 1 rfl rfl dX2_gather_54 ?_
        refine G_iload hX 4 rfl dX2_gather_55 ?_
        refine G_iload_n hX 3 rfl rfl dX2_gather_57 ?_
        refine G_if_ne hX 65 (by decide) dX2_gather_58 ?_ ?_
        · refine G_iconst hX (0 : Int32) rfl dX2_gather_65 ?_
          refine G_cVv hX 4 2 (fun ad adK => [.ref (ad b0), .int v4, .int (0 : Int32)]) [] (fun z2 h2 => cX2_addExport_ok (cx_l X) N b0 v4 (0 : Int32) μ z2 h2) ok_X2_addExport lm_X2_61 atC4.1 atC4.2 rfl rfl (fun _ _ => rfl) (Nat.le_of_ble_eq_true rfl) ⟨rfl, rfl, by decide, by decide⟩ (cs0 hcs) dX2_gather_66 (fun μ => ?_)
          refine G_iincN hX 4 (fun x4 => [(4, .int x4), (0, .ref (cx_ad X 4)), (1, .ref (cx_ad X b0)), (2, .int v2), (3, .int v3)]) rfl rfl (by decide) (fun _ => rfl) dX2_gather_69 (fun x4 => ?_)
          refine G_goto hX 27 (by decide) dX2_gather_72 ?_
          exact G_sub [1, 2, 3, 4, 0] rfl (ih b0 v2 v3 x4 hb0 μ)
        · refine G_iconst hX (1 : Int32) rfl dX2_gather_61 ?_
          refine G_goto hX 66 (by decide) dX2_gather_62 ?_
          refine G_cVv hX 4 2 (fun ad adK => [.ref (ad b0), .int v4, .int (1 : Int32)]) [] (fun z2 h2 => cX2_addExport_ok (cx_l X) N b0 v4 (1 : Int32) μ z2 h2) ok_X2_addExport lm_X2_61 atC4.1 atC4.2 rfl rfl (fun _ _ => rfl) (Nat.le_of_ble_eq_true rfl) ⟨rfl, rfl, by decide, by decide⟩ (cs0 hcs) dX2_gather_66 (fun μ => ?_)
          refine G_iincN hX 4 (fun x5 => [(4, .int x5), (0, .ref (cx_ad X 4)), (1, .ref (cx_ad X b0)), (2, .int v2), (3, .int v3)]) rfl rfl (by decide) (fun _ => rfl) dX2_gather_69 (fun x5 => ?_)
          refine G_goto hX 27 (by decide) dX2_gather_72 ?_
          exact G_sub [1, 2, 3, 4, 0] rfl (ih b0 v2 v3 x5 hb0 μ)
set_option maxHeartbeats 4000000 in
set_option maxRecDepth 100000 in
theorem gX2_gather_E {X : Ctx} {z : Unit × Mem} (hX : Fx wC X cX2_gather 5 RX2 none (rmo 4 103)) (hQ : Qx_v wC X z) (hcs : cx_cells X = 0 ∧ cx_slots X = 0) (N : Nat) (p0 : Nat) (p1 : Int32) (p2 : Int32) (μ : Mem) : G wC X z 0 [(0, .ref (cx_ad X 4)), (1, .ref (cx_ad X p0)), (2, .int p1), (3, .int p2)] [] μ (fX2_gather N p0 p1 p2 μ) := by
  unfold fX2_gather
  refine G_guard (fun hp0 => ?_)
  refine G_aload_n hX 0 rfl rfl dX2_gather_0 ?_
  refine gf_X2_25_C4 hX dX2_gather_1 ?_
  refine G_aload_n hX 1 rfl rfl dX2_gather_4 ?_
  refine G_iload_n hX 2 rfl rfl dX2_gather_5 ?_
  refine G_cVv hX 3 8 (fun ad adK => [.ref (ad p0), .int p1]) [] (fun z2 h2 => cX8_look_ok (cx_l X) N p0 p1 μ z2 h2) ok_X8_look lm_X2_29 atC3.1 atC3.2 rfl rfl (fun _ _ => rfl) (Nat.le_of_ble_eq_true rfl) ⟨rfl, rfl, by decide, by decide⟩ (cs0 hcs) dX2_gather_6 (fun μ => ?_)
  refine G_aload_n hX 0 rfl rfl dX2_gather_9 ?_
  refine G_iconst hX (0 : Int32) rfl dX2_gather_10 ?_
  refine pf_X2_35_C4 hX dX2_gather_11 (fun μ => ?_)
  refine G_aload_n hX 0 rfl rfl dX2_gather_14 ?_
  refine G_lconst hX (0 : Int64) rfl dX2_gather_15 ?_
  refine pf_X2_39_C4 hX dX2_gather_16 (fun μ => ?_)
  refine G_aload_n hX 0 rfl rfl dX2_gather_19 ?_
  refine G_lconst hX (0 : Int64) rfl dX2_gather_20 ?_
  refine pf_X2_43_C4 hX dX2_gather_21 (fun μ => ?_)
  refine G_iconst hX (0 : Int32) rfl dX2_gather_24 ?_
  refine G_istore hX [(4, .int (0 : Int32)), (0, .ref (cx_ad X 4)), (1, .ref (cx_ad X p0)), (2, .int p1), (3, .int p2)] (by decide) rfl dX2_gather_25 ?_
  exact G_sub [1, 2, 3, 4, 0] rfl (gX2_gather_27 hX hQ hcs N N p0 p1 p2 (0 : Int32) hp0 μ)
theorem cX2_gather_ok (l : Launch) (N : Nat) (p0 : Nat) (p1 : Int32) (p2 : Int32) (μ : Mem) (z : Unit × Mem) (h : fX2_gather N p0 p1 p2 μ = some z) : Mv wC l yX2_gather cX2_gather 5 (rmo 4 103) (fun ad adK => [.ref (ad 4), .ref (ad p0), .int p1, .int p2]) μ z := Mv.of h (by decide +kernel) (fun _ _ => Nat.le_of_ble_eq_true rfl) (fun X hX hQ hl hcs => gX2_gather_E hX hQ hcs N p0 p1 p2 μ)
/-! ===== DutyCase$Comparison.differenceFor(LDutyCase$Book;II)J ===== -/
set_option maxHeartbeats 4000000 in
set_option maxRecDepth 100000 in
theorem gX2_differenceFor_E {X : Ctx} {z : Int64 × Mem} (hX : Fx wC X cX2_differenceFor 4 RX2 (some .long) (rmo 4 103)) (hQ : Qx_l wC X z) (hcs : cx_cells X = 0 ∧ cx_slots X = 0) (N : Nat) (p0 : Nat) (p1 : Int32) (p2 : Int32) (μ : Mem) : G wC X z 0 [(0, .ref (cx_ad X 4)), (1, .ref (cx_ad X p0)), (2, .int p1), (3, .int p2)] [] μ (fX2_differenceFor N p0 p1 p2 μ) := by
  unfold fX2_differenceFor
  refine G_guard (fun hp0 => ?_)
  refine G_aload_n hX 0 rfl rfl dX2_differenceFor_0 ?_
  refine gf_X2_25_C4 hX dX2_differenceFor_1 ?_
  refine G_aload_n hX 1 rfl rfl dX2_differenceFor_4 ?_
  refine G_aload_n hX 1 rfl rfl dX2_differenceFor_5 ?_
  refine gf_X2_46_B0 hX hp0 dX2_differenceFor_6 ?_
  refine gf_X2_99_B12 hX hp0 dX2_differenceFor_9 ?_
  refine G_iload_n hX 2 rfl rfl dX2_differenceFor_12 ?_
  refine G_aI hX (atB_14 hp0) dX2_differenceFor_13 (fun x1 => ?_)
  refine G_cVv hX 3 8 (fun ad adK => [.ref (ad p0), .int x1]) [] (fun z2 h2 => cX8_look_ok (cx_l X) N p0 x1 μ z2 h2) ok_X8_look lm_X2_29 atC3.1 atC3.2 rfl rfl (fun _ _ => rfl) (Nat.le_of_ble_eq_true rfl) ⟨rfl, rfl, by decide, by decide⟩ (cs0 hcs) dX2_differenceFor_14 (fun μ => ?_)
  refine G_aload_n hX 0 rfl rfl dX2_differenceFor_17 ?_
  refine G_aload_n hX 1 rfl rfl dX2_differenceFor_18 ?_
  refine G_iload_n hX 2 rfl rfl dX2_differenceFor_19 ?_
  refine G_iload_n hX 3 rfl rfl dX2_differenceFor_20 ?_
  refine G_cVl hX 4 2 (fun ad adK => [.ref (ad p0), .int p1, .int p2]) [] (fun z2 h2 => cX2_worthFor_ok (cx_l X) N p0 p1 p2 μ z2 h2) ok_X2_worthFor lm_X2_65 atC4.1 atC4.2 rfl rfl (fun _ _ => rfl) (Nat.le_of_ble_eq_true rfl) ⟨rfl, rfl, by decide, by decide⟩ (cs0 hcs) dX2_differenceFor_21 (fun r2 μ => ?_)
  refine G_ldc2 hX lc_X2_102 dX2_differenceFor_24 ?_
  refine G_aload_n hX 1 rfl rfl dX2_differenceFor_27 ?_
  refine gf_X2_46_B0 hX hp0 dX2_differenceFor_28 ?_
  refine gf_X2_104_B12 hX hp0 dX2_differenceFor_31 ?_
  refine G_iload_n hX 2 rfl rfl dX2_differenceFor_34 ?_
  refine G_aI hX (atB_21 hp0) dX2_differenceFor_35 (fun x3 => ?_)
  refine G_i2l hX dX2_differenceFor_36 ?_
  refine G_lmul hX dX2_differenceFor_37 ?_
  refine G_lsub hX dX2_differenceFor_38 ?_
  refine G_aload_n hX 1 rfl rfl dX2_differenceFor_39 ?_
  refine gf_X2_46_B0 hX hp0 dX2_differenceFor_40 ?_
  refine gf_X2_73_B12 hX hp0 dX2_differenceFor_43 ?_
  refine G_iload_n hX 2 rfl rfl dX2_differenceFor_46 ?_
  refine G_aI hX (atB_18 hp0) dX2_differenceFor_47 (fun x4 => ?_)
  refine G_i2l hX dX2_differenceFor_48 ?_
  refine G_lmul hX dX2_differenceFor_49 ?_
  exact G_lret hX hQ dX2_differenceFor_50
theorem cX2_differenceFor_ok (l : Launch) (N : Nat) (p0 : Nat) (p1 : Int32) (p2 : Int32) (μ : Mem) (z : Int64 × Mem) (h : fX2_differenceFor N p0 p1 p2 μ = some z) : Ml wC l yX2_differenceFor cX2_differenceFor 4 .long (rmo 4 103) (fun ad adK => [.ref (ad 4), .ref (ad p0), .int p1, .int p2]) μ z := Ml.of h (by decide +kernel) (fun _ _ => Nat.le_of_ble_eq_true rfl) (fun X hX hQ hl hcs => gX2_differenceFor_E hX hQ hcs N p0 p1 p2 μ)
/-! ===== DutyCase$Comparison.differenceAt(II)J ===== -/
set_option maxHeartbeats 4000000 in
set_option maxRecDepth 100000 in
theorem gX2_differenceAt_E {X : Ctx} {z : Int64 × Mem} (hX : Fx wC X cX2_differenceAt 3 RX2 (some .long) (rmo 0 0)) (hQ : Qx_l wC X z) (hcs : cx_cells X = 0 ∧ cx_slots X = 0) (N : Nat) (p0 : Int32) (p1 : Int32) (μ : Mem) : G wC X z 0 [(0, .ref (cx_ad X 4)), (1, .int p0), (2, .int p1)] [] μ (fX2_differenceAt N p0 p1 μ) := by
  unfold fX2_differenceAt
  refine G_aload_n hX 0 rfl rfl dX2_differenceAt_0 ?_
  refine gf_X2_22_C4 hX dX2_differenceAt_1 ?_
  refine G_iload_n hX 1 rfl rfl dX2_differenceAt_4 ?_
  refine G_aL hX atC22 dX2_differenceAt_5 (fun x1 => ?_)
  refine G_aload_n hX 0 rfl rfl dX2_differenceAt_6 ?_
  refine gf_X2_18_C4 hX dX2_differenceAt_7 ?_
  refine G_iload_n hX 1 rfl rfl dX2_differenceAt_10 ?_
  refine G_aL hX atC21 dX2_differenceAt_11 (fun x2 => ?_)
  refine G_lsub hX dX2_differenceAt_12 ?_
  refine G_ldc2 hX lc_X2_102 dX2_differenceAt_13 ?_
  refine G_iload_n hX 2 rfl rfl dX2_differenceAt_16 ?_
  refine G_i2l hX dX2_differenceAt_17 ?_
  refine G_lmul hX dX2_differenceAt_18 ?_
  refine G_lsub hX dX2_differenceAt_19 ?_
  refine G_aload_n hX 0 rfl rfl dX2_differenceAt_20 ?_
  refine gf_X2_15_C4 hX dX2_differenceAt_21 ?_
  refine G_iload_n hX 1 rfl rfl dX2_differenceAt_24 ?_
  refine G_aI hX atC20 dX2_differenceAt_25 (fun x3 => ?_)
  refine G_i2l hX dX2_differenceAt_26 ?_
  refine G_lmul hX dX2_differenceAt_27 ?_
  exact G_lret hX hQ dX2_differenceAt_28
theorem cX2_differenceAt_ok (l : Launch) (N : Nat) (p0 : Int32) (p1 : Int32) (μ : Mem) (z : Int64 × Mem) (h : fX2_differenceAt N p0 p1 μ = some z) : Ml wC l yX2_differenceAt cX2_differenceAt 3 .long (rmo 0 0) (fun ad adK => [.ref (ad 4), .int p0, .int p1]) μ z := Ml.of h (by decide +kernel) (fun _ _ => Nat.le_of_ble_eq_true rfl) (fun X hX hQ hl hcs => gX2_differenceAt_E hX hQ hcs N p0 p1 μ)
/-! ===== DutyCase$Comparison.sumAt(ZI)J ===== -/
set_option maxHeartbeats 4000000 in
set_option maxRecDepth 100000 in
theorem gX2_sumAt_5 {X : Ctx} {z : Int64 × Mem} (hX : Fx wC X cX2_sumAt 8 RX2 (some .long) (rmo 1 24)) (hQ : Qx_l wC X z) (hcs : cx_cells X = 0 ∧ cx_slots X = 0) (N : Nat) : ∀ (n : Nat) (v1 : Int32) (v2 : Int32) (v3 : Int64) (v5 : Int32) (μ : Mem), G wC X z 5 [(0, .ref (cx_ad X 4)), (1, .int v1), (2, .int v2), (3, .long v3), (5, .int v5)] [] μ (fX2_sumAt_5 N n v1 v2 v3 v5 μ) := by
  intro n
  induction n with
  | zero =>
    intro v1 v2 v3 v5 μ
    exact G_none
  | succ n ih =>
    intro v1 v2 v3 v5 μ
    unfold fX2_sumAt_5
    refine G_iload hX 4 rfl dX2_sumAt_5 ?_
    refine G_aload_n hX 0 rfl rfl dX2_sumAt_7 ?_
    refine gf_X2_35_C4 hX dX2_sumAt_8 ?_
    refine G_nmi (fun x1 => ?_)
    refine G_icmp_ge hX 47 (by decide) dX2_sumAt_11 ?_ ?_
    · refine G_lload_n hX 3 rfl rfl dX2_sumAt_47 ?_
      exact G_lret hX hQ dX2_sumAt_48
    · refine G_aload_n hX 0 rfl rfl dX2_sumAt_14 ?_
      refine G_iload hX 4 rfl dX2_sumAt_15 ?_
      refine G_iload_n hX 2 rfl rfl dX2_sumAt_17 ?_
      refine G_cVl hX 4 2 (fun ad adK => [.int v5, .int v2]) [] (fun z2 h2 => cX2_differenceAt_ok (cx_l X) N v5 v2 μ z2 h2) ok_X2_differenceAt lm_X2_107 atC4.1 atC4.2 rfl rfl (fun _ _ => rfl) (Nat.le_of_ble_eq_true rfl) ⟨rfl, rfl, by decide, by decide⟩ (cs0 hcs) dX2_sumAt_18 (fun r2 μ => ?_)
      refine G_lstore hX [(6, .long r2), (0, .ref (cx_ad X 4)), (1, .int v1), (2, .int v2), (3, .long v3), (5, .int v5)] (by decide) rfl dX2_sumAt_21 ?_
      refine G_lload_n hX 4 rfl rfl dX2_sumAt_23 ?_
      refine G_iload_n hX 2 rfl rfl dX2_sumAt_24 ?_
      refine G_if_eq hX 37 (by decide) dX2_sumAt_25 ?_ ?_
      · refine G_lload hX 0 rfl dX2_sumAt_37 ?_
        refine G_ladd hX dX2_sumAt_39 ?_
        refine G_nml (fun x3 => ?_)
        refine G_lstore_n hX [(3, .long x3), (6, .long r2), (0, .ref (cx_ad X 4)), (1, .int v1), (2, .int v2), (5, .int v5)] rfl (by decide) rfl dX2_sumAt_40 ?_
        refine G_iincN hX 5 (fun x4 => [(5, .int x4), (3, .long x3), (6, .long r2), (0, .ref (cx_ad X 4)), (1, .int v1), (2, .int v2)]) rfl rfl (by decide) (fun _ => rfl) dX2_sumAt_41 (fun x4 => ?_)
        refine G_goto hX 5 (by decide) dX2_sumAt_44 ?_
        exact G_sub [3, 4, 5, 1, 0] rfl (ih v1 v2 x3 x4 μ)
      · refine G_lconst hX (0 : Int64) rfl dX2_sumAt_28 ?_
        refine G_lload hX 0 rfl dX2_sumAt_29 ?_
        refine G_mmaxL hX lm_X2_110 ok_J9_max_f86c9.1 ok_J9_max_f86c9.2.1 ok_J9_max_f86c9.2.2.1 ⟨Nat.le_of_ble_eq_true rfl, Nat.le_of_ble_eq_true rfl⟩ (cs0 hcs) dX2_sumAt_31 ?_
        refine G_goto hX 39 (by decide) dX2_sumAt_34 ?_
        refine G_ladd hX dX2_sumAt_39 ?_
        refine G_nml (fun x5 => ?_)
        refine G_lstore_n hX [(3, .long x5), (6, .long r2), (0, .ref (cx_ad X 4)), (1, .int v1), (2, .int v2), (5, .int v5)] rfl (by decide) rfl dX2_sumAt_40 ?_
        refine G_iincN hX 5 (fun x6 => [(5, .int x6), (3, .long x5), (6, .long r2), (0, .ref (cx_ad X 4)), (1, .int v1), (2, .int v2)]) rfl rfl (by decide) (fun _ => rfl) dX2_sumAt_41 (fun x6 => ?_)
        refine G_goto hX 5 (by decide) dX2_sumAt_44 ?_
        exact G_sub [3, 4, 5, 1, 0] rfl (ih v1 v2 x5 x6 μ)
set_option maxHeartbeats 4000000 in
set_option maxRecDepth 100000 in
theorem gX2_sumAt_E {X : Ctx} {z : Int64 × Mem} (hX : Fx wC X cX2_sumAt 8 RX2 (some .long) (rmo 1 24)) (hQ : Qx_l wC X z) (hcs : cx_cells X = 0 ∧ cx_slots X = 0) (N : Nat) (p0 : Int32) (p1 : Int32) (μ : Mem) : G wC X z 0 [(0, .ref (cx_ad X 4)), (1, .int p0), (2, .int p1)] [] μ (fX2_sumAt N p0 p1 μ) := by
  unfold fX2_sumAt
  refine G_lconst hX (0 : Int64) rfl dX2_sumAt_0 ?_
  refine G_lstore_n hX [(3, .long (0 : Int64)), (0, .ref (cx_ad X 4)), (1, .int p0), (2, .int p1)] rfl (by decide) rfl dX2_sumAt_1 ?_
  refine G_iconst hX (0 : Int32) rfl dX2_sumAt_2 ?_
  refine G_istore hX [(5, .int (0 : Int32)), (3, .long (0 : Int64)), (0, .ref (cx_ad X 4)), (1, .int p0), (2, .int p1)] (by decide) rfl dX2_sumAt_3 ?_
  exact G_sub [2, 3, 4, 1, 0] rfl (gX2_sumAt_5 hX hQ hcs N N p0 p1 (0 : Int64) (0 : Int32) μ)
theorem cX2_sumAt_ok (l : Launch) (N : Nat) (p0 : Int32) (p1 : Int32) (μ : Mem) (z : Int64 × Mem) (h : fX2_sumAt N p0 p1 μ = some z) : Ml wC l yX2_sumAt cX2_sumAt 8 .long (rmo 1 24) (fun ad adK => [.ref (ad 4), .int p0, .int p1]) μ z := Ml.of h (by decide +kernel) (fun _ _ => Nat.le_of_ble_eq_true rfl) (fun X hX hQ hl hcs => gX2_sumAt_E hX hQ hcs N p0 p1 μ)
/-! ===== DutyCase$Comparison.marginOf(JJ)I ===== -/
set_option maxHeartbeats 4000000 in
set_option maxRecDepth 100000 in
theorem gX2_marginOf_E {X : Ctx} {z : Int32 × Mem} (hX : Fx wC X cX2_marginOf 6 RX2 (some .int) (rmo 1 25)) (hQ : Qx_i wC X z) (hcs : cx_cells X = 0 ∧ cx_slots X = 0) (N : Nat) (p0 : Int64) (p1 : Int64) (μ : Mem) : G wC X z 0 [(0, .long p0), (2, .long p1)] [] μ (fX2_marginOf N p0 p1 μ) := by
  unfold fX2_marginOf
  refine G_lload_n hX 1 rfl rfl dX2_marginOf_0 ?_
  refine G_lconst hX (0 : Int64) rfl dX2_marginOf_1 ?_
  refine G_lcmp hX dX2_marginOf_2 ?_
  refine G_if_gt hX 19 (by decide) dX2_marginOf_3 ?_ ?_
  · refine G_ldc2 hX lc_X2_117 dX2_marginOf_19 ?_
    refine G_lload_n hX 0 rfl rfl dX2_marginOf_22 ?_
    refine G_lmul hX dX2_marginOf_23 ?_
    refine G_lload_n hX 1 rfl rfl dX2_marginOf_24 ?_
    refine G_cSl hX (fun ad adK => [.long ((10000 : Int64) * p0), .long p1]) [] (fun z2 h2 => cJ9_floorDiv_f86c9_ok (cx_l X) N ((10000 : Int64) * p0) p1 μ z2 h2) ok_J9_floorDiv_f86c9 lm_X2_119 rfl (fun _ _ => rfl) (Nat.le_of_ble_eq_true rfl) ⟨rfl, rfl, by decide, by decide⟩ (cs0 hcs) dX2_marginOf_25 (fun r1 μ => ?_)
    refine G_lstore hX [(4, .long r1), (0, .long p0), (2, .long p1)] (by decide) rfl dX2_marginOf_28 ?_
    refine G_lconst hX (0 : Int64) rfl dX2_marginOf_30 ?_
    refine G_ldc2 hX lc_X2_122 dX2_marginOf_31 ?_
    refine G_lload hX 0 rfl dX2_marginOf_34 ?_
    refine G_mminL hX lm_X2_124 ok_J9_min_f86c9.1 ok_J9_min_f86c9.2.1 ok_J9_min_f86c9.2.2.1 ⟨Nat.le_of_ble_eq_true rfl, Nat.le_of_ble_eq_true rfl⟩ (cs0 hcs) dX2_marginOf_36 ?_
    refine G_mmaxL hX lm_X2_110 ok_J9_max_f86c9.1 ok_J9_max_f86c9.2.1 ok_J9_max_f86c9.2.2.1 ⟨Nat.le_of_ble_eq_true rfl, Nat.le_of_ble_eq_true rfl⟩ (cs0 hcs) dX2_marginOf_39 ?_
    refine G_l2i hX dX2_marginOf_42 ?_
    exact G_iret hX hQ dX2_marginOf_43
  · refine G_lload_n hX 0 rfl rfl dX2_marginOf_6 ?_
    refine G_lconst hX (0 : Int64) rfl dX2_marginOf_7 ?_
    refine G_lcmp hX dX2_marginOf_8 ?_
    refine G_if_ne hX 16 (by decide) dX2_marginOf_9 ?_ ?_
    · refine G_ldc hX lc_X2_116 dX2_marginOf_16 ?_
      exact G_iret hX hQ dX2_marginOf_18
    · refine G_iconst hX (0 : Int32) rfl dX2_marginOf_12 ?_
      refine G_goto hX 18 (by decide) dX2_marginOf_13 ?_
      exact G_iret hX hQ dX2_marginOf_18
theorem cX2_marginOf_ok (l : Launch) (N : Nat) (p0 : Int64) (p1 : Int64) (μ : Mem) (z : Int32 × Mem) (h : fX2_marginOf N p0 p1 μ = some z) : Mi wC l yX2_marginOf cX2_marginOf 6 .int (rmo 1 25) (fun ad adK => [.long p0, .long p1]) μ z := Mi.of h (by decide +kernel) (fun _ _ => Nat.le_of_ble_eq_true rfl) (fun X hX hQ hl hcs => gX2_marginOf_E hX hQ hcs N p0 p1 μ)
/-! ===== DutyCase$Comparison.marginAt(ZI)I ===== -/
set_option maxHeartbeats 4000000 in
set_option maxRecDepth 100000 in
theorem gX2_marginAt_E {X : Ctx} {z : Int32 × Mem} (hX : Fx wC X cX2_marginAt 3 RX2 (some .int) (rmo 2 51)) (hQ : Qx_i wC X z) (hcs : cx_cells X = 0 ∧ cx_slots X = 0) (N : Nat) (p0 : Int32) (p1 : Int32) (μ : Mem) : G wC X z 0 [(0, .ref (cx_ad X 4)), (1, .int p0), (2, .int p1)] [] μ (fX2_marginAt N p0 p1 μ) := by
  unfold fX2_marginAt
  refine G_aload_n hX 0 rfl rfl dX2_marginAt_0 ?_
  refine G_iload_n hX 1 rfl rfl dX2_marginAt_1 ?_
  refine G_iload_n hX 2 rfl rfl dX2_marginAt_2 ?_
  refine G_cVl hX 4 2 (fun ad adK => [.int p0, .int p1]) [] (fun z2 h2 => cX2_sumAt_ok (cx_l X) N p0 p1 μ z2 h2) ok_X2_sumAt lm_X2_127 atC4.1 atC4.2 rfl rfl (fun _ _ => rfl) (Nat.le_of_ble_eq_true rfl) ⟨rfl, rfl, by decide, by decide⟩ (cs0 hcs) dX2_marginAt_3 (fun r1 μ => ?_)
  refine G_aload_n hX 0 rfl rfl dX2_marginAt_6 ?_
  refine gf_X2_39_C4 hX dX2_marginAt_7 ?_
  refine G_nml (fun x2 => ?_)
  refine G_ldc2 hX lc_X2_102 dX2_marginAt_10 ?_
  refine G_iload_n hX 2 rfl rfl dX2_marginAt_13 ?_
  refine G_i2l hX dX2_marginAt_14 ?_
  refine G_lmul hX dX2_marginAt_15 ?_
  refine G_aload_n hX 0 rfl rfl dX2_marginAt_16 ?_
  refine gf_X2_43_C4 hX dX2_marginAt_17 ?_
  refine G_nml (fun x3 => ?_)
  refine G_lmul hX dX2_marginAt_20 ?_
  refine G_ladd hX dX2_marginAt_21 ?_
  refine G_cSi hX (fun ad adK => [.long r1, .long (x2 + (((1000 : Int64) * p1.toInt64) * x3))]) [] (fun z2 h2 => cX2_marginOf_ok (cx_l X) N r1 (x2 + (((1000 : Int64) * p1.toInt64) * x3)) μ z2 h2) ok_X2_marginOf lm_X2_131 rfl (fun _ _ => rfl) (Nat.le_of_ble_eq_true rfl) ⟨rfl, rfl, by decide, by decide⟩ (cs0 hcs) dX2_marginAt_22 (fun r4 μ => ?_)
  exact G_iret hX hQ dX2_marginAt_25
theorem cX2_marginAt_ok (l : Launch) (N : Nat) (p0 : Int32) (p1 : Int32) (μ : Mem) (z : Int32 × Mem) (h : fX2_marginAt N p0 p1 μ = some z) : Mi wC l yX2_marginAt cX2_marginAt 3 .int (rmo 2 51) (fun ad adK => [.ref (ad 4), .int p0, .int p1]) μ z := Mi.of h (by decide +kernel) (fun _ _ => Nat.le_of_ble_eq_true rfl) (fun X hX hQ hl hcs => gX2_marginAt_E hX hQ hcs N p0 p1 μ)
/-! ===== DutyCase$Comparison.ownMargin(LDutyCase$Book;IIZ)I ===== -/
set_option maxHeartbeats 4000000 in
set_option maxRecDepth 100000 in
theorem gX2_ownMargin_E {X : Ctx} {z : Int32 × Mem} (hX : Fx wC X cX2_ownMargin 5 RX2 (some .int) (rmo 5 127)) (hQ : Qx_i wC X z) (hcs : cx_cells X = 0 ∧ cx_slots X = 0) (N : Nat) (p0 : Nat) (p1 : Int32) (p2 : Int32) (p3 : Int32) (μ : Mem) : G wC X z 0 [(0, .ref (cx_ad X 4)), (1, .ref (cx_ad X p0)), (2, .int p1), (3, .int p2), (4, .int p3)] [] μ (fX2_ownMargin N p0 p1 p2 p3 μ) := by
  unfold fX2_ownMargin
  refine G_guard (fun hp0 => ?_)
  refine G_aload_n hX 0 rfl rfl dX2_ownMargin_0 ?_
  refine G_aload_n hX 1 rfl rfl dX2_ownMargin_1 ?_
  refine G_iload_n hX 2 rfl rfl dX2_ownMargin_2 ?_
  refine G_iload_n hX 3 rfl rfl dX2_ownMargin_3 ?_
  refine G_cVv hX 4 2 (fun ad adK => [.ref (ad p0), .int p1, .int p2]) [] (fun z2 h2 => cX2_gather_ok (cx_l X) N p0 p1 p2 μ z2 h2) ok_X2_gather lm_X2_135 atC4.1 atC4.2 rfl rfl (fun _ _ => rfl) (Nat.le_of_ble_eq_true rfl) ⟨rfl, rfl, by decide, by decide⟩ (cs0 hcs) dX2_ownMargin_4 (fun μ => ?_)
  refine G_aload_n hX 0 rfl rfl dX2_ownMargin_7 ?_
  refine G_iload hX 4 rfl dX2_ownMargin_8 ?_
  refine G_iconst hX (0 : Int32) rfl dX2_ownMargin_10 ?_
  refine G_cVi hX 4 2 (fun ad adK => [.int p3, .int (0 : Int32)]) [] (fun z2 h2 => cX2_marginAt_ok (cx_l X) N p3 (0 : Int32) μ z2 h2) ok_X2_marginAt lm_X2_139 atC4.1 atC4.2 rfl rfl (fun _ _ => rfl) (Nat.le_of_ble_eq_true rfl) ⟨rfl, rfl, by decide, by decide⟩ (cs0 hcs) dX2_ownMargin_11 (fun r1 μ => ?_)
  exact G_iret hX hQ dX2_ownMargin_14
theorem cX2_ownMargin_ok (l : Launch) (N : Nat) (p0 : Nat) (p1 : Int32) (p2 : Int32) (p3 : Int32) (μ : Mem) (z : Int32 × Mem) (h : fX2_ownMargin N p0 p1 p2 p3 μ = some z) : Mi wC l yX2_ownMargin cX2_ownMargin 5 .int (rmo 5 127) (fun ad adK => [.ref (ad 4), .ref (ad p0), .int p1, .int p2, .int p3]) μ z := Mi.of h (by decide +kernel) (fun _ _ => Nat.le_of_ble_eq_true rfl) (fun X hX hQ hl hcs => gX2_ownMargin_E hX hQ hcs N p0 p1 p2 p3 μ)
/-! ===== DutyCase$Comparison.marginNow(LDutyCase$Book;I)I ===== -/
set_option maxHeartbeats 4000000 in
set_option maxRecDepth 100000 in
theorem gX2_marginNow_E {X : Ctx} {z : Int32 × Mem} (hX : Fx wC X cX2_marginNow 3 RX2 (some .int) (rmo 5 127)) (hQ : Qx_i wC X z) (hcs : cx_cells X = 0 ∧ cx_slots X = 0) (N : Nat) (p0 : Nat) (p1 : Int32) (μ : Mem) : G wC X z 0 [(0, .ref (cx_ad X 4)), (1, .ref (cx_ad X p0)), (2, .int p1)] [] μ (fX2_marginNow N p0 p1 μ) := by
  unfold fX2_marginNow
  refine G_guard (fun hp0 => ?_)
  refine G_aload_n hX 0 rfl rfl dX2_marginNow_0 ?_
  refine G_aload_n hX 1 rfl rfl dX2_marginNow_1 ?_
  refine G_iload_n hX 2 rfl rfl dX2_marginNow_2 ?_
  refine G_aload_n hX 1 rfl rfl dX2_marginNow_3 ?_
  refine gf_X2_143_B0 hX hp0 dX2_marginNow_4 ?_
  refine G_iconst hX (0 : Int32) rfl dX2_marginNow_7 ?_
  refine G_aI hX (atB_28 hp0) dX2_marginNow_8 (fun x1 => ?_)
  refine G_cVv hX 4 2 (fun ad adK => [.ref (ad p0), .int p1, .int x1]) [] (fun z2 h2 => cX2_gather_ok (cx_l X) N p0 p1 x1 μ z2 h2) ok_X2_gather lm_X2_135 atC4.1 atC4.2 rfl rfl (fun _ _ => rfl) (Nat.le_of_ble_eq_true rfl) ⟨rfl, rfl, by decide, by decide⟩ (cs0 hcs) dX2_marginNow_9 (fun μ => ?_)
  refine G_aload_n hX 0 rfl rfl dX2_marginNow_12 ?_
  refine G_aload_n hX 1 rfl rfl dX2_marginNow_13 ?_
  refine G_cVi hX p0 1 (fun ad adK => []) [.ref (cx_ad X 4)] (fun z2 h2 => cX1_isZeroing_ok (cx_l X) N p0 μ z2 h2) ok_X1_isZeroing lm_X2_146 (atB_0 hp0).1 (atB_0 hp0).2 rfl rfl (fun _ _ => rfl) (Nat.le_of_ble_eq_true rfl) ⟨rfl, rfl, by decide, by decide⟩ (cs0 hcs) dX2_marginNow_14 (fun r2 μ => ?_)
  refine G_iconst hX (0 : Int32) rfl dX2_marginNow_17 ?_
  refine G_cVi hX 4 2 (fun ad adK => [.int r2, .int (0 : Int32)]) [] (fun z2 h2 => cX2_marginAt_ok (cx_l X) N r2 (0 : Int32) μ z2 h2) ok_X2_marginAt lm_X2_139 atC4.1 atC4.2 rfl rfl (fun _ _ => rfl) (Nat.le_of_ble_eq_true rfl) ⟨rfl, rfl, by decide, by decide⟩ (cs0 hcs) dX2_marginNow_18 (fun r3 μ => ?_)
  exact G_iret hX hQ dX2_marginNow_21
theorem cX2_marginNow_ok (l : Launch) (N : Nat) (p0 : Nat) (p1 : Int32) (μ : Mem) (z : Int32 × Mem) (h : fX2_marginNow N p0 p1 μ = some z) : Mi wC l yX2_marginNow cX2_marginNow 3 .int (rmo 5 127) (fun ad adK => [.ref (ad 4), .ref (ad p0), .int p1]) μ z := Mi.of h (by decide +kernel) (fun _ _ => Nat.le_of_ble_eq_true rfl) (fun X hX hQ hl hcs => gX2_marginNow_E hX hQ hcs N p0 p1 μ)
/-! ===== DutyCase$Comparison.marginWithout(LDutyCase$Book;I)I ===== -/
set_option maxHeartbeats 4000000 in
set_option maxRecDepth 100000 in
theorem gX2_marginWithout_E {X : Ctx} {z : Int32 × Mem} (hX : Fx wC X cX2_marginWithout 4 RX2 (some .int) (rmo 6 149)) (hQ : Qx_i wC X z) (hcs : cx_cells X = 0 ∧ cx_slots X = 0) (N : Nat) (p0 : Nat) (p1 : Int32) (μ : Mem) : G wC X z 0 [(0, .ref (cx_ad X 4)), (1, .ref (cx_ad X p0)), (2, .int p1)] [] μ (fX2_marginWithout N p0 p1 μ) := by
  unfold fX2_marginWithout
  refine G_guard (fun hp0 => ?_)
  refine G_aload_n hX 1 rfl rfl dX2_marginWithout_0 ?_
  refine gf_X2_46_B0 hX hp0 dX2_marginWithout_1 ?_
  refine gf_X2_150_B12 hX hp0 dX2_marginWithout_4 ?_
  refine G_iload_n hX 2 rfl rfl dX2_marginWithout_7 ?_
  refine G_iconst hX (0 : Int32) rfl dX2_marginWithout_8 ?_
  refine G_sZ hX (atB_22 hp0) dX2_marginWithout_9 (fun μ => ?_)
  refine G_aload_n hX 0 rfl rfl dX2_marginWithout_10 ?_
  refine G_aload_n hX 1 rfl rfl dX2_marginWithout_11 ?_
  refine G_aload_n hX 1 rfl rfl dX2_marginWithout_12 ?_
  refine gf_X2_46_B0 hX hp0 dX2_marginWithout_13 ?_
  refine gf_X2_99_B12 hX hp0 dX2_marginWithout_16 ?_
  refine G_iload_n hX 2 rfl rfl dX2_marginWithout_19 ?_
  refine G_aI hX (atB_14 hp0) dX2_marginWithout_20 (fun x1 => ?_)
  refine G_cVi hX 4 2 (fun ad adK => [.ref (ad p0), .int x1]) [] (fun z2 h2 => cX2_marginNow_ok (cx_l X) N p0 x1 μ z2 h2) ok_X2_marginNow lm_X2_154 atC4.1 atC4.2 rfl rfl (fun _ _ => rfl) (Nat.le_of_ble_eq_true rfl) ⟨rfl, rfl, by decide, by decide⟩ (cs0 hcs) dX2_marginWithout_21 (fun r2 μ => ?_)
  refine G_istore_n hX [(3, .int r2), (0, .ref (cx_ad X 4)), (1, .ref (cx_ad X p0)), (2, .int p1)] rfl (by decide) rfl dX2_marginWithout_24 ?_
  refine G_aload_n hX 2 rfl rfl dX2_marginWithout_25 ?_
  refine gf_X2_46_B0 hX hp0 dX2_marginWithout_26 ?_
  refine gf_X2_150_B12 hX hp0 dX2_marginWithout_29 ?_
  refine G_iload_n hX 3 rfl rfl dX2_marginWithout_32 ?_
  refine G_iconst hX (1 : Int32) rfl dX2_marginWithout_33 ?_
  refine G_sZ hX (atB_22 hp0) dX2_marginWithout_34 (fun μ => ?_)
  refine G_iload_n hX 0 rfl rfl dX2_marginWithout_35 ?_
  exact G_iret hX hQ dX2_marginWithout_36
theorem cX2_marginWithout_ok (l : Launch) (N : Nat) (p0 : Nat) (p1 : Int32) (μ : Mem) (z : Int32 × Mem) (h : fX2_marginWithout N p0 p1 μ = some z) : Mi wC l yX2_marginWithout cX2_marginWithout 4 .int (rmo 6 149) (fun ad adK => [.ref (ad 4), .ref (ad p0), .int p1]) μ z := Mi.of h (by decide +kernel) (fun _ _ => Nat.le_of_ble_eq_true rfl) (fun X hX hQ hl hcs => gX2_marginWithout_E hX hQ hcs N p0 p1 μ)
/-! ===== DutyCase$Comparison.leastRaise(Z)I ===== -/
set_option maxHeartbeats 4000000 in
set_option maxRecDepth 100000 in
theorem gX2_leastRaise_25 {X : Ctx} {z : Int32 × Mem} (hX : Fx wC X cX2_leastRaise 6 RX2 (some .int) (rmo 3 73)) (hQ : Qx_i wC X z) (hcs : cx_cells X = 0 ∧ cx_slots X = 0) (N : Nat) : ∀ (n : Nat) (v1 : Int32) (v2 : Int32) (v3 : Int32) (v4 : Int32) (μ : Mem), G wC X z 25 [(0, .ref (cx_ad X 4)), (1, .int v1), (2, .int v2), (3, .int v3), (4, .int v4)] [] μ (fX2_leastRaise_25 N n v1 v2 v3 v4 μ) := by
  intro n
  induction n with
  | zero =>
    intro v1 v2 v3 v4 μ
    exact G_none
  | succ n ih =>
    intro v1 v2 v3 v4 μ
    unfold fX2_leastRaise_25
    refine G_iload hX 4 rfl dX2_leastRaise_25 ?_
    refine G_sipush hX (9999 : Int32) rfl dX2_leastRaise_27 ?_
    refine G_icmp_ge hX 75 (by decide) dX2_leastRaise_30 ?_ ?_
    · refine G_iload_n hX 2 rfl rfl dX2_leastRaise_75 ?_
      exact G_iret hX hQ dX2_leastRaise_76
    · refine G_iload_n hX 2 rfl rfl dX2_leastRaise_33 ?_
      refine G_iload_n hX 3 rfl rfl dX2_leastRaise_34 ?_
      refine G_icmp_ge hX 75 (by decide) dX2_leastRaise_35 ?_ ?_
      · refine G_iload_n hX 2 rfl rfl dX2_leastRaise_75 ?_
        exact G_iret hX hQ dX2_leastRaise_76
      · refine G_iload_n hX 2 rfl rfl dX2_leastRaise_38 ?_
        refine G_iload_n hX 3 rfl rfl dX2_leastRaise_39 ?_
        refine G_iadd hX dX2_leastRaise_40 ?_
        refine G_iconst hX (2 : Int32) rfl dX2_leastRaise_41 ?_
        refine G_idiv0 hX (by decide) dX2_leastRaise_42 ?_
        refine G_nmi (fun x2 => ?_)
        refine G_istore hX [(5, .int x2), (0, .ref (cx_ad X 4)), (1, .int v1), (2, .int v2), (3, .int v3), (4, .int v4)] (by decide) rfl dX2_leastRaise_43 ?_
        refine G_aload_n hX 1 rfl rfl dX2_leastRaise_45 ?_
        refine G_iload_n hX 2 rfl rfl dX2_leastRaise_46 ?_
        refine G_iload hX 0 rfl dX2_leastRaise_47 ?_
        refine G_cVi hX 4 2 (fun ad adK => [.int v1, .int x2]) [] (fun z2 h2 => cX2_marginAt_ok (cx_l X) N v1 x2 μ z2 h2) ok_X2_marginAt lm_X2_139 atC4.1 atC4.2 rfl rfl (fun _ _ => rfl) (Nat.le_of_ble_eq_true rfl) ⟨rfl, rfl, by decide, by decide⟩ (cs0 hcs) dX2_leastRaise_49 (fun r3 μ => ?_)
        refine G_sipush hX (200 : Int32) rfl dX2_leastRaise_52 ?_
        refine G_icmp_ge hX 64 (by decide) dX2_leastRaise_55 ?_ ?_
        · refine G_iload hX 0 rfl dX2_leastRaise_64 ?_
          refine G_iconst hX (1 : Int32) rfl dX2_leastRaise_66 ?_
          refine G_iadd hX dX2_leastRaise_67 ?_
          refine G_nmi (fun x4 => ?_)
          refine G_istore_n hX [(2, .int x4), (5, .int x2), (0, .ref (cx_ad X 4)), (1, .int v1), (3, .int v3), (4, .int v4)] rfl (by decide) rfl dX2_leastRaise_68 ?_
          refine G_iincN hX 5 (fun x5 => [(4, .int x5), (2, .int x4), (5, .int x2), (0, .ref (cx_ad X 4)), (1, .int v1), (3, .int v3)]) rfl rfl (by decide) (fun _ => rfl) dX2_leastRaise_69 (fun x5 => ?_)
          refine G_goto hX 25 (by decide) dX2_leastRaise_72 ?_
          exact G_sub [3, 4, 1, 5, 0] rfl (ih v1 x4 v3 x5 μ)
        · refine G_iload hX 0 rfl dX2_leastRaise_58 ?_
          refine G_istore_n hX [(3, .int x2), (5, .int x2), (0, .ref (cx_ad X 4)), (1, .int v1), (2, .int v2), (4, .int v4)] rfl (by decide) rfl dX2_leastRaise_60 ?_
          refine G_goto hX 69 (by decide) dX2_leastRaise_61 ?_
          refine G_iincN hX 5 (fun x6 => [(4, .int x6), (3, .int x2), (5, .int x2), (0, .ref (cx_ad X 4)), (1, .int v1), (2, .int v2)]) rfl rfl (by decide) (fun _ => rfl) dX2_leastRaise_69 (fun x6 => ?_)
          refine G_goto hX 25 (by decide) dX2_leastRaise_72 ?_
          exact G_sub [3, 4, 5, 1, 0] rfl (ih v1 v2 x2 x6 μ)
set_option maxHeartbeats 4000000 in
set_option maxRecDepth 100000 in
theorem gX2_leastRaise_E {X : Ctx} {z : Int32 × Mem} (hX : Fx wC X cX2_leastRaise 6 RX2 (some .int) (rmo 3 73)) (hQ : Qx_i wC X z) (hcs : cx_cells X = 0 ∧ cx_slots X = 0) (N : Nat) (p0 : Int32) (μ : Mem) : G wC X z 0 [(0, .ref (cx_ad X 4)), (1, .int p0)] [] μ (fX2_leastRaise N p0 μ) := by
  unfold fX2_leastRaise
  refine G_aload_n hX 0 rfl rfl dX2_leastRaise_0 ?_
  refine G_iload_n hX 1 rfl rfl dX2_leastRaise_1 ?_
  refine G_sipush hX (9999 : Int32) rfl dX2_leastRaise_2 ?_
  refine G_cVi hX 4 2 (fun ad adK => [.int p0, .int (9999 : Int32)]) [] (fun z2 h2 => cX2_marginAt_ok (cx_l X) N p0 (9999 : Int32) μ z2 h2) ok_X2_marginAt lm_X2_139 atC4.1 atC4.2 rfl rfl (fun _ _ => rfl) (Nat.le_of_ble_eq_true rfl) ⟨rfl, rfl, by decide, by decide⟩ (cs0 hcs) dX2_leastRaise_5 (fun r1 μ => ?_)
  refine G_sipush hX (200 : Int32) rfl dX2_leastRaise_8 ?_
  refine G_icmp_lt hX 16 (by decide) dX2_leastRaise_11 ?_ ?_
  · refine G_iconst hX (0 : Int32) rfl dX2_leastRaise_16 ?_
    refine G_istore_n hX [(2, .int (0 : Int32)), (0, .ref (cx_ad X 4)), (1, .int p0)] rfl (by decide) rfl dX2_leastRaise_17 ?_
    refine G_sipush hX (9999 : Int32) rfl dX2_leastRaise_18 ?_
    refine G_istore_n hX [(3, .int (9999 : Int32)), (2, .int (0 : Int32)), (0, .ref (cx_ad X 4)), (1, .int p0)] rfl (by decide) rfl dX2_leastRaise_21 ?_
    refine G_iconst hX (0 : Int32) rfl dX2_leastRaise_22 ?_
    refine G_istore hX [(4, .int (0 : Int32)), (3, .int (9999 : Int32)), (2, .int (0 : Int32)), (0, .ref (cx_ad X 4)), (1, .int p0)] (by decide) rfl dX2_leastRaise_23 ?_
    exact G_sub [3, 4, 2, 1, 0] rfl (gX2_leastRaise_25 hX hQ hcs N N p0 (0 : Int32) (9999 : Int32) (0 : Int32) μ)
  · refine G_iconst hX (-1 : Int32) rfl dX2_leastRaise_14 ?_
    exact G_iret hX hQ dX2_leastRaise_15
theorem cX2_leastRaise_ok (l : Launch) (N : Nat) (p0 : Int32) (μ : Mem) (z : Int32 × Mem) (h : fX2_leastRaise N p0 μ = some z) : Mi wC l yX2_leastRaise cX2_leastRaise 6 .int (rmo 3 73) (fun ad adK => [.ref (ad 4), .int p0]) μ z := Mi.of h (by decide +kernel) (fun _ _ => Nat.le_of_ble_eq_true rfl) (fun X hX hQ hl hcs => gX2_leastRaise_E hX hQ hcs N p0 μ)
/-! ===== DutyCase$Duties.markNegligible(LDutyCase$Book;)V ===== -/
set_option maxHeartbeats 4000000 in
set_option maxRecDepth 100000 in
theorem gX3_markNegligible_143 {X : Ctx} {z : Unit × Mem} (hX : Fx wC X cX3_markNegligible 5 RX3 none (rmo 2 46)) (hQ : Qx_v wC X z) (hcs : cx_cells X = 0 ∧ cx_slots X = 0) (N : Nat) : ∀ (n : Nat) (b0 : Nat) (v4 : Int32) (hb0 : kB b0) (μ : Mem), G wC X z 143 [(0, .ref (cx_ad X 5)), (1, .ref (cx_ad X b0)), (4, .int v4)] [] μ (fX3_markNegligible_143 N n b0 v4 μ) := by
  intro n
  induction n with
  | zero =>
    intro b0 v4 hb0 μ
    exact G_none
  | succ n ih =>
    intro b0 v4 hb0 μ
    unfold fX3_markNegligible_143
    refine G_iload hX 2 rfl dX3_markNegligible_143 ?_
    refine G_aload_n hX 1 rfl rfl dX3_markNegligible_145 ?_
    refine gf_X3_46_B0 hX hb0 dX3_markNegligible_146 ?_
    refine gf_X3_52_B4 hX hb0 dX3_markNegligible_149 ?_
    refine G_nmi (fun x15 => ?_)
    refine G_icmp_ge hX 169 (by decide) dX3_markNegligible_152 ?_ ?_
    · exact G_vret hX hQ dX3_markNegligible_169
    · refine G_aload_n hX 0 rfl rfl dX3_markNegligible_155 ?_
      refine gf_X3_24_C5 hX dX3_markNegligible_156 ?_
      refine G_iload hX 2 rfl dX3_markNegligible_159 ?_
      refine G_iconst hX (0 : Int32) rfl dX3_markNegligible_161 ?_
      refine G_sZ hX atC27 dX3_markNegligible_162 (fun μ => ?_)
      refine G_iincN hX 2 (fun x16 => [(4, .int x16), (0, .ref (cx_ad X 5)), (1, .ref (cx_ad X b0))]) rfl rfl (by decide) (fun _ => rfl) dX3_markNegligible_163 (fun x16 => ?_)
      refine G_goto hX 143 (by decide) dX3_markNegligible_166 ?_
      exact G_sub [1, 2, 0] rfl (ih b0 x16 hb0 μ)
set_option maxHeartbeats 4000000 in
set_option maxRecDepth 100000 in
theorem gX3_markNegligible_129 {X : Ctx} {z : Unit × Mem} (hX : Fx wC X cX3_markNegligible 5 RX3 none (rmo 2 46)) (hQ : Qx_v wC X z) (hcs : cx_cells X = 0 ∧ cx_slots X = 0) (N : Nat) (b0 : Nat) (v2 : Int32) (v3 : Int32) (hb0 : kB b0) (μ : Mem) : G wC X z 129 [(0, .ref (cx_ad X 5)), (1, .ref (cx_ad X b0)), (2, .int v2), (3, .int v3)] [] μ (fX3_markNegligible_129 N b0 v2 v3 μ) := by
  unfold fX3_markNegligible_129
  refine G_bipush hX (100 : Int32) rfl dX3_markNegligible_129 ?_
  refine G_iload_n hX 3 rfl rfl dX3_markNegligible_131 ?_
  refine G_imul hX dX3_markNegligible_132 ?_
  refine G_bipush hX (7 : Int32) rfl dX3_markNegligible_133 ?_
  refine G_iload_n hX 2 rfl rfl dX3_markNegligible_135 ?_
  refine G_imul hX dX3_markNegligible_136 ?_
  refine G_icmp_le hX 169 (by decide) dX3_markNegligible_137 ?_ ?_
  · exact G_vret hX hQ dX3_markNegligible_169
  · refine G_iconst hX (0 : Int32) rfl dX3_markNegligible_140 ?_
    refine G_istore hX [(4, .int (0 : Int32)), (0, .ref (cx_ad X 5)), (1, .ref (cx_ad X b0)), (2, .int v2), (3, .int v3)] (by decide) rfl dX3_markNegligible_141 ?_
    exact G_sub [1, 2, 0] rfl (gX3_markNegligible_143 hX hQ hcs N N b0 (0 : Int32) hb0 μ)
set_option maxHeartbeats 4000000 in
set_option maxRecDepth 100000 in
theorem gX3_markNegligible_98 {X : Ctx} {z : Unit × Mem} (hX : Fx wC X cX3_markNegligible 5 RX3 none (rmo 2 46)) (hQ : Qx_v wC X z) (hcs : cx_cells X = 0 ∧ cx_slots X = 0) (N : Nat) (k49 : Nat → Int32 → Int32 → Int32 → Mem → Option (Unit × Mem)) (hk49 : ∀ (b0 : Nat) (v2 : Int32) (v3 : Int32) (v4 : Int32) (_ : kB b0) (μ : Mem), G wC X z 49 [(0, .ref (cx_ad X 5)), (1, .ref (cx_ad X b0)), (2, .int v2), (3, .int v3), (4, .int v4)] [] μ (k49 b0 v2 v3 v4 μ)) (b0 : Nat) (v2 : Int32) (v3 : Int32) (v4 : Int32) (s0 : Int32) (s1 : Int32) (hb0 : kB b0) (μ : Mem) : G wC X z 98 [(0, .ref (cx_ad X 5)), (1, .ref (cx_ad X b0)), (2, .int v2), (3, .int v3), (4, .int v4)] [.int s0, .int s1, .ref (cx_ad X 27)] μ (fX3_markNegligible_98 N k49 b0 v2 v3 v4 s0 s1 μ) := by
  unfold fX3_markNegligible_98
  refine G_sZ hX atC27 dX3_markNegligible_98 (fun μ => ?_)
  refine G_iload_n hX 3 rfl rfl dX3_markNegligible_99 ?_
  refine G_aload_n hX 0 rfl rfl dX3_markNegligible_100 ?_
  refine gf_X3_24_C5 hX dX3_markNegligible_101 ?_
  refine G_iload hX 4 rfl dX3_markNegligible_104 ?_
  refine G_aZ hX atC27 dX3_markNegligible_106 (fun x9 => ?_)
  refine G_if_eq hX 120 (by decide) dX3_markNegligible_107 ?_ ?_
  · refine G_iconst hX (0 : Int32) rfl dX3_markNegligible_120 ?_
    refine G_iadd hX dX3_markNegligible_121 ?_
    refine G_nmi (fun x10 => ?_)
    refine G_istore_n hX [(3, .int x10), (0, .ref (cx_ad X 5)), (1, .ref (cx_ad X b0)), (2, .int v2), (4, .int v4)] rfl (by decide) rfl dX3_markNegligible_122 ?_
    refine G_iincN hX 4 (fun x11 => [(4, .int x11), (3, .int x10), (0, .ref (cx_ad X 5)), (1, .ref (cx_ad X b0)), (2, .int v2)]) rfl rfl (by decide) (fun _ => rfl) dX3_markNegligible_123 (fun x11 => ?_)
    refine G_goto hX 49 (by decide) dX3_markNegligible_126 ?_
    exact G_sub [2, 3, 4, 1, 0] rfl (hk49 b0 v2 x10 x11 hb0 μ)
  · refine G_aload_n hX 0 rfl rfl dX3_markNegligible_110 ?_
    refine gf_X3_28_C5 hX dX3_markNegligible_111 ?_
    refine G_iload hX 4 rfl dX3_markNegligible_114 ?_
    refine G_aI hX atC28 dX3_markNegligible_116 (fun x12 => ?_)
    refine G_goto hX 121 (by decide) dX3_markNegligible_117 ?_
    refine G_iadd hX dX3_markNegligible_121 ?_
    refine G_nmi (fun x13 => ?_)
    refine G_istore_n hX [(3, .int x13), (0, .ref (cx_ad X 5)), (1, .ref (cx_ad X b0)), (2, .int v2), (4, .int v4)] rfl (by decide) rfl dX3_markNegligible_122 ?_
    refine G_iincN hX 4 (fun x14 => [(4, .int x14), (3, .int x13), (0, .ref (cx_ad X 5)), (1, .ref (cx_ad X b0)), (2, .int v2)]) rfl rfl (by decide) (fun _ => rfl) dX3_markNegligible_123 (fun x14 => ?_)
    refine G_goto hX 49 (by decide) dX3_markNegligible_126 ?_
    exact G_sub [2, 3, 4, 1, 0] rfl (hk49 b0 v2 x13 x14 hb0 μ)
set_option maxHeartbeats 4000000 in
set_option maxRecDepth 100000 in
theorem gX3_markNegligible_49 {X : Ctx} {z : Unit × Mem} (hX : Fx wC X cX3_markNegligible 5 RX3 none (rmo 2 46)) (hQ : Qx_v wC X z) (hcs : cx_cells X = 0 ∧ cx_slots X = 0) (N : Nat) : ∀ (n : Nat) (b0 : Nat) (v2 : Int32) (v3 : Int32) (v4 : Int32) (hb0 : kB b0) (μ : Mem), G wC X z 49 [(0, .ref (cx_ad X 5)), (1, .ref (cx_ad X b0)), (2, .int v2), (3, .int v3), (4, .int v4)] [] μ (fX3_markNegligible_49 N n b0 v2 v3 v4 μ) := by
  intro n
  induction n with
  | zero =>
    intro b0 v2 v3 v4 hb0 μ
    exact G_none
  | succ n ih =>
    intro b0 v2 v3 v4 hb0 μ
    unfold fX3_markNegligible_49
    refine G_iload hX 4 rfl dX3_markNegligible_49 ?_
    refine G_aload_n hX 1 rfl rfl dX3_markNegligible_51 ?_
    refine gf_X3_46_B0 hX hb0 dX3_markNegligible_52 ?_
    refine gf_X3_52_B4 hX hb0 dX3_markNegligible_55 ?_
    refine G_nmi (fun x6 => ?_)
    refine G_icmp_ge hX 129 (by decide) dX3_markNegligible_58 ?_ ?_
    · exact G_sub [0, 1, 2, 3] rfl (gX3_markNegligible_129 hX hQ hcs N b0 v2 v3 hb0 μ)
    · refine G_aload_n hX 0 rfl rfl dX3_markNegligible_61 ?_
      refine gf_X3_24_C5 hX dX3_markNegligible_62 ?_
      refine G_iload hX 4 rfl dX3_markNegligible_65 ?_
      refine G_aload_n hX 0 rfl rfl dX3_markNegligible_67 ?_
      refine gf_X3_28_C5 hX dX3_markNegligible_68 ?_
      refine G_iload hX 4 rfl dX3_markNegligible_71 ?_
      refine G_aI hX atC28 dX3_markNegligible_73 (fun x7 => ?_)
      refine G_if_le hX 97 (by decide) dX3_markNegligible_74 ?_ ?_
      · refine G_iconst hX (0 : Int32) rfl dX3_markNegligible_97 ?_
        exact G_sub [0, 1, 2, 3, 4] rfl (gX3_markNegligible_98 hX hQ hcs N (fun b0 v2 v3 v4 μ => fX3_markNegligible_49 N n b0 v2 v3 v4 μ) (fun b0 v2 v3 v4 hb0 μ => ih b0 v2 v3 v4 hb0 μ) b0 v2 v3 v4 (0 : Int32) v4 hb0 μ)
      · refine G_bipush hX (100 : Int32) rfl dX3_markNegligible_77 ?_
        refine G_aload_n hX 0 rfl rfl dX3_markNegligible_79 ?_
        refine gf_X3_28_C5 hX dX3_markNegligible_80 ?_
        refine G_iload hX 4 rfl dX3_markNegligible_83 ?_
        refine G_aI hX atC28 dX3_markNegligible_85 (fun x8 => ?_)
        refine G_imul hX dX3_markNegligible_86 ?_
        refine G_iconst hX (3 : Int32) rfl dX3_markNegligible_87 ?_
        refine G_iload_n hX 2 rfl rfl dX3_markNegligible_88 ?_
        refine G_imul hX dX3_markNegligible_89 ?_
        refine G_icmp_ge hX 97 (by decide) dX3_markNegligible_90 ?_ ?_
        · refine G_iconst hX (0 : Int32) rfl dX3_markNegligible_97 ?_
          exact G_sub [0, 1, 2, 3, 4] rfl (gX3_markNegligible_98 hX hQ hcs N (fun b0 v2 v3 v4 μ => fX3_markNegligible_49 N n b0 v2 v3 v4 μ) (fun b0 v2 v3 v4 hb0 μ => ih b0 v2 v3 v4 hb0 μ) b0 v2 v3 v4 (0 : Int32) v4 hb0 μ)
        · refine G_iconst hX (1 : Int32) rfl dX3_markNegligible_93 ?_
          refine G_goto hX 98 (by decide) dX3_markNegligible_94 ?_
          exact G_sub [0, 1, 2, 3, 4] rfl (gX3_markNegligible_98 hX hQ hcs N (fun b0 v2 v3 v4 μ => fX3_markNegligible_49 N n b0 v2 v3 v4 μ) (fun b0 v2 v3 v4 hb0 μ => ih b0 v2 v3 v4 hb0 μ) b0 v2 v3 v4 (1 : Int32) v4 hb0 μ)
set_option maxHeartbeats 4000000 in
set_option maxRecDepth 100000 in
theorem gX3_markNegligible_44 {X : Ctx} {z : Unit × Mem} (hX : Fx wC X cX3_markNegligible 5 RX3 none (rmo 2 46)) (hQ : Qx_v wC X z) (hcs : cx_cells X = 0 ∧ cx_slots X = 0) (N : Nat) (b0 : Nat) (v2 : Int32) (hb0 : kB b0) (μ : Mem) : G wC X z 44 [(0, .ref (cx_ad X 5)), (1, .ref (cx_ad X b0)), (2, .int v2)] [] μ (fX3_markNegligible_44 N b0 v2 μ) := by
  unfold fX3_markNegligible_44
  refine G_iconst hX (0 : Int32) rfl dX3_markNegligible_44 ?_
  refine G_istore_n hX [(3, .int (0 : Int32)), (0, .ref (cx_ad X 5)), (1, .ref (cx_ad X b0)), (2, .int v2)] rfl (by decide) rfl dX3_markNegligible_45 ?_
  refine G_iconst hX (0 : Int32) rfl dX3_markNegligible_46 ?_
  refine G_istore hX [(4, .int (0 : Int32)), (3, .int (0 : Int32)), (0, .ref (cx_ad X 5)), (1, .ref (cx_ad X b0)), (2, .int v2)] (by decide) rfl dX3_markNegligible_47 ?_
  exact G_sub [2, 3, 4, 1, 0] rfl (gX3_markNegligible_49 hX hQ hcs N N b0 v2 (0 : Int32) (0 : Int32) hb0 μ)
set_option maxHeartbeats 4000000 in
set_option maxRecDepth 100000 in
theorem gX3_markNegligible_4 {X : Ctx} {z : Unit × Mem} (hX : Fx wC X cX3_markNegligible 5 RX3 none (rmo 2 46)) (hQ : Qx_v wC X z) (hcs : cx_cells X = 0 ∧ cx_slots X = 0) (N : Nat) : ∀ (n : Nat) (b0 : Nat) (v2 : Int32) (v3 : Int32) (hb0 : kB b0) (μ : Mem), G wC X z 4 [(0, .ref (cx_ad X 5)), (1, .ref (cx_ad X b0)), (2, .int v2), (3, .int v3)] [] μ (fX3_markNegligible_4 N n b0 v2 v3 μ) := by
  intro n
  induction n with
  | zero =>
    intro b0 v2 v3 hb0 μ
    exact G_none
  | succ n ih =>
    intro b0 v2 v3 hb0 μ
    unfold fX3_markNegligible_4
    refine G_iload_n hX 3 rfl rfl dX3_markNegligible_4 ?_
    refine G_aload_n hX 1 rfl rfl dX3_markNegligible_5 ?_
    refine gf_X3_46_B0 hX hb0 dX3_markNegligible_6 ?_
    refine gf_X3_52_B4 hX hb0 dX3_markNegligible_9 ?_
    refine G_nmi (fun x1 => ?_)
    refine G_icmp_ge hX 44 (by decide) dX3_markNegligible_12 ?_ ?_
    · exact G_sub [0, 1, 2] rfl (gX3_markNegligible_44 hX hQ hcs N b0 v2 hb0 μ)
    · refine G_aload_n hX 0 rfl rfl dX3_markNegligible_15 ?_
      refine gf_X3_28_C5 hX dX3_markNegligible_16 ?_
      refine G_iload_n hX 3 rfl rfl dX3_markNegligible_19 ?_
      refine G_aload_n hX 1 rfl rfl dX3_markNegligible_20 ?_
      refine gf_X3_89_B0 hX hb0 dX3_markNegligible_21 ?_
      refine G_iload_n hX 3 rfl rfl dX3_markNegligible_24 ?_
      refine G_cVi hX (b0 + 12) 7 (fun ad adK => [.int v3]) [.int v3, .ref (cx_ad X 28)] (fun z2 h2 => cX7_exportMany_ok (cx_l X) N (b0 + 12) v3 μ z2 h2) ok_X7_exportMany lm_X3_93 (atB_12 hb0).1 (atB_12 hb0).2 rfl rfl (fun _ _ => rfl) (Nat.le_of_ble_eq_true rfl) ⟨rfl, rfl, by decide, by decide⟩ (cs0 hcs) dX3_markNegligible_25 (fun r2 μ => ?_)
      refine G_sI hX atC28 dX3_markNegligible_28 (fun μ => ?_)
      refine G_iload_n hX 2 rfl rfl dX3_markNegligible_29 ?_
      refine G_aload_n hX 0 rfl rfl dX3_markNegligible_30 ?_
      refine gf_X3_28_C5 hX dX3_markNegligible_31 ?_
      refine G_iload_n hX 3 rfl rfl dX3_markNegligible_34 ?_
      refine G_aI hX atC28 dX3_markNegligible_35 (fun x3 => ?_)
      refine G_iadd hX dX3_markNegligible_36 ?_
      refine G_nmi (fun x4 => ?_)
      refine G_istore_n hX [(2, .int x4), (0, .ref (cx_ad X 5)), (1, .ref (cx_ad X b0)), (3, .int v3)] rfl (by decide) rfl dX3_markNegligible_37 ?_
      refine G_iincN hX 3 (fun x5 => [(3, .int x5), (2, .int x4), (0, .ref (cx_ad X 5)), (1, .ref (cx_ad X b0))]) rfl rfl (by decide) (fun _ => rfl) dX3_markNegligible_38 (fun x5 => ?_)
      refine G_goto hX 4 (by decide) dX3_markNegligible_41 ?_
      exact G_sub [2, 3, 1, 0] rfl (ih b0 x4 x5 hb0 μ)
set_option maxHeartbeats 4000000 in
set_option maxRecDepth 100000 in
theorem gX3_markNegligible_E {X : Ctx} {z : Unit × Mem} (hX : Fx wC X cX3_markNegligible 5 RX3 none (rmo 2 46)) (hQ : Qx_v wC X z) (hcs : cx_cells X = 0 ∧ cx_slots X = 0) (N : Nat) (p0 : Nat) (μ : Mem) : G wC X z 0 [(0, .ref (cx_ad X 5)), (1, .ref (cx_ad X p0))] [] μ (fX3_markNegligible N p0 μ) := by
  unfold fX3_markNegligible
  refine G_guard (fun hp0 => ?_)
  refine G_iconst hX (0 : Int32) rfl dX3_markNegligible_0 ?_
  refine G_istore_n hX [(2, .int (0 : Int32)), (0, .ref (cx_ad X 5)), (1, .ref (cx_ad X p0))] rfl (by decide) rfl dX3_markNegligible_1 ?_
  refine G_iconst hX (0 : Int32) rfl dX3_markNegligible_2 ?_
  refine G_istore_n hX [(3, .int (0 : Int32)), (2, .int (0 : Int32)), (0, .ref (cx_ad X 5)), (1, .ref (cx_ad X p0))] rfl (by decide) rfl dX3_markNegligible_3 ?_
  exact G_sub [2, 3, 1, 0] rfl (gX3_markNegligible_4 hX hQ hcs N N p0 (0 : Int32) (0 : Int32) hp0 μ)
theorem cX3_markNegligible_ok (l : Launch) (N : Nat) (p0 : Nat) (μ : Mem) (z : Unit × Mem) (h : fX3_markNegligible N p0 μ = some z) : Mv wC l yX3_markNegligible cX3_markNegligible 5 (rmo 2 46) (fun ad adK => [.ref (ad 5), .ref (ad p0)]) μ z := Mv.of h (by decide +kernel) (fun _ _ => Nat.le_of_ble_eq_true rfl) (fun X hX hQ hl hcs => gX3_markNegligible_E hX hQ hcs N p0 μ)
/-! ===== DutyCase$Duties.injuryOf(LDutyCase$Book;I)I ===== -/
set_option maxHeartbeats 4000000 in
set_option maxRecDepth 100000 in
theorem gX3_injuryOf_120 {X : Ctx} {z : Int32 × Mem} (hX : Fx wC X cX3_injuryOf 10 RX3 (some .int) (rmo 2 50)) (hQ : Qx_i wC X z) (hcs : cx_cells X = 0 ∧ cx_slots X = 0) (N : Nat) (v4 : Int64) (v6 : Int64) (μ : Mem) : G wC X z 120 [(4, .long v4), (6, .long v6)] [] μ (fX3_injuryOf_120 N v4 v6 μ) := by
  unfold fX3_injuryOf_120
  refine G_lload hX 0 rfl dX3_injuryOf_120 ?_
  refine G_lload hX 1 rfl dX3_injuryOf_122 ?_
  refine G_cSi hX (fun ad adK => [.long v4, .long v6]) [] (fun z2 h2 => cX2_marginOf_ok (cx_l X) N v4 v6 μ z2 h2) ok_X2_marginOf lm_X3_121 rfl (fun _ _ => rfl) (Nat.le_of_ble_eq_true rfl) ⟨rfl, rfl, by decide, by decide⟩ (cs0 hcs) dX3_injuryOf_124 (fun r16 μ => ?_)
  exact G_iret hX hQ dX3_injuryOf_127
set_option maxHeartbeats 4000000 in
set_option maxRecDepth 100000 in
theorem gX3_injuryOf_19 {X : Ctx} {z : Int32 × Mem} (hX : Fx wC X cX3_injuryOf 10 RX3 (some .int) (rmo 2 50)) (hQ : Qx_i wC X z) (hcs : cx_cells X = 0 ∧ cx_slots X = 0) (N : Nat) : ∀ (n : Nat) (b0 : Nat) (v2 : Int32) (v4 : Int64) (v6 : Int64) (v8 : Int32) (hb0 : kB b0) (μ : Mem), G wC X z 19 [(0, .ref (cx_ad X 5)), (1, .ref (cx_ad X b0)), (2, .int v2), (3, .ref (cx_ad X (b0 + 12))), (4, .long v4), (6, .long v6), (8, .int v8)] [] μ (fX3_injuryOf_19 N n b0 v2 v4 v6 v8 μ) := by
  intro n
  induction n with
  | zero =>
    intro b0 v2 v4 v6 v8 hb0 μ
    exact G_none
  | succ n ih =>
    intro b0 v2 v4 v6 v8 hb0 μ
    unfold fX3_injuryOf_19
    refine G_iload hX 6 rfl dX3_injuryOf_19 ?_
    refine G_aload_n hX 3 rfl rfl dX3_injuryOf_21 ?_
    refine gf_X3_98_B12 hX hb0 dX3_injuryOf_22 ?_
    refine G_nmi (fun x1 => ?_)
    refine G_icmp_ge hX 120 (by decide) dX3_injuryOf_25 ?_ ?_
    · exact G_sub [4, 5] rfl (gX3_injuryOf_120 hX hQ hcs N v4 v6 μ)
    · refine G_aload_n hX 1 rfl rfl dX3_injuryOf_28 ?_
      refine gf_X3_99_B0 hX hb0 dX3_injuryOf_29 ?_
      refine G_aload_n hX 3 rfl rfl dX3_injuryOf_32 ?_
      refine gf_X3_102_B12 hX hb0 dX3_injuryOf_33 ?_
      refine G_iload hX 6 rfl dX3_injuryOf_36 ?_
      refine G_aI hX (atB_15 hb0) dX3_injuryOf_38 (fun x2 => ?_)
      refine G_aI hX (atB_25 hb0) dX3_injuryOf_39 (fun x3 => ?_)
      refine G_istore hX [(9, .int x3), (0, .ref (cx_ad X 5)), (1, .ref (cx_ad X b0)), (2, .int v2), (3, .ref (cx_ad X (b0 + 12))), (4, .long v4), (6, .long v6), (8, .int v8)] (by decide) rfl dX3_injuryOf_40 ?_
      refine G_iload hX 0 rfl dX3_injuryOf_42 ?_
      refine G_if_le hX 114 (by decide) dX3_injuryOf_44 ?_ ?_
      · refine G_iincN hX 7 (fun x4 => [(8, .int x4), (9, .int x3), (0, .ref (cx_ad X 5)), (1, .ref (cx_ad X b0)), (2, .int v2), (3, .ref (cx_ad X (b0 + 12))), (4, .long v4), (6, .long v6)]) rfl rfl (by decide) (fun _ => rfl) dX3_injuryOf_114 (fun x4 => ?_)
        refine G_goto hX 19 (by decide) dX3_injuryOf_117 ?_
        exact G_sub [2, 3, 4, 5, 6, 7, 0] rfl (ih b0 v2 v4 v6 x4 hb0 μ)
      · refine G_aload_n hX 4 rfl rfl dX3_injuryOf_47 ?_
        refine G_iload hX 7 rfl dX3_injuryOf_48 ?_
        refine G_iload_n hX 3 rfl rfl dX3_injuryOf_50 ?_
        refine G_iconst hX (1 : Int32) rfl dX3_injuryOf_51 ?_
        refine G_cVi hX (b0 + 12) 7 (fun ad adK => [.int v8, .int v2, .int (1 : Int32)]) [] (fun z2 h2 => cX7_isOf_ok (cx_l X) N (b0 + 12) v8 v2 (1 : Int32) μ z2 h2) ok_X7_isOf lm_X3_105 (atB_12 hb0).1 (atB_12 hb0).2 rfl rfl (fun _ _ => rfl) (Nat.le_of_ble_eq_true rfl) ⟨rfl, rfl, by decide, by decide⟩ (cs0 hcs) dX3_injuryOf_52 (fun r5 μ => ?_)
        refine G_if_eq hX 114 (by decide) dX3_injuryOf_55 ?_ ?_
        · refine G_iincN hX 7 (fun x6 => [(8, .int x6), (9, .int x3), (0, .ref (cx_ad X 5)), (1, .ref (cx_ad X b0)), (2, .int v2), (3, .ref (cx_ad X (b0 + 12))), (4, .long v4), (6, .long v6)]) rfl rfl (by decide) (fun _ => rfl) dX3_injuryOf_114 (fun x6 => ?_)
          refine G_goto hX 19 (by decide) dX3_injuryOf_117 ?_
          exact G_sub [2, 3, 4, 5, 6, 7, 0] rfl (ih b0 v2 v4 v6 x6 hb0 μ)
        · refine G_lload hX 5 rfl dX3_injuryOf_58 ?_
          refine G_ldc2 hX lc_X3_109 dX3_injuryOf_60 ?_
          refine G_iload hX 0 rfl dX3_injuryOf_63 ?_
          refine G_aload_n hX 4 rfl rfl dX3_injuryOf_65 ?_
          refine gf_X3_111_B12 hX hb0 dX3_injuryOf_66 ?_
          refine G_iload hX 7 rfl dX3_injuryOf_69 ?_
          refine G_aI hX (atB_21 hb0) dX3_injuryOf_71 (fun x7 => ?_)
          refine G_isub hX dX3_injuryOf_72 ?_
          refine G_i2l hX dX3_injuryOf_73 ?_
          refine G_lmul hX dX3_injuryOf_74 ?_
          refine G_aload_n hX 4 rfl rfl dX3_injuryOf_75 ?_
          refine gf_X3_114_B12 hX hb0 dX3_injuryOf_76 ?_
          refine G_iload hX 7 rfl dX3_injuryOf_79 ?_
          refine G_aI hX (atB_18 hb0) dX3_injuryOf_81 (fun x8 => ?_)
          refine G_i2l hX dX3_injuryOf_82 ?_
          refine G_lmul hX dX3_injuryOf_83 ?_
          refine G_ladd hX dX3_injuryOf_84 ?_
          refine G_nml (fun x9 => ?_)
          refine G_lstore hX [(4, .long x9), (9, .int x3), (0, .ref (cx_ad X 5)), (1, .ref (cx_ad X b0)), (2, .int v2), (3, .ref (cx_ad X (b0 + 12))), (6, .long v6), (8, .int v8)] (by decide) rfl dX3_injuryOf_85 ?_
          refine G_lload hX 6 rfl dX3_injuryOf_87 ?_
          refine G_aload_n hX 5 rfl rfl dX3_injuryOf_89 ?_
          refine G_iload hX 7 rfl dX3_injuryOf_90 ?_
          refine G_cVl hX (b0 + 12) 7 (fun ad adK => [.int v8]) [.long v6] (fun z2 h2 => cX7_valueAt_ok (cx_l X) N (b0 + 12) v8 μ z2 h2) ok_X7_valueAt lm_X3_117 (atB_12 hb0).1 (atB_12 hb0).2 rfl rfl (fun _ _ => rfl) (Nat.le_of_ble_eq_true rfl) ⟨rfl, rfl, by decide, by decide⟩ (cs0 hcs) dX3_injuryOf_92 (fun r10 μ => ?_)
          refine G_ladd hX dX3_injuryOf_95 ?_
          refine G_nml (fun x11 => ?_)
          refine G_lstore hX [(6, .long x11), (4, .long x9), (9, .int x3), (0, .ref (cx_ad X 5)), (1, .ref (cx_ad X b0)), (2, .int v2), (3, .ref (cx_ad X (b0 + 12))), (8, .int v8)] (by decide) rfl dX3_injuryOf_96 ?_
          refine G_aload_n hX 3 rfl rfl dX3_injuryOf_98 ?_
          refine G_dup hX rfl dX3_injuryOf_99 ?_
          refine gf_X3_79_C5 hX dX3_injuryOf_100 ?_
          refine G_nmi (fun x12 => ?_)
          refine G_aload_n hX 6 rfl rfl dX3_injuryOf_103 ?_
          refine gf_X3_114_B12 hX hb0 dX3_injuryOf_104 ?_
          refine G_iload hX 7 rfl dX3_injuryOf_107 ?_
          refine G_aI hX (atB_18 hb0) dX3_injuryOf_109 (fun x13 => ?_)
          refine G_iadd hX dX3_injuryOf_110 ?_
          refine G_nmi (fun x14 => ?_)
          refine pf_X3_79_C5 hX dX3_injuryOf_111 (fun μ => ?_)
          refine G_iincN hX 7 (fun x15 => [(8, .int x15), (6, .long x11), (4, .long x9), (9, .int x3), (0, .ref (cx_ad X 5)), (1, .ref (cx_ad X b0)), (2, .int v2), (3, .ref (cx_ad X (b0 + 12)))]) rfl rfl (by decide) (fun _ => rfl) dX3_injuryOf_114 (fun x15 => ?_)
          refine G_goto hX 19 (by decide) dX3_injuryOf_117 ?_
          exact G_sub [4, 5, 6, 7, 2, 1, 0] rfl (ih b0 v2 x9 x11 x15 hb0 μ)
set_option maxHeartbeats 4000000 in
set_option maxRecDepth 100000 in
theorem gX3_injuryOf_E {X : Ctx} {z : Int32 × Mem} (hX : Fx wC X cX3_injuryOf 10 RX3 (some .int) (rmo 2 50)) (hQ : Qx_i wC X z) (hcs : cx_cells X = 0 ∧ cx_slots X = 0) (N : Nat) (p0 : Nat) (p1 : Int32) (μ : Mem) : G wC X z 0 [(0, .ref (cx_ad X 5)), (1, .ref (cx_ad X p0)), (2, .int p1)] [] μ (fX3_injuryOf N p0 p1 μ) := by
  unfold fX3_injuryOf
  refine G_guard (fun hp0 => ?_)
  refine G_aload_n hX 1 rfl rfl dX3_injuryOf_0 ?_
  refine gf_X3_89_B0 hX hp0 dX3_injuryOf_1 ?_
  refine G_astore_n hX [(3, .ref (cx_ad X (p0 + 12))), (0, .ref (cx_ad X 5)), (1, .ref (cx_ad X p0)), (2, .int p1)] rfl (by decide) rfl dX3_injuryOf_4 ?_
  refine G_lconst hX (0 : Int64) rfl dX3_injuryOf_5 ?_
  refine G_lstore hX [(4, .long (0 : Int64)), (3, .ref (cx_ad X (p0 + 12))), (0, .ref (cx_ad X 5)), (1, .ref (cx_ad X p0)), (2, .int p1)] (by decide) rfl dX3_injuryOf_6 ?_
  refine G_lconst hX (0 : Int64) rfl dX3_injuryOf_8 ?_
  refine G_lstore hX [(6, .long (0 : Int64)), (4, .long (0 : Int64)), (3, .ref (cx_ad X (p0 + 12))), (0, .ref (cx_ad X 5)), (1, .ref (cx_ad X p0)), (2, .int p1)] (by decide) rfl dX3_injuryOf_9 ?_
  refine G_aload_n hX 3 rfl rfl dX3_injuryOf_11 ?_
  refine G_iconst hX (0 : Int32) rfl dX3_injuryOf_12 ?_
  refine pf_X3_79_C5 hX dX3_injuryOf_13 (fun μ => ?_)
  refine G_iconst hX (0 : Int32) rfl dX3_injuryOf_16 ?_
  refine G_istore hX [(8, .int (0 : Int32)), (6, .long (0 : Int64)), (4, .long (0 : Int64)), (3, .ref (cx_ad X (p0 + 12))), (0, .ref (cx_ad X 5)), (1, .ref (cx_ad X p0)), (2, .int p1)] (by decide) rfl dX3_injuryOf_17 ?_
  exact G_sub [4, 5, 6, 3, 2, 1, 0] rfl (gX3_injuryOf_19 hX hQ hcs N N p0 p1 (0 : Int64) (0 : Int64) (0 : Int32) hp0 μ)
theorem cX3_injuryOf_ok (l : Launch) (N : Nat) (p0 : Nat) (p1 : Int32) (μ : Mem) (z : Int32 × Mem) (h : fX3_injuryOf N p0 p1 μ = some z) : Mi wC l yX3_injuryOf cX3_injuryOf 10 .int (rmo 2 50) (fun ad adK => [.ref (ad 5), .ref (ad p0), .int p1]) μ z := Mi.of h (by decide +kernel) (fun _ _ => Nat.le_of_ble_eq_true rfl) (fun X hX hQ hl hcs => gX3_injuryOf_E hX hQ hcs N p0 p1 μ)
/-! ===== DutyCase$Duties.assess(LDutyCase$Book;)V ===== -/
set_option maxHeartbeats 4000000 in
set_option maxRecDepth 100000 in
theorem gX3_assess_181 {X : Ctx} {z : Unit × Mem} (hX : Fx wC X cX3_assess 6 RX3 none (rmo 6 149)) (hQ : Qx_v wC X z) (hcs : cx_cells X = 0 ∧ cx_slots X = 0) (N : Nat) (k63 : Nat → Int32 → Int32 → Mem → Option (Unit × Mem)) (hk63 : ∀ (b0 : Nat) (v2 : Int32) (v3 : Int32) (_ : kB b0) (μ : Mem), G wC X z 63 [(0, .ref (cx_ad X 5)), (1, .ref (cx_ad X b0)), (2, .int v2), (3, .int v3)] [] μ (k63 b0 v2 v3 μ)) (b0 : Nat) (v2 : Int32) (v3 : Int32) (s0 : Int32) (hb0 : kB b0) (μ : Mem) : G wC X z 181 [(0, .ref (cx_ad X 5)), (1, .ref (cx_ad X b0)), (2, .int v2), (3, .int v3)] [.int s0] μ (fX3_assess_181 N k63 b0 v2 v3 s0 μ) := by
  unfold fX3_assess_181
  refine G_istore hX [(5, .int s0), (0, .ref (cx_ad X 5)), (1, .ref (cx_ad X b0)), (2, .int v2), (3, .int v3)] (by decide) rfl dX3_assess_181 ?_
  refine G_aload_n hX 1 rfl rfl dX3_assess_183 ?_
  refine gf_X3_21_C5 hX dX3_assess_184 ?_
  refine G_iload_n hX 4 rfl rfl dX3_assess_187 ?_
  refine G_iload hX 0 rfl dX3_assess_188 ?_
  refine G_if_eq hX 211 (by decide) dX3_assess_190 ?_ ?_
  · refine G_aload_n hX 1 rfl rfl dX3_assess_211 ?_
    refine gf_X3_15_C5 hX dX3_assess_212 ?_
    refine G_iload_n hX 4 rfl rfl dX3_assess_215 ?_
    refine G_aI hX atC24 dX3_assess_216 (fun x17 => ?_)
    refine G_sI hX atC26 dX3_assess_217 (fun μ => ?_)
    refine G_iincN hX 4 (fun x18 => [(3, .int x18), (5, .int s0), (0, .ref (cx_ad X 5)), (1, .ref (cx_ad X b0)), (2, .int v2)]) rfl rfl (by decide) (fun _ => rfl) dX3_assess_218 (fun x18 => ?_)
    refine G_goto hX 63 (by decide) dX3_assess_221 ?_
    exact G_sub [2, 3, 4, 0] rfl (hk63 b0 v2 x18 hb0 μ)
  · refine G_aload_n hX 1 rfl rfl dX3_assess_193 ?_
    refine gf_X3_15_C5 hX dX3_assess_194 ?_
    refine G_iload_n hX 4 rfl rfl dX3_assess_197 ?_
    refine G_aI hX atC24 dX3_assess_198 (fun x19 => ?_)
    refine G_aload_n hX 1 rfl rfl dX3_assess_199 ?_
    refine gf_X3_18_C5 hX dX3_assess_200 ?_
    refine G_iload_n hX 4 rfl rfl dX3_assess_203 ?_
    refine G_aI hX atC25 dX3_assess_204 (fun x20 => ?_)
    refine G_mmin hX lm_X3_82 ok_J9_min_7cf53.1 ok_J9_min_7cf53.2.1 ok_J9_min_7cf53.2.2.1 ⟨Nat.le_of_ble_eq_true rfl, Nat.le_of_ble_eq_true rfl⟩ (cs0 hcs) dX3_assess_205 ?_
    refine G_goto hX 217 (by decide) dX3_assess_208 ?_
    refine G_sI hX atC26 dX3_assess_217 (fun μ => ?_)
    refine G_iincN hX 4 (fun x21 => [(3, .int x21), (5, .int s0), (0, .ref (cx_ad X 5)), (1, .ref (cx_ad X b0)), (2, .int v2)]) rfl rfl (by decide) (fun _ => rfl) dX3_assess_218 (fun x21 => ?_)
    refine G_goto hX 63 (by decide) dX3_assess_221 ?_
    exact G_sub [2, 3, 4, 0] rfl (hk63 b0 v2 x21 hb0 μ)
set_option maxHeartbeats 4000000 in
set_option maxRecDepth 100000 in
theorem gX3_assess_147 {X : Ctx} {z : Unit × Mem} (hX : Fx wC X cX3_assess 6 RX3 none (rmo 6 149)) (hQ : Qx_v wC X z) (hcs : cx_cells X = 0 ∧ cx_slots X = 0) (N : Nat) (k63 : Nat → Int32 → Int32 → Mem → Option (Unit × Mem)) (hk63 : ∀ (b0 : Nat) (v2 : Int32) (v3 : Int32) (_ : kB b0) (μ : Mem), G wC X z 63 [(0, .ref (cx_ad X 5)), (1, .ref (cx_ad X b0)), (2, .int v2), (3, .int v3)] [] μ (k63 b0 v2 v3 μ)) (b0 : Nat) (v2 : Int32) (v3 : Int32) (s0 : Int32) (s1 : Int32) (hb0 : kB b0) (μ : Mem) : G wC X z 147 [(0, .ref (cx_ad X 5)), (1, .ref (cx_ad X b0)), (2, .int v2), (3, .int v3)] [.int s0, .int s1, .ref (cx_ad X 24)] μ (fX3_assess_147 N k63 b0 v2 v3 s0 s1 μ) := by
  unfold fX3_assess_147
  refine G_sI hX atC24 dX3_assess_147 (fun μ => ?_)
  refine G_aload_n hX 0 rfl rfl dX3_assess_148 ?_
  refine gf_X3_18_C5 hX dX3_assess_149 ?_
  refine G_iload_n hX 3 rfl rfl dX3_assess_152 ?_
  refine G_aload_n hX 0 rfl rfl dX3_assess_153 ?_
  refine G_aload_n hX 1 rfl rfl dX3_assess_154 ?_
  refine G_iload_n hX 3 rfl rfl dX3_assess_155 ?_
  refine G_cVi hX 5 3 (fun ad adK => [.ref (ad b0), .int v3]) [.int v3, .ref (cx_ad X 25)] (fun z2 h2 => cX3_injuryOf_ok (cx_l X) N b0 v3 μ z2 h2) ok_X3_injuryOf lm_X3_73 atC5.1 atC5.2 rfl rfl (fun _ _ => rfl) (Nat.le_of_ble_eq_true rfl) ⟨rfl, rfl, by decide, by decide⟩ (cs0 hcs) dX3_assess_156 (fun r14 μ => ?_)
  refine G_sI hX atC25 dX3_assess_159 (fun μ => ?_)
  refine G_aload_n hX 1 rfl rfl dX3_assess_160 ?_
  refine gf_X3_76_B0 hX hb0 dX3_assess_161 ?_
  refine G_iconst hX (2 : Int32) rfl dX3_assess_164 ?_
  refine G_aI hX (atB_28 hb0) dX3_assess_165 (fun x15 => ?_)
  refine G_if_eq hX 180 (by decide) dX3_assess_166 ?_ ?_
  · refine G_iconst hX (0 : Int32) rfl dX3_assess_180 ?_
    exact G_sub [0, 1, 2, 3] rfl (gX3_assess_181 hX hQ hcs N k63 hk63 b0 v2 v3 (0 : Int32) hb0 μ)
  · refine G_aload_n hX 0 rfl rfl dX3_assess_169 ?_
    refine gf_X3_79_C5 hX dX3_assess_170 ?_
    refine G_nmi (fun x16 => ?_)
    refine G_if_le hX 180 (by decide) dX3_assess_173 ?_ ?_
    · refine G_iconst hX (0 : Int32) rfl dX3_assess_180 ?_
      exact G_sub [0, 1, 2, 3] rfl (gX3_assess_181 hX hQ hcs N k63 hk63 b0 v2 v3 (0 : Int32) hb0 μ)
    · refine G_iconst hX (1 : Int32) rfl dX3_assess_176 ?_
      refine G_goto hX 181 (by decide) dX3_assess_177 ?_
      exact G_sub [0, 1, 2, 3] rfl (gX3_assess_181 hX hQ hcs N k63 hk63 b0 v2 v3 (1 : Int32) hb0 μ)
set_option maxHeartbeats 4000000 in
set_option maxRecDepth 100000 in
theorem gX3_assess_125 {X : Ctx} {z : Unit × Mem} (hX : Fx wC X cX3_assess 6 RX3 none (rmo 6 149)) (hQ : Qx_v wC X z) (hcs : cx_cells X = 0 ∧ cx_slots X = 0) (N : Nat) (k63 : Nat → Int32 → Int32 → Mem → Option (Unit × Mem)) (hk63 : ∀ (b0 : Nat) (v2 : Int32) (v3 : Int32) (_ : kB b0) (μ : Mem), G wC X z 63 [(0, .ref (cx_ad X 5)), (1, .ref (cx_ad X b0)), (2, .int v2), (3, .int v3)] [] μ (k63 b0 v2 v3 μ)) (b0 : Nat) (v2 : Int32) (v3 : Int32) (s0 : Int32) (hb0 : kB b0) (μ : Mem) : G wC X z 125 [(0, .ref (cx_ad X 5)), (1, .ref (cx_ad X b0)), (2, .int v2), (3, .int v3)] [.int s0] μ (fX3_assess_125 N k63 b0 v2 v3 s0 μ) := by
  unfold fX3_assess_125
  refine G_istore hX [(4, .int s0), (0, .ref (cx_ad X 5)), (1, .ref (cx_ad X b0)), (2, .int v2), (3, .int v3)] (by decide) rfl dX3_assess_125 ?_
  refine G_aload_n hX 1 rfl rfl dX3_assess_127 ?_
  refine gf_X3_15_C5 hX dX3_assess_128 ?_
  refine G_iload_n hX 4 rfl rfl dX3_assess_131 ?_
  refine G_iload hX 0 rfl dX3_assess_132 ?_
  refine G_if_eq hX 141 (by decide) dX3_assess_134 ?_ ?_
  · refine G_aload_n hX 1 rfl rfl dX3_assess_141 ?_
    refine gf_X3_9_C5 hX dX3_assess_142 ?_
    refine G_iload_n hX 4 rfl rfl dX3_assess_145 ?_
    refine G_aI hX atC23 dX3_assess_146 (fun x13 => ?_)
    exact G_sub [1, 2, 3, 4] rfl (gX3_assess_147 hX hQ hcs N k63 hk63 b0 v2 v3 x13 v3 hb0 μ)
  · refine G_iconst hX (0 : Int32) rfl dX3_assess_137 ?_
    refine G_goto hX 147 (by decide) dX3_assess_138 ?_
    exact G_sub [1, 2, 3, 4] rfl (gX3_assess_147 hX hQ hcs N k63 hk63 b0 v2 v3 (0 : Int32) v3 hb0 μ)
set_option maxHeartbeats 4000000 in
set_option maxRecDepth 100000 in
theorem gX3_assess_90 {X : Ctx} {z : Unit × Mem} (hX : Fx wC X cX3_assess 6 RX3 none (rmo 6 149)) (hQ : Qx_v wC X z) (hcs : cx_cells X = 0 ∧ cx_slots X = 0) (N : Nat) (k63 : Nat → Int32 → Int32 → Mem → Option (Unit × Mem)) (hk63 : ∀ (b0 : Nat) (v2 : Int32) (v3 : Int32) (_ : kB b0) (μ : Mem), G wC X z 63 [(0, .ref (cx_ad X 5)), (1, .ref (cx_ad X b0)), (2, .int v2), (3, .int v3)] [] μ (k63 b0 v2 v3 μ)) (b0 : Nat) (v2 : Int32) (v3 : Int32) (hb0 : kB b0) (μ : Mem) : G wC X z 90 [(0, .ref (cx_ad X 5)), (1, .ref (cx_ad X b0)), (2, .int v2), (3, .int v3)] [] μ (fX3_assess_90 N k63 b0 v2 v3 μ) := by
  unfold fX3_assess_90
  refine G_aload_n hX 0 rfl rfl dX3_assess_90 ?_
  refine gf_X3_24_C5 hX dX3_assess_91 ?_
  refine G_iload_n hX 3 rfl rfl dX3_assess_94 ?_
  refine G_aZ hX atC27 dX3_assess_95 (fun x10 => ?_)
  refine G_if_ne hX 120 (by decide) dX3_assess_96 ?_ ?_
  · refine G_iconst hX (1 : Int32) rfl dX3_assess_120 ?_
    refine G_goto hX 125 (by decide) dX3_assess_121 ?_
    exact G_sub [0, 1, 2, 3] rfl (gX3_assess_125 hX hQ hcs N k63 hk63 b0 v2 v3 (1 : Int32) hb0 μ)
  · refine G_aload_n hX 0 rfl rfl dX3_assess_99 ?_
    refine gf_X3_28_C5 hX dX3_assess_100 ?_
    refine G_iload_n hX 3 rfl rfl dX3_assess_103 ?_
    refine G_aI hX atC28 dX3_assess_104 (fun x11 => ?_)
    refine G_if_eq hX 120 (by decide) dX3_assess_105 ?_ ?_
    · refine G_iconst hX (1 : Int32) rfl dX3_assess_120 ?_
      refine G_goto hX 125 (by decide) dX3_assess_121 ?_
      exact G_sub [0, 1, 2, 3] rfl (gX3_assess_125 hX hQ hcs N k63 hk63 b0 v2 v3 (1 : Int32) hb0 μ)
    · refine G_aload_n hX 0 rfl rfl dX3_assess_108 ?_
      refine gf_X3_9_C5 hX dX3_assess_109 ?_
      refine G_iload_n hX 3 rfl rfl dX3_assess_112 ?_
      refine G_aI hX atC23 dX3_assess_113 (fun x12 => ?_)
      refine G_sipush hX (200 : Int32) rfl dX3_assess_114 ?_
      refine G_icmp_ge hX 124 (by decide) dX3_assess_117 ?_ ?_
      · refine G_iconst hX (0 : Int32) rfl dX3_assess_124 ?_
        exact G_sub [0, 1, 2, 3] rfl (gX3_assess_125 hX hQ hcs N k63 hk63 b0 v2 v3 (0 : Int32) hb0 μ)
      · refine G_iconst hX (1 : Int32) rfl dX3_assess_120 ?_
        refine G_goto hX 125 (by decide) dX3_assess_121 ?_
        exact G_sub [0, 1, 2, 3] rfl (gX3_assess_125 hX hQ hcs N k63 hk63 b0 v2 v3 (1 : Int32) hb0 μ)
set_option maxHeartbeats 4000000 in
set_option maxRecDepth 100000 in
theorem gX3_assess_63 {X : Ctx} {z : Unit × Mem} (hX : Fx wC X cX3_assess 6 RX3 none (rmo 6 149)) (hQ : Qx_v wC X z) (hcs : cx_cells X = 0 ∧ cx_slots X = 0) (N : Nat) : ∀ (n : Nat) (b0 : Nat) (v2 : Int32) (v3 : Int32) (hb0 : kB b0) (μ : Mem), G wC X z 63 [(0, .ref (cx_ad X 5)), (1, .ref (cx_ad X b0)), (2, .int v2), (3, .int v3)] [] μ (fX3_assess_63 N n b0 v2 v3 μ) := by
  intro n
  induction n with
  | zero =>
    intro b0 v2 v3 hb0 μ
    exact G_none
  | succ n ih =>
    intro b0 v2 v3 hb0 μ
    unfold fX3_assess_63
    refine G_iload_n hX 3 rfl rfl dX3_assess_63 ?_
    refine G_aload_n hX 1 rfl rfl dX3_assess_64 ?_
    refine gf_X3_46_B0 hX hb0 dX3_assess_65 ?_
    refine gf_X3_52_B4 hX hb0 dX3_assess_68 ?_
    refine G_nmi (fun x8 => ?_)
    refine G_icmp_ge hX 224 (by decide) dX3_assess_71 ?_ ?_
    · exact G_vret hX hQ dX3_assess_224
    · refine G_aload_n hX 1 rfl rfl dX3_assess_74 ?_
      refine gf_X3_64_B0 hX hb0 dX3_assess_75 ?_
      refine G_iload_n hX 3 rfl rfl dX3_assess_78 ?_
      refine G_aZ hX (atB_27 hb0) dX3_assess_79 (fun x9 => ?_)
      refine G_if_eq hX 90 (by decide) dX3_assess_80 ?_ ?_
      · exact G_sub [0, 1, 2, 3] rfl (gX3_assess_90 hX hQ hcs N (fun b0 v2 v3 μ => fX3_assess_63 N n b0 v2 v3 μ) (fun b0 v2 v3 hb0 μ => ih b0 v2 v3 hb0 μ) b0 v2 v3 hb0 μ)
      · refine G_aload_n hX 0 rfl rfl dX3_assess_83 ?_
        refine gf_X3_9_C5 hX dX3_assess_84 ?_
        refine G_iload_n hX 3 rfl rfl dX3_assess_87 ?_
        refine G_iload_n hX 2 rfl rfl dX3_assess_88 ?_
        refine G_sI hX atC23 dX3_assess_89 (fun μ => ?_)
        exact G_sub [0, 1, 2, 3] rfl (gX3_assess_90 hX hQ hcs N (fun b0 v2 v3 μ => fX3_assess_63 N n b0 v2 v3 μ) (fun b0 v2 v3 hb0 μ => ih b0 v2 v3 hb0 μ) b0 v2 v3 hb0 μ)
set_option maxHeartbeats 4000000 in
set_option maxRecDepth 100000 in
theorem gX3_assess_9 {X : Ctx} {z : Unit × Mem} (hX : Fx wC X cX3_assess 6 RX3 none (rmo 6 149)) (hQ : Qx_v wC X z) (hcs : cx_cells X = 0 ∧ cx_slots X = 0) (N : Nat) : ∀ (n : Nat) (b0 : Nat) (v2 : Int32) (v3 : Int32) (hb0 : kB b0) (μ : Mem), G wC X z 9 [(0, .ref (cx_ad X 5)), (1, .ref (cx_ad X b0)), (2, .int v2), (3, .int v3)] [] μ (fX3_assess_9 N n b0 v2 v3 μ) := by
  intro n
  induction n with
  | zero =>
    intro b0 v2 v3 hb0 μ
    exact G_none
  | succ n ih =>
    intro b0 v2 v3 hb0 μ
    unfold fX3_assess_9
    refine G_iload_n hX 3 rfl rfl dX3_assess_9 ?_
    refine G_aload_n hX 1 rfl rfl dX3_assess_10 ?_
    refine gf_X3_46_B0 hX hb0 dX3_assess_11 ?_
    refine gf_X3_52_B4 hX hb0 dX3_assess_14 ?_
    refine G_nmi (fun x1 => ?_)
    refine G_icmp_ge hX 61 (by decide) dX3_assess_17 ?_ ?_
    · refine G_iconst hX (0 : Int32) rfl dX3_assess_61 ?_
      refine G_istore_n hX [(3, .int (0 : Int32)), (0, .ref (cx_ad X 5)), (1, .ref (cx_ad X b0)), (2, .int v2)] rfl (by decide) rfl dX3_assess_62 ?_
      exact G_sub [1, 2, 3, 0] rfl (gX3_assess_63 hX hQ hcs N N b0 v2 (0 : Int32) hb0 μ)
    · refine G_aload_n hX 0 rfl rfl dX3_assess_20 ?_
      refine gf_X3_9_C5 hX dX3_assess_21 ?_
      refine G_iload_n hX 3 rfl rfl dX3_assess_24 ?_
      refine G_aload_n hX 0 rfl rfl dX3_assess_25 ?_
      refine gf_X3_38_C5 hX dX3_assess_26 ?_
      refine G_aload_n hX 1 rfl rfl dX3_assess_29 ?_
      refine G_iload_n hX 3 rfl rfl dX3_assess_30 ?_
      refine G_cVi hX 4 2 (fun ad adK => [.ref (ad b0), .int v3]) [.int v3, .ref (cx_ad X 23)] (fun z2 h2 => cX2_marginNow_ok (cx_l X) N b0 v3 μ z2 h2) ok_X2_marginNow lm_X3_58 atC4.1 atC4.2 rfl rfl (fun _ _ => rfl) (Nat.le_of_ble_eq_true rfl) ⟨rfl, rfl, by decide, by decide⟩ (cs0 hcs) dX3_assess_31 (fun r2 μ => ?_)
      refine G_sI hX atC23 dX3_assess_34 (fun μ => ?_)
      refine G_aload_n hX 1 rfl rfl dX3_assess_35 ?_
      refine gf_X3_64_B0 hX hb0 dX3_assess_36 ?_
      refine G_iload_n hX 3 rfl rfl dX3_assess_39 ?_
      refine G_aZ hX (atB_27 hb0) dX3_assess_40 (fun x3 => ?_)
      refine G_if_ne hX 55 (by decide) dX3_assess_41 ?_ ?_
      · refine G_iincN hX 3 (fun x4 => [(3, .int x4), (0, .ref (cx_ad X 5)), (1, .ref (cx_ad X b0)), (2, .int v2)]) rfl rfl (by decide) (fun _ => rfl) dX3_assess_55 (fun x4 => ?_)
        refine G_goto hX 9 (by decide) dX3_assess_58 ?_
        exact G_sub [1, 2, 3, 0] rfl (ih b0 v2 x4 hb0 μ)
      · refine G_iload_n hX 2 rfl rfl dX3_assess_44 ?_
        refine G_aload_n hX 0 rfl rfl dX3_assess_45 ?_
        refine gf_X3_9_C5 hX dX3_assess_46 ?_
        refine G_iload_n hX 3 rfl rfl dX3_assess_49 ?_
        refine G_aI hX atC23 dX3_assess_50 (fun x5 => ?_)
        refine G_mmax hX lm_X3_67 ok_J9_max_7cf53.1 ok_J9_max_7cf53.2.1 ok_J9_max_7cf53.2.2.1 ⟨Nat.le_of_ble_eq_true rfl, Nat.le_of_ble_eq_true rfl⟩ (cs0 hcs) dX3_assess_51 ?_
        refine G_nmi (fun x6 => ?_)
        refine G_istore_n hX [(2, .int x6), (0, .ref (cx_ad X 5)), (1, .ref (cx_ad X b0)), (3, .int v3)] rfl (by decide) rfl dX3_assess_54 ?_
        refine G_iincN hX 3 (fun x7 => [(3, .int x7), (2, .int x6), (0, .ref (cx_ad X 5)), (1, .ref (cx_ad X b0))]) rfl rfl (by decide) (fun _ => rfl) dX3_assess_55 (fun x7 => ?_)
        refine G_goto hX 9 (by decide) dX3_assess_58 ?_
        exact G_sub [2, 3, 1, 0] rfl (ih b0 x6 x7 hb0 μ)
set_option maxHeartbeats 4000000 in
set_option maxRecDepth 100000 in
theorem gX3_assess_E {X : Ctx} {z : Unit × Mem} (hX : Fx wC X cX3_assess 6 RX3 none (rmo 6 149)) (hQ : Qx_v wC X z) (hcs : cx_cells X = 0 ∧ cx_slots X = 0) (N : Nat) (p0 : Nat) (μ : Mem) : G wC X z 0 [(0, .ref (cx_ad X 5)), (1, .ref (cx_ad X p0))] [] μ (fX3_assess N p0 μ) := by
  unfold fX3_assess
  refine G_guard (fun hp0 => ?_)
  refine G_aload_n hX 0 rfl rfl dX3_assess_0 ?_
  refine G_aload_n hX 1 rfl rfl dX3_assess_1 ?_
  refine G_cVv hX 5 3 (fun ad adK => [.ref (ad p0)]) [] (fun z2 h2 => cX3_markNegligible_ok (cx_l X) N p0 μ z2 h2) ok_X3_markNegligible lm_X3_42 atC5.1 atC5.2 rfl rfl (fun _ _ => rfl) (Nat.le_of_ble_eq_true rfl) ⟨rfl, rfl, by decide, by decide⟩ (cs0 hcs) dX3_assess_2 (fun μ => ?_)
  refine G_iconst hX (0 : Int32) rfl dX3_assess_5 ?_
  refine G_istore_n hX [(2, .int (0 : Int32)), (0, .ref (cx_ad X 5)), (1, .ref (cx_ad X p0))] rfl (by decide) rfl dX3_assess_6 ?_
  refine G_iconst hX (0 : Int32) rfl dX3_assess_7 ?_
  refine G_istore_n hX [(3, .int (0 : Int32)), (2, .int (0 : Int32)), (0, .ref (cx_ad X 5)), (1, .ref (cx_ad X p0))] rfl (by decide) rfl dX3_assess_8 ?_
  exact G_sub [2, 3, 1, 0] rfl (gX3_assess_9 hX hQ hcs N N p0 (0 : Int32) (0 : Int32) hp0 μ)
theorem cX3_assess_ok (l : Launch) (N : Nat) (p0 : Nat) (μ : Mem) (z : Unit × Mem) (h : fX3_assess N p0 μ = some z) : Mv wC l yX3_assess cX3_assess 6 (rmo 6 149) (fun ad adK => [.ref (ad 5), .ref (ad p0)]) μ z := Mv.of h (by decide +kernel) (fun _ _ => Nat.le_of_ble_eq_true rfl) (fun X hX hQ hl hcs => gX3_assess_E hX hQ hcs N p0 μ)
/-! ===== DutyCase$Duties.marginTold(LDutyCase$Book;IIZ)I ===== -/
set_option maxHeartbeats 4000000 in
set_option maxRecDepth 100000 in
theorem gX3_marginTold_28 {X : Ctx} {z : Int32 × Mem} (hX : Fx wC X cX3_marginTold 7 RX3 (some .int) (rmo 6 151)) (hQ : Qx_i wC X z) (hcs : cx_cells X = 0 ∧ cx_slots X = 0) (N : Nat) : ∀ (n : Nat) (b0 : Nat) (v3 : Int32) (v4 : Int32) (v5 : Int32) (v6 : Int32) (hb0 : kB b0) (μ : Mem), G wC X z 28 [(0, .ref (cx_ad X 5)), (1, .ref (cx_ad X b0)), (3, .int v3), (4, .int v4), (5, .int v5), (6, .int v6)] [] μ (fX3_marginTold_28 N n b0 v3 v4 v5 v6 μ) := by
  intro n
  induction n with
  | zero =>
    intro b0 v3 v4 v5 v6 hb0 μ
    exact G_none
  | succ n ih =>
    intro b0 v3 v4 v5 v6 hb0 μ
    unfold fX3_marginTold_28
    refine G_iload hX 5 rfl dX3_marginTold_28 ?_
    refine G_aload_n hX 1 rfl rfl dX3_marginTold_30 ?_
    refine gf_X3_46_B0 hX hb0 dX3_marginTold_31 ?_
    refine gf_X3_52_B4 hX hb0 dX3_marginTold_34 ?_
    refine G_nmi (fun x3 => ?_)
    refine G_icmp_ge hX 76 (by decide) dX3_marginTold_37 ?_ ?_
    · refine G_iload hX 4 rfl dX3_marginTold_76 ?_
      exact G_iret hX hQ dX3_marginTold_78
    · refine G_aload_n hX 1 rfl rfl dX3_marginTold_40 ?_
      refine gf_X3_64_B0 hX hb0 dX3_marginTold_41 ?_
      refine G_iload hX 5 rfl dX3_marginTold_44 ?_
      refine G_aZ hX (atB_27 hb0) dX3_marginTold_46 (fun x4 => ?_)
      refine G_if_ne hX 70 (by decide) dX3_marginTold_47 ?_ ?_
      · refine G_iincN hX 5 (fun x5 => [(6, .int x5), (0, .ref (cx_ad X 5)), (1, .ref (cx_ad X b0)), (3, .int v3), (4, .int v4), (5, .int v5)]) rfl rfl (by decide) (fun _ => rfl) dX3_marginTold_70 (fun x5 => ?_)
        refine G_goto hX 28 (by decide) dX3_marginTold_73 ?_
        exact G_sub [1, 2, 3, 4, 5, 0] rfl (ih b0 v3 v4 v5 x5 hb0 μ)
      · refine G_iload hX 4 rfl dX3_marginTold_50 ?_
        refine G_aload_n hX 0 rfl rfl dX3_marginTold_52 ?_
        refine gf_X3_38_C5 hX dX3_marginTold_53 ?_
        refine G_aload_n hX 1 rfl rfl dX3_marginTold_56 ?_
        refine G_iload hX 5 rfl dX3_marginTold_57 ?_
        refine G_iload_n hX 2 rfl rfl dX3_marginTold_59 ?_
        refine G_iload hX 3 rfl dX3_marginTold_60 ?_
        refine G_cVi hX 4 2 (fun ad adK => [.ref (ad b0), .int v6, .int v3, .int v4]) [.int v5] (fun z2 h2 => cX2_ownMargin_ok (cx_l X) N b0 v6 v3 v4 μ z2 h2) ok_X2_ownMargin lm_X3_85 atC4.1 atC4.2 rfl rfl (fun _ _ => rfl) (Nat.le_of_ble_eq_true rfl) ⟨rfl, rfl, by decide, by decide⟩ (cs0 hcs) dX3_marginTold_62 (fun r6 μ => ?_)
        refine G_mmax hX lm_X3_67 ok_J9_max_7cf53.1 ok_J9_max_7cf53.2.1 ok_J9_max_7cf53.2.2.1 ⟨Nat.le_of_ble_eq_true rfl, Nat.le_of_ble_eq_true rfl⟩ (cs0 hcs) dX3_marginTold_65 ?_
        refine G_nmi (fun x7 => ?_)
        refine G_istore hX [(5, .int x7), (0, .ref (cx_ad X 5)), (1, .ref (cx_ad X b0)), (3, .int v3), (4, .int v4), (6, .int v6)] (by decide) rfl dX3_marginTold_68 ?_
        refine G_iincN hX 5 (fun x8 => [(6, .int x8), (5, .int x7), (0, .ref (cx_ad X 5)), (1, .ref (cx_ad X b0)), (3, .int v3), (4, .int v4)]) rfl rfl (by decide) (fun _ => rfl) dX3_marginTold_70 (fun x8 => ?_)
        refine G_goto hX 28 (by decide) dX3_marginTold_73 ?_
        exact G_sub [2, 3, 4, 5, 1, 0] rfl (ih b0 v3 v4 x7 x8 hb0 μ)
set_option maxHeartbeats 4000000 in
set_option maxRecDepth 100000 in
theorem gX3_marginTold_E {X : Ctx} {z : Int32 × Mem} (hX : Fx wC X cX3_marginTold 7 RX3 (some .int) (rmo 6 151)) (hQ : Qx_i wC X z) (hcs : cx_cells X = 0 ∧ cx_slots X = 0) (N : Nat) (p0 : Nat) (p1 : Int32) (p2 : Int32) (p3 : Int32) (μ : Mem) : G wC X z 0 [(0, .ref (cx_ad X 5)), (1, .ref (cx_ad X p0)), (2, .int p1), (3, .int p2), (4, .int p3)] [] μ (fX3_marginTold N p0 p1 p2 p3 μ) := by
  unfold fX3_marginTold
  refine G_guard (fun hp0 => ?_)
  refine G_aload_n hX 1 rfl rfl dX3_marginTold_0 ?_
  refine gf_X3_64_B0 hX hp0 dX3_marginTold_1 ?_
  refine G_iload_n hX 2 rfl rfl dX3_marginTold_4 ?_
  refine G_aZ hX (atB_27 hp0) dX3_marginTold_5 (fun x1 => ?_)
  refine G_if_ne hX 22 (by decide) dX3_marginTold_6 ?_ ?_
  · refine G_iconst hX (0 : Int32) rfl dX3_marginTold_22 ?_
    refine G_istore hX [(5, .int (0 : Int32)), (0, .ref (cx_ad X 5)), (1, .ref (cx_ad X p0)), (2, .int p1), (3, .int p2), (4, .int p3)] (by decide) rfl dX3_marginTold_23 ?_
    refine G_iconst hX (0 : Int32) rfl dX3_marginTold_25 ?_
    refine G_istore hX [(6, .int (0 : Int32)), (5, .int (0 : Int32)), (0, .ref (cx_ad X 5)), (1, .ref (cx_ad X p0)), (2, .int p1), (3, .int p2), (4, .int p3)] (by decide) rfl dX3_marginTold_26 ?_
    exact G_sub [2, 3, 5, 6, 1, 0] rfl (gX3_marginTold_28 hX hQ hcs N N p0 p2 p3 (0 : Int32) (0 : Int32) hp0 μ)
  · refine G_aload_n hX 0 rfl rfl dX3_marginTold_9 ?_
    refine gf_X3_38_C5 hX dX3_marginTold_10 ?_
    refine G_aload_n hX 1 rfl rfl dX3_marginTold_13 ?_
    refine G_iload_n hX 2 rfl rfl dX3_marginTold_14 ?_
    refine G_iload_n hX 3 rfl rfl dX3_marginTold_15 ?_
    refine G_iload hX 4 rfl dX3_marginTold_16 ?_
    refine G_cVi hX 4 2 (fun ad adK => [.ref (ad p0), .int p1, .int p2, .int p3]) [] (fun z2 h2 => cX2_ownMargin_ok (cx_l X) N p0 p1 p2 p3 μ z2 h2) ok_X2_ownMargin lm_X3_85 atC4.1 atC4.2 rfl rfl (fun _ _ => rfl) (Nat.le_of_ble_eq_true rfl) ⟨rfl, rfl, by decide, by decide⟩ (cs0 hcs) dX3_marginTold_18 (fun r2 μ => ?_)
    exact G_iret hX hQ dX3_marginTold_21
theorem cX3_marginTold_ok (l : Launch) (N : Nat) (p0 : Nat) (p1 : Int32) (p2 : Int32) (p3 : Int32) (μ : Mem) (z : Int32 × Mem) (h : fX3_marginTold N p0 p1 p2 p3 μ = some z) : Mi wC l yX3_marginTold cX3_marginTold 7 .int (rmo 6 151) (fun ad adK => [.ref (ad 5), .ref (ad p0), .int p1, .int p2, .int p3]) μ z := Mi.of h (by decide +kernel) (fun _ _ => Nat.le_of_ble_eq_true rfl) (fun X hX hQ hl hcs => gX3_marginTold_E hX hQ hcs N p0 p1 p2 p3 μ)
/-! ===== DutyCase$Duties.rateOfOthers(LDutyCase$Book;)I ===== -/
set_option maxHeartbeats 4000000 in
set_option maxRecDepth 100000 in
theorem gX3_rateOfOthers_78 {X : Ctx} {z : Int32 × Mem} (hX : Fx wC X cX3_rateOfOthers 9 RX3 (some .int) (rmo 2 47)) (hQ : Qx_i wC X z) (hcs : cx_cells X = 0 ∧ cx_slots X = 0) (N : Nat) (v2 : Int64) (v4 : Int64) (μ : Mem) : G wC X z 78 [(2, .long v2), (4, .long v4)] [] μ (fX3_rateOfOthers_78 N v2 v4 μ) := by
  unfold fX3_rateOfOthers_78
  refine G_lload hX 1 rfl dX3_rateOfOthers_78 ?_
  refine G_lconst hX (0 : Int64) rfl dX3_rateOfOthers_80 ?_
  refine G_lcmp hX dX3_rateOfOthers_81 ?_
  refine G_if_ne hX 89 (by decide) dX3_rateOfOthers_82 ?_ ?_
  · refine G_lload_n hX 0 rfl rfl dX3_rateOfOthers_89 ?_
    refine G_lload hX 1 rfl dX3_rateOfOthers_90 ?_
    refine G_ldv hX dX3_rateOfOthers_92 ?_
    refine G_l2i hX dX3_rateOfOthers_93 ?_
    exact G_iret hX hQ dX3_rateOfOthers_94
  · refine G_iconst hX (0 : Int32) rfl dX3_rateOfOthers_85 ?_
    refine G_goto hX 94 (by decide) dX3_rateOfOthers_86 ?_
    exact G_iret hX hQ dX3_rateOfOthers_94
set_option maxHeartbeats 4000000 in
set_option maxRecDepth 100000 in
theorem gX3_rateOfOthers_8 {X : Ctx} {z : Int32 × Mem} (hX : Fx wC X cX3_rateOfOthers 9 RX3 (some .int) (rmo 2 47)) (hQ : Qx_i wC X z) (hcs : cx_cells X = 0 ∧ cx_slots X = 0) (N : Nat) : ∀ (n : Nat) (b0 : Nat) (v2 : Int64) (v4 : Int64) (v6 : Int32) (hb0 : kB b0) (μ : Mem), G wC X z 8 [(0, .ref (cx_ad X 5)), (1, .ref (cx_ad X b0)), (2, .long v2), (4, .long v4), (6, .int v6)] [] μ (fX3_rateOfOthers_8 N n b0 v2 v4 v6 μ) := by
  intro n
  induction n with
  | zero =>
    intro b0 v2 v4 v6 hb0 μ
    exact G_none
  | succ n ih =>
    intro b0 v2 v4 v6 hb0 μ
    unfold fX3_rateOfOthers_8
    refine G_iload hX 4 rfl dX3_rateOfOthers_8 ?_
    refine G_aload_n hX 1 rfl rfl dX3_rateOfOthers_10 ?_
    refine gf_X3_46_B0 hX hb0 dX3_rateOfOthers_11 ?_
    refine gf_X3_52_B4 hX hb0 dX3_rateOfOthers_14 ?_
    refine G_nmi (fun x1 => ?_)
    refine G_icmp_ge hX 78 (by decide) dX3_rateOfOthers_17 ?_ ?_
    · exact G_sub [2, 3] rfl (gX3_rateOfOthers_78 hX hQ hcs N v2 v4 μ)
    · refine G_aload_n hX 1 rfl rfl dX3_rateOfOthers_20 ?_
      refine gf_X3_64_B0 hX hb0 dX3_rateOfOthers_21 ?_
      refine G_iload hX 4 rfl dX3_rateOfOthers_24 ?_
      refine G_aZ hX (atB_27 hb0) dX3_rateOfOthers_26 (fun x2 => ?_)
      refine G_if_ne hX 72 (by decide) dX3_rateOfOthers_27 ?_ ?_
      · refine G_iincN hX 4 (fun x3 => [(6, .int x3), (0, .ref (cx_ad X 5)), (1, .ref (cx_ad X b0)), (2, .long v2), (4, .long v4)]) rfl rfl (by decide) (fun _ => rfl) dX3_rateOfOthers_72 (fun x3 => ?_)
        refine G_goto hX 8 (by decide) dX3_rateOfOthers_75 ?_
        exact G_sub [1, 2, 3, 4, 0] rfl (ih b0 v2 v4 x3 hb0 μ)
      · refine G_aload_n hX 0 rfl rfl dX3_rateOfOthers_30 ?_
        refine gf_X3_15_C5 hX dX3_rateOfOthers_31 ?_
        refine G_iload hX 4 rfl dX3_rateOfOthers_34 ?_
        refine G_aI hX atC24 dX3_rateOfOthers_36 (fun x4 => ?_)
        refine G_if_le hX 72 (by decide) dX3_rateOfOthers_37 ?_ ?_
        · refine G_iincN hX 4 (fun x5 => [(6, .int x5), (0, .ref (cx_ad X 5)), (1, .ref (cx_ad X b0)), (2, .long v2), (4, .long v4)]) rfl rfl (by decide) (fun _ => rfl) dX3_rateOfOthers_72 (fun x5 => ?_)
          refine G_goto hX 8 (by decide) dX3_rateOfOthers_75 ?_
          exact G_sub [1, 2, 3, 4, 0] rfl (ih b0 v2 v4 x5 hb0 μ)
        · refine G_aload_n hX 1 rfl rfl dX3_rateOfOthers_40 ?_
          refine gf_X3_89_B0 hX hb0 dX3_rateOfOthers_41 ?_
          refine G_iload hX 4 rfl dX3_rateOfOthers_44 ?_
          refine G_cVl hX (b0 + 12) 7 (fun ad adK => [.int v6]) [] (fun z2 h2 => cX7_exportValue_ok (cx_l X) N (b0 + 12) v6 μ z2 h2) ok_X7_exportValue lm_X3_125 (atB_12 hb0).1 (atB_12 hb0).2 rfl rfl (fun _ _ => rfl) (Nat.le_of_ble_eq_true rfl) ⟨rfl, rfl, by decide, by decide⟩ (cs0 hcs) dX3_rateOfOthers_46 (fun r6 μ => ?_)
          refine G_lstore hX [(7, .long r6), (0, .ref (cx_ad X 5)), (1, .ref (cx_ad X b0)), (2, .long v2), (4, .long v4), (6, .int v6)] (by decide) rfl dX3_rateOfOthers_49 ?_
          refine G_lload_n hX 3 rfl rfl dX3_rateOfOthers_51 ?_
          refine G_aload_n hX 1 rfl rfl dX3_rateOfOthers_52 ?_
          refine gf_X3_15_C5 hX dX3_rateOfOthers_53 ?_
          refine G_iload hX 5 rfl dX3_rateOfOthers_56 ?_
          refine G_aI hX atC24 dX3_rateOfOthers_58 (fun x7 => ?_)
          refine G_i2l hX dX3_rateOfOthers_59 ?_
          refine G_lload hX 0 rfl dX3_rateOfOthers_60 ?_
          refine G_lmul hX dX3_rateOfOthers_62 ?_
          refine G_ladd hX dX3_rateOfOthers_63 ?_
          refine G_nml (fun x8 => ?_)
          refine G_lstore_n hX [(2, .long x8), (7, .long r6), (0, .ref (cx_ad X 5)), (1, .ref (cx_ad X b0)), (4, .long v4), (6, .int v6)] rfl (by decide) rfl dX3_rateOfOthers_64 ?_
          refine G_lload hX 4 rfl dX3_rateOfOthers_65 ?_
          refine G_lload hX 1 rfl dX3_rateOfOthers_67 ?_
          refine G_ladd hX dX3_rateOfOthers_69 ?_
          refine G_nml (fun x9 => ?_)
          refine G_lstore hX [(4, .long x9), (2, .long x8), (7, .long r6), (0, .ref (cx_ad X 5)), (1, .ref (cx_ad X b0)), (6, .int v6)] (by decide) rfl dX3_rateOfOthers_70 ?_
          refine G_iincN hX 5 (fun x10 => [(6, .int x10), (4, .long x9), (2, .long x8), (7, .long r6), (0, .ref (cx_ad X 5)), (1, .ref (cx_ad X b0))]) rfl rfl (by decide) (fun _ => rfl) dX3_rateOfOthers_72 (fun x10 => ?_)
          refine G_goto hX 8 (by decide) dX3_rateOfOthers_75 ?_
          exact G_sub [4, 5, 2, 1, 0] rfl (ih b0 x8 x9 x10 hb0 μ)
set_option maxHeartbeats 4000000 in
set_option maxRecDepth 100000 in
theorem gX3_rateOfOthers_E {X : Ctx} {z : Int32 × Mem} (hX : Fx wC X cX3_rateOfOthers 9 RX3 (some .int) (rmo 2 47)) (hQ : Qx_i wC X z) (hcs : cx_cells X = 0 ∧ cx_slots X = 0) (N : Nat) (p0 : Nat) (μ : Mem) : G wC X z 0 [(0, .ref (cx_ad X 5)), (1, .ref (cx_ad X p0))] [] μ (fX3_rateOfOthers N p0 μ) := by
  unfold fX3_rateOfOthers
  refine G_guard (fun hp0 => ?_)
  refine G_lconst hX (0 : Int64) rfl dX3_rateOfOthers_0 ?_
  refine G_lstore_n hX [(2, .long (0 : Int64)), (0, .ref (cx_ad X 5)), (1, .ref (cx_ad X p0))] rfl (by decide) rfl dX3_rateOfOthers_1 ?_
  refine G_lconst hX (0 : Int64) rfl dX3_rateOfOthers_2 ?_
  refine G_lstore hX [(4, .long (0 : Int64)), (2, .long (0 : Int64)), (0, .ref (cx_ad X 5)), (1, .ref (cx_ad X p0))] (by decide) rfl dX3_rateOfOthers_3 ?_
  refine G_iconst hX (0 : Int32) rfl dX3_rateOfOthers_5 ?_
  refine G_istore hX [(6, .int (0 : Int32)), (4, .long (0 : Int64)), (2, .long (0 : Int64)), (0, .ref (cx_ad X 5)), (1, .ref (cx_ad X p0))] (by decide) rfl dX3_rateOfOthers_6 ?_
  exact G_sub [3, 4, 2, 1, 0] rfl (gX3_rateOfOthers_8 hX hQ hcs N N p0 (0 : Int64) (0 : Int64) (0 : Int32) hp0 μ)
theorem cX3_rateOfOthers_ok (l : Launch) (N : Nat) (p0 : Nat) (μ : Mem) (z : Int32 × Mem) (h : fX3_rateOfOthers N p0 μ = some z) : Mi wC l yX3_rateOfOthers cX3_rateOfOthers 9 .int (rmo 2 47) (fun ad adK => [.ref (ad 5), .ref (ad p0)]) μ z := Mi.of h (by decide +kernel) (fun _ _ => Nat.le_of_ble_eq_true rfl) (fun X hX hQ hl hcs => gX3_rateOfOthers_E hX hQ hcs N p0 μ)
/-! ===== DutyCase$Duties.pickedMonths(LDutyCase$Sales;I)I ===== -/
set_option maxHeartbeats 4000000 in
set_option maxRecDepth 100000 in
theorem gX3_pickedMonths_132 {X : Ctx} {z : Int32 × Mem} (hX : Fx wC X cX3_pickedMonths 9 RX3 (some .int) (rmo 1 23)) (hQ : Qx_i wC X z) (hcs : cx_cells X = 0 ∧ cx_slots X = 0) (N : Nat) : ∀ (n : Nat) (v3 : Int32) (v4 : Int64) (v6 : Int32) (v7 : Int32) (μ : Mem), G wC X z 132 [(0, .ref (cx_ad X 5)), (3, .int v3), (4, .long v4), (6, .int v6), (7, .int v7)] [] μ (fX3_pickedMonths_132 N n v3 v4 v6 v7 μ) := by
  intro n
  induction n with
  | zero =>
    intro v3 v4 v6 v7 μ
    exact G_none
  | succ n ih =>
    intro v3 v4 v6 v7 μ
    unfold fX3_pickedMonths_132
    refine G_iload hX 4 rfl dX3_pickedMonths_132 ?_
    refine G_bipush hX (12 : Int32) rfl dX3_pickedMonths_134 ?_
    refine G_icmp_ge hX 222 (by decide) dX3_pickedMonths_136 ?_ ?_
    · refine G_iload hX 3 rfl dX3_pickedMonths_222 ?_
      exact G_iret hX hQ dX3_pickedMonths_224
    · refine G_iload_n hX 1 rfl rfl dX3_pickedMonths_139 ?_
      refine G_aload_n hX 0 rfl rfl dX3_pickedMonths_140 ?_
      refine gf_X3_31_C5 hX dX3_pickedMonths_141 ?_
      refine G_iload hX 4 rfl dX3_pickedMonths_144 ?_
      refine G_aI hX atC29 dX3_pickedMonths_146 (fun x16 => ?_)
      refine G_isub hX dX3_pickedMonths_147 ?_
      refine G_nmi (fun x17 => ?_)
      refine G_istore hX [(8, .int x17), (0, .ref (cx_ad X 5)), (3, .int v3), (4, .long v4), (6, .int v6), (7, .int v7)] (by decide) rfl dX3_pickedMonths_148 ?_
      refine G_aload_n hX 1 rfl rfl dX3_pickedMonths_150 ?_
      refine gf_X3_31_C5 hX dX3_pickedMonths_151 ?_
      refine G_iload hX 5 rfl dX3_pickedMonths_154 ?_
      refine G_aI hX atC29 dX3_pickedMonths_156 (fun x18 => ?_)
      refine G_if_le hX 216 (by decide) dX3_pickedMonths_157 ?_ ?_
      · refine G_iincN hX 5 (fun x19 => [(7, .int x19), (8, .int x17), (0, .ref (cx_ad X 5)), (3, .int v3), (4, .long v4), (6, .int v6)]) rfl rfl (by decide) (fun _ => rfl) dX3_pickedMonths_216 (fun x19 => ?_)
        refine G_goto hX 132 (by decide) dX3_pickedMonths_219 ?_
        exact G_sub [2, 3, 4, 5, 0] rfl (ih v3 v4 v6 x19 μ)
      · refine G_iload hX 0 rfl dX3_pickedMonths_160 ?_
        refine G_if_le hX 216 (by decide) dX3_pickedMonths_162 ?_ ?_
        · refine G_iincN hX 5 (fun x20 => [(7, .int x20), (8, .int x17), (0, .ref (cx_ad X 5)), (3, .int v3), (4, .long v4), (6, .int v6)]) rfl rfl (by decide) (fun _ => rfl) dX3_pickedMonths_216 (fun x20 => ?_)
          refine G_goto hX 132 (by decide) dX3_pickedMonths_219 ?_
          exact G_sub [2, 3, 4, 5, 0] rfl (ih v3 v4 v6 x20 μ)
        · refine G_ldc2 hX lc_X3_131 dX3_pickedMonths_165 ?_
          refine G_aload_n hX 1 rfl rfl dX3_pickedMonths_168 ?_
          refine gf_X3_34_C5 hX dX3_pickedMonths_169 ?_
          refine G_iload hX 5 rfl dX3_pickedMonths_172 ?_
          refine G_aL hX atC30 dX3_pickedMonths_174 (fun x21 => ?_)
          refine G_aload_n hX 1 rfl rfl dX3_pickedMonths_175 ?_
          refine gf_X3_31_C5 hX dX3_pickedMonths_176 ?_
          refine G_iload hX 5 rfl dX3_pickedMonths_179 ?_
          refine G_aI hX atC29 dX3_pickedMonths_181 (fun x22 => ?_)
          refine G_i2l hX dX3_pickedMonths_182 ?_
          refine G_ldv hX dX3_pickedMonths_183 ?_
          refine G_lmul hX dX3_pickedMonths_184 ?_
          refine G_ldc2 hX lc_X3_133 dX3_pickedMonths_185 ?_
          refine G_lload hX 3 rfl dX3_pickedMonths_188 ?_
          refine G_aload_n hX 1 rfl rfl dX3_pickedMonths_190 ?_
          refine gf_X3_34_C5 hX dX3_pickedMonths_191 ?_
          refine G_iload hX 5 rfl dX3_pickedMonths_194 ?_
          refine G_aL hX atC30 dX3_pickedMonths_196 (fun x23 => ?_)
          refine G_lsub hX dX3_pickedMonths_197 ?_
          refine G_iload hX 0 rfl dX3_pickedMonths_198 ?_
          refine G_i2l hX dX3_pickedMonths_200 ?_
          refine G_ldv hX dX3_pickedMonths_201 ?_
          refine G_lmul hX dX3_pickedMonths_202 ?_
          refine G_lcmp hX dX3_pickedMonths_203 ?_
          refine G_if_ge hX 216 (by decide) dX3_pickedMonths_204 ?_ ?_
          · refine G_iincN hX 5 (fun x24 => [(7, .int x24), (8, .int x17), (0, .ref (cx_ad X 5)), (3, .int v3), (4, .long v4), (6, .int v6)]) rfl rfl (by decide) (fun _ => rfl) dX3_pickedMonths_216 (fun x24 => ?_)
            refine G_goto hX 132 (by decide) dX3_pickedMonths_219 ?_
            exact G_sub [2, 3, 4, 5, 0] rfl (ih v3 v4 v6 x24 μ)
          · refine G_iload hX 4 rfl dX3_pickedMonths_207 ?_
            refine G_iconst hX (1 : Int32) rfl dX3_pickedMonths_209 ?_
            refine G_iload hX 5 rfl dX3_pickedMonths_210 ?_
            refine G_ishl hX dX3_pickedMonths_212 ?_
            refine G_ior hX dX3_pickedMonths_213 ?_
            refine G_nmi (fun x25 => ?_)
            refine G_istore hX [(6, .int x25), (8, .int x17), (0, .ref (cx_ad X 5)), (3, .int v3), (4, .long v4), (7, .int v7)] (by decide) rfl dX3_pickedMonths_214 ?_
            refine G_iincN hX 5 (fun x26 => [(7, .int x26), (6, .int x25), (8, .int x17), (0, .ref (cx_ad X 5)), (3, .int v3), (4, .long v4)]) rfl rfl (by decide) (fun _ => rfl) dX3_pickedMonths_216 (fun x26 => ?_)
            refine G_goto hX 132 (by decide) dX3_pickedMonths_219 ?_
            exact G_sub [3, 4, 5, 1, 0] rfl (ih v3 v4 x25 x26 μ)
set_option maxHeartbeats 4000000 in
set_option maxRecDepth 100000 in
theorem gX3_pickedMonths_126 {X : Ctx} {z : Int32 × Mem} (hX : Fx wC X cX3_pickedMonths 9 RX3 (some .int) (rmo 1 23)) (hQ : Qx_i wC X z) (hcs : cx_cells X = 0 ∧ cx_slots X = 0) (N : Nat) (v3 : Int32) (v4 : Int64) (μ : Mem) : G wC X z 126 [(0, .ref (cx_ad X 5)), (3, .int v3), (4, .long v4)] [] μ (fX3_pickedMonths_126 N v3 v4 μ) := by
  unfold fX3_pickedMonths_126
  refine G_iconst hX (0 : Int32) rfl dX3_pickedMonths_126 ?_
  refine G_istore hX [(6, .int (0 : Int32)), (0, .ref (cx_ad X 5)), (3, .int v3), (4, .long v4)] (by decide) rfl dX3_pickedMonths_127 ?_
  refine G_iconst hX (0 : Int32) rfl dX3_pickedMonths_129 ?_
  refine G_istore hX [(7, .int (0 : Int32)), (6, .int (0 : Int32)), (0, .ref (cx_ad X 5)), (3, .int v3), (4, .long v4)] (by decide) rfl dX3_pickedMonths_130 ?_
  exact G_sub [2, 3, 4, 1, 0] rfl (gX3_pickedMonths_132 hX hQ hcs N N v3 v4 (0 : Int32) (0 : Int32) μ)
set_option maxHeartbeats 4000000 in
set_option maxRecDepth 100000 in
theorem gX3_pickedMonths_36 {X : Ctx} {z : Int32 × Mem} (hX : Fx wC X cX3_pickedMonths 9 RX3 (some .int) (rmo 1 23)) (hQ : Qx_i wC X z) (hcs : cx_cells X = 0 ∧ cx_slots X = 0) (N : Nat) : ∀ (n : Nat) (b0 : Nat) (v2 : Int32) (v3 : Int32) (v4 : Int64) (v6 : Int32) (hb0 : kS b0) (μ : Mem), G wC X z 36 [(0, .ref (cx_ad X 5)), (1, .ref (cx_ad X b0)), (2, .int v2), (3, .int v3), (4, .long v4), (6, .int v6)] [] μ (fX3_pickedMonths_36 N n b0 v2 v3 v4 v6 μ) := by
  intro n
  induction n with
  | zero =>
    intro b0 v2 v3 v4 v6 hb0 μ
    exact G_none
  | succ n ih =>
    intro b0 v2 v3 v4 v6 hb0 μ
    unfold fX3_pickedMonths_36
    refine G_iload hX 5 rfl dX3_pickedMonths_36 ?_
    refine G_aload_n hX 1 rfl rfl dX3_pickedMonths_38 ?_
    refine gf_X3_98_S0 hX hb0 dX3_pickedMonths_39 ?_
    refine G_nmi (fun x2 => ?_)
    refine G_icmp_ge hX 126 (by decide) dX3_pickedMonths_42 ?_ ?_
    · exact G_sub [0, 3, 4] rfl (gX3_pickedMonths_126 hX hQ hcs N v3 v4 μ)
    · refine G_aload_n hX 1 rfl rfl dX3_pickedMonths_45 ?_
      refine G_iload hX 5 rfl dX3_pickedMonths_46 ?_
      refine G_iload_n hX 2 rfl rfl dX3_pickedMonths_48 ?_
      refine G_iconst hX (1 : Int32) rfl dX3_pickedMonths_49 ?_
      refine G_cVi hX b0 7 (fun ad adK => [.int v6, .int v2, .int (1 : Int32)]) [] (fun z2 h2 => cX7_isOf_ok (cx_l X) N b0 v6 v2 (1 : Int32) μ z2 h2) ok_X7_isOf lm_X3_105 (atS_0 hb0).1 (atS_0 hb0).2 rfl rfl (fun _ _ => rfl) (Nat.le_of_ble_eq_true rfl) ⟨rfl, rfl, by decide, by decide⟩ (cs0 hcs) dX3_pickedMonths_50 (fun r3 μ => ?_)
      refine G_if_eq hX 120 (by decide) dX3_pickedMonths_53 ?_ ?_
      · refine G_iincN hX 5 (fun x4 => [(6, .int x4), (0, .ref (cx_ad X 5)), (1, .ref (cx_ad X b0)), (2, .int v2), (3, .int v3), (4, .long v4)]) rfl rfl (by decide) (fun _ => rfl) dX3_pickedMonths_120 (fun x4 => ?_)
        refine G_goto hX 36 (by decide) dX3_pickedMonths_123 ?_
        exact G_sub [1, 2, 3, 4, 5, 0] rfl (ih b0 v2 v3 v4 x4 hb0 μ)
      · refine G_aload_n hX 0 rfl rfl dX3_pickedMonths_56 ?_
        refine gf_X3_31_C5 hX dX3_pickedMonths_57 ?_
        refine G_aload_n hX 1 rfl rfl dX3_pickedMonths_60 ?_
        refine gf_X3_128_S0 hX hb0 dX3_pickedMonths_61 ?_
        refine G_iload hX 5 rfl dX3_pickedMonths_64 ?_
        refine G_aI hX (atS_5 hb0) dX3_pickedMonths_66 (fun x5 => ?_)
        refine G_dup2 hX rfl rfl dX3_pickedMonths_67 ?_
        refine G_aI hX atC29 dX3_pickedMonths_68 (fun x6 => ?_)
        refine G_aload_n hX 1 rfl rfl dX3_pickedMonths_69 ?_
        refine gf_X3_114_S0 hX hb0 dX3_pickedMonths_70 ?_
        refine G_iload hX 5 rfl dX3_pickedMonths_73 ?_
        refine G_aI hX (atS_6 hb0) dX3_pickedMonths_75 (fun x7 => ?_)
        refine G_iadd hX dX3_pickedMonths_76 ?_
        refine G_sI hX atC29 dX3_pickedMonths_77 (fun μ => ?_)
        refine G_aload_n hX 0 rfl rfl dX3_pickedMonths_78 ?_
        refine gf_X3_34_C5 hX dX3_pickedMonths_79 ?_
        refine G_aload_n hX 1 rfl rfl dX3_pickedMonths_82 ?_
        refine gf_X3_128_S0 hX hb0 dX3_pickedMonths_83 ?_
        refine G_iload hX 5 rfl dX3_pickedMonths_86 ?_
        refine G_aI hX (atS_5 hb0) dX3_pickedMonths_88 (fun x8 => ?_)
        refine G_dup2 hX rfl rfl dX3_pickedMonths_89 ?_
        refine G_aL hX atC30 dX3_pickedMonths_90 (fun x9 => ?_)
        refine G_aload_n hX 1 rfl rfl dX3_pickedMonths_91 ?_
        refine G_iload hX 5 rfl dX3_pickedMonths_92 ?_
        refine G_cVl hX b0 7 (fun ad adK => [.int v6]) [.long x9, .int x8, .ref (cx_ad X 30)] (fun z2 h2 => cX7_valueAt_ok (cx_l X) N b0 v6 μ z2 h2) ok_X7_valueAt lm_X3_117 (atS_0 hb0).1 (atS_0 hb0).2 rfl rfl (fun _ _ => rfl) (Nat.le_of_ble_eq_true rfl) ⟨rfl, rfl, by decide, by decide⟩ (cs0 hcs) dX3_pickedMonths_94 (fun r10 μ => ?_)
        refine G_ladd hX dX3_pickedMonths_97 ?_
        refine G_sL hX atC30 dX3_pickedMonths_98 (fun μ => ?_)
        refine G_iload_n hX 3 rfl rfl dX3_pickedMonths_99 ?_
        refine G_aload_n hX 1 rfl rfl dX3_pickedMonths_100 ?_
        refine gf_X3_114_S0 hX hb0 dX3_pickedMonths_101 ?_
        refine G_iload hX 5 rfl dX3_pickedMonths_104 ?_
        refine G_aI hX (atS_6 hb0) dX3_pickedMonths_106 (fun x11 => ?_)
        refine G_iadd hX dX3_pickedMonths_107 ?_
        refine G_nmi (fun x12 => ?_)
        refine G_istore_n hX [(3, .int x12), (0, .ref (cx_ad X 5)), (1, .ref (cx_ad X b0)), (2, .int v2), (4, .long v4), (6, .int v6)] rfl (by decide) rfl dX3_pickedMonths_108 ?_
        refine G_lload hX 4 rfl dX3_pickedMonths_109 ?_
        refine G_aload_n hX 2 rfl rfl dX3_pickedMonths_111 ?_
        refine G_iload hX 5 rfl dX3_pickedMonths_112 ?_
        refine G_cVl hX b0 7 (fun ad adK => [.int v6]) [.long v4] (fun z2 h2 => cX7_valueAt_ok (cx_l X) N b0 v6 μ z2 h2) ok_X7_valueAt lm_X3_117 (atS_0 hb0).1 (atS_0 hb0).2 rfl rfl (fun _ _ => rfl) (Nat.le_of_ble_eq_true rfl) ⟨rfl, rfl, by decide, by decide⟩ (cs0 hcs) dX3_pickedMonths_114 (fun r13 μ => ?_)
        refine G_ladd hX dX3_pickedMonths_117 ?_
        refine G_nml (fun x14 => ?_)
        refine G_lstore hX [(4, .long x14), (3, .int x12), (0, .ref (cx_ad X 5)), (1, .ref (cx_ad X b0)), (2, .int v2), (6, .int v6)] (by decide) rfl dX3_pickedMonths_118 ?_
        refine G_iincN hX 5 (fun x15 => [(6, .int x15), (4, .long x14), (3, .int x12), (0, .ref (cx_ad X 5)), (1, .ref (cx_ad X b0)), (2, .int v2)]) rfl rfl (by decide) (fun _ => rfl) dX3_pickedMonths_120 (fun x15 => ?_)
        refine G_goto hX 36 (by decide) dX3_pickedMonths_123 ?_
        exact G_sub [3, 4, 5, 2, 1, 0] rfl (ih b0 v2 x12 x14 x15 hb0 μ)
set_option maxHeartbeats 4000000 in
set_option maxRecDepth 100000 in
theorem gX3_pickedMonths_28 {X : Ctx} {z : Int32 × Mem} (hX : Fx wC X cX3_pickedMonths 9 RX3 (some .int) (rmo 1 23)) (hQ : Qx_i wC X z) (hcs : cx_cells X = 0 ∧ cx_slots X = 0) (N : Nat) (b0 : Nat) (v2 : Int32) (hb0 : kS b0) (μ : Mem) : G wC X z 28 [(0, .ref (cx_ad X 5)), (1, .ref (cx_ad X b0)), (2, .int v2)] [] μ (fX3_pickedMonths_28 N b0 v2 μ) := by
  unfold fX3_pickedMonths_28
  refine G_iconst hX (0 : Int32) rfl dX3_pickedMonths_28 ?_
  refine G_istore_n hX [(3, .int (0 : Int32)), (0, .ref (cx_ad X 5)), (1, .ref (cx_ad X b0)), (2, .int v2)] rfl (by decide) rfl dX3_pickedMonths_29 ?_
  refine G_lconst hX (0 : Int64) rfl dX3_pickedMonths_30 ?_
  refine G_lstore hX [(4, .long (0 : Int64)), (3, .int (0 : Int32)), (0, .ref (cx_ad X 5)), (1, .ref (cx_ad X b0)), (2, .int v2)] (by decide) rfl dX3_pickedMonths_31 ?_
  refine G_iconst hX (0 : Int32) rfl dX3_pickedMonths_33 ?_
  refine G_istore hX [(6, .int (0 : Int32)), (4, .long (0 : Int64)), (3, .int (0 : Int32)), (0, .ref (cx_ad X 5)), (1, .ref (cx_ad X b0)), (2, .int v2)] (by decide) rfl dX3_pickedMonths_34 ?_
  exact G_sub [3, 4, 5, 2, 1, 0] rfl (gX3_pickedMonths_36 hX hQ hcs N N b0 v2 (0 : Int32) (0 : Int64) (0 : Int32) hb0 μ)
set_option maxHeartbeats 4000000 in
set_option maxRecDepth 100000 in
theorem gX3_pickedMonths_2 {X : Ctx} {z : Int32 × Mem} (hX : Fx wC X cX3_pickedMonths 9 RX3 (some .int) (rmo 1 23)) (hQ : Qx_i wC X z) (hcs : cx_cells X = 0 ∧ cx_slots X = 0) (N : Nat) : ∀ (n : Nat) (b0 : Nat) (v2 : Int32) (v3 : Int32) (hb0 : kS b0) (μ : Mem), G wC X z 2 [(0, .ref (cx_ad X 5)), (1, .ref (cx_ad X b0)), (2, .int v2), (3, .int v3)] [] μ (fX3_pickedMonths_2 N n b0 v2 v3 μ) := by
  intro n
  induction n with
  | zero =>
    intro b0 v2 v3 hb0 μ
    exact G_none
  | succ n ih =>
    intro b0 v2 v3 hb0 μ
    unfold fX3_pickedMonths_2
    refine G_iload_n hX 3 rfl rfl dX3_pickedMonths_2 ?_
    refine G_bipush hX (12 : Int32) rfl dX3_pickedMonths_3 ?_
    refine G_icmp_ge hX 28 (by decide) dX3_pickedMonths_5 ?_ ?_
    · exact G_sub [0, 1, 2] rfl (gX3_pickedMonths_28 hX hQ hcs N b0 v2 hb0 μ)
    · refine G_aload_n hX 0 rfl rfl dX3_pickedMonths_8 ?_
      refine gf_X3_31_C5 hX dX3_pickedMonths_9 ?_
      refine G_iload_n hX 3 rfl rfl dX3_pickedMonths_12 ?_
      refine G_iconst hX (0 : Int32) rfl dX3_pickedMonths_13 ?_
      refine G_sI hX atC29 dX3_pickedMonths_14 (fun μ => ?_)
      refine G_aload_n hX 0 rfl rfl dX3_pickedMonths_15 ?_
      refine gf_X3_34_C5 hX dX3_pickedMonths_16 ?_
      refine G_iload_n hX 3 rfl rfl dX3_pickedMonths_19 ?_
      refine G_lconst hX (0 : Int64) rfl dX3_pickedMonths_20 ?_
      refine G_sL hX atC30 dX3_pickedMonths_21 (fun μ => ?_)
      refine G_iincN hX 3 (fun x1 => [(3, .int x1), (0, .ref (cx_ad X 5)), (1, .ref (cx_ad X b0)), (2, .int v2)]) rfl rfl (by decide) (fun _ => rfl) dX3_pickedMonths_22 (fun x1 => ?_)
      refine G_goto hX 2 (by decide) dX3_pickedMonths_25 ?_
      exact G_sub [1, 2, 3, 0] rfl (ih b0 v2 x1 hb0 μ)
set_option maxHeartbeats 4000000 in
set_option maxRecDepth 100000 in
theorem gX3_pickedMonths_E {X : Ctx} {z : Int32 × Mem} (hX : Fx wC X cX3_pickedMonths 9 RX3 (some .int) (rmo 1 23)) (hQ : Qx_i wC X z) (hcs : cx_cells X = 0 ∧ cx_slots X = 0) (N : Nat) (p0 : Nat) (p1 : Int32) (μ : Mem) : G wC X z 0 [(0, .ref (cx_ad X 5)), (1, .ref (cx_ad X p0)), (2, .int p1)] [] μ (fX3_pickedMonths N p0 p1 μ) := by
  unfold fX3_pickedMonths
  refine G_guard (fun hp0 => ?_)
  refine G_iconst hX (0 : Int32) rfl dX3_pickedMonths_0 ?_
  refine G_istore_n hX [(3, .int (0 : Int32)), (0, .ref (cx_ad X 5)), (1, .ref (cx_ad X p0)), (2, .int p1)] rfl (by decide) rfl dX3_pickedMonths_1 ?_
  exact G_sub [1, 2, 3, 0] rfl (gX3_pickedMonths_2 hX hQ hcs N N p0 p1 (0 : Int32) hp0 μ)
theorem cX3_pickedMonths_ok (l : Launch) (N : Nat) (p0 : Nat) (p1 : Int32) (μ : Mem) (z : Int32 × Mem) (h : fX3_pickedMonths N p0 p1 μ = some z) : Mi wC l yX3_pickedMonths cX3_pickedMonths 9 .int (rmo 1 23) (fun ad adK => [.ref (ad 5), .ref (ad p0), .int p1]) μ z := Mi.of h (by decide +kernel) (fun _ _ => Nat.le_of_ble_eq_true rfl) (fun X hX hQ hl hcs => gX3_pickedMonths_E hX hQ hcs N p0 p1 μ)
/-! ===== DutyCase$Duties.depositOf(LDutyCase$Sales;I)J ===== -/
set_option maxHeartbeats 4000000 in
set_option maxRecDepth 100000 in
theorem gX3_depositOf_E {X : Ctx} {z : Int64 × Mem} (hX : Fx wC X cX3_depositOf 3 RX3 (some .long) (rmo 0 0)) (hQ : Qx_l wC X z) (hcs : cx_cells X = 0 ∧ cx_slots X = 0) (N : Nat) (p0 : Nat) (p1 : Int32) (μ : Mem) : G wC X z 0 [(0, .ref (cx_ad X 5)), (1, .ref (cx_ad X p0)), (2, .int p1)] [] μ (fX3_depositOf N p0 p1 μ) := by
  unfold fX3_depositOf
  refine G_guard (fun hp0 => ?_)
  refine G_aload_n hX 0 rfl rfl dX3_depositOf_0 ?_
  refine gf_X3_15_C5 hX dX3_depositOf_1 ?_
  refine G_aload_n hX 1 rfl rfl dX3_depositOf_4 ?_
  refine gf_X3_135_S0 hX hp0 dX3_depositOf_5 ?_
  refine G_iload_n hX 2 rfl rfl dX3_depositOf_8 ?_
  refine G_aI hX (atS_2 hp0) dX3_depositOf_9 (fun x1 => ?_)
  refine G_aI hX atC24 dX3_depositOf_10 (fun x2 => ?_)
  refine G_i2l hX dX3_depositOf_11 ?_
  refine G_aload_n hX 1 rfl rfl dX3_depositOf_12 ?_
  refine gf_X3_111_S0 hX hp0 dX3_depositOf_13 ?_
  refine G_iload_n hX 2 rfl rfl dX3_depositOf_16 ?_
  refine G_aI hX (atS_9 hp0) dX3_depositOf_17 (fun x3 => ?_)
  refine G_i2l hX dX3_depositOf_18 ?_
  refine G_lmul hX dX3_depositOf_19 ?_
  refine G_aload_n hX 1 rfl rfl dX3_depositOf_20 ?_
  refine gf_X3_114_S0 hX hp0 dX3_depositOf_21 ?_
  refine G_iload_n hX 2 rfl rfl dX3_depositOf_24 ?_
  refine G_aI hX (atS_6 hp0) dX3_depositOf_25 (fun x4 => ?_)
  refine G_i2l hX dX3_depositOf_26 ?_
  refine G_lmul hX dX3_depositOf_27 ?_
  refine G_ldc2 hX lc_X3_138 dX3_depositOf_28 ?_
  refine G_ldiv0 hX (by decide) dX3_depositOf_31 ?_
  exact G_lret hX hQ dX3_depositOf_32
theorem cX3_depositOf_ok (l : Launch) (N : Nat) (p0 : Nat) (p1 : Int32) (μ : Mem) (z : Int64 × Mem) (h : fX3_depositOf N p0 p1 μ = some z) : Ml wC l yX3_depositOf cX3_depositOf 3 .long (rmo 0 0) (fun ad adK => [.ref (ad 5), .ref (ad p0), .int p1]) μ z := Ml.of h (by decide +kernel) (fun _ _ => Nat.le_of_ble_eq_true rfl) (fun X hX hQ hl hcs => gX3_depositOf_E hX hQ hcs N p0 p1 μ)
/-! ===== DutyCase$Duties.depositsOf(LDutyCase$Sales;I)J ===== -/
set_option maxHeartbeats 4000000 in
set_option maxRecDepth 100000 in
theorem gX3_depositsOf_5 {X : Ctx} {z : Int64 × Mem} (hX : Fx wC X cX3_depositsOf 6 RX3 (some .long) (rmo 1 23)) (hQ : Qx_l wC X z) (hcs : cx_cells X = 0 ∧ cx_slots X = 0) (N : Nat) : ∀ (n : Nat) (b0 : Nat) (v2 : Int32) (v3 : Int64) (v5 : Int32) (hb0 : kS b0) (μ : Mem), G wC X z 5 [(0, .ref (cx_ad X 5)), (1, .ref (cx_ad X b0)), (2, .int v2), (3, .long v3), (5, .int v5)] [] μ (fX3_depositsOf_5 N n b0 v2 v3 v5 μ) := by
  intro n
  induction n with
  | zero =>
    intro b0 v2 v3 v5 hb0 μ
    exact G_none
  | succ n ih =>
    intro b0 v2 v3 v5 hb0 μ
    unfold fX3_depositsOf_5
    refine G_iload hX 4 rfl dX3_depositsOf_5 ?_
    refine G_aload_n hX 1 rfl rfl dX3_depositsOf_7 ?_
    refine gf_X3_98_S0 hX hb0 dX3_depositsOf_8 ?_
    refine G_nmi (fun x1 => ?_)
    refine G_icmp_ge hX 41 (by decide) dX3_depositsOf_11 ?_ ?_
    · refine G_lload_n hX 3 rfl rfl dX3_depositsOf_41 ?_
      exact G_lret hX hQ dX3_depositsOf_42
    · refine G_aload_n hX 1 rfl rfl dX3_depositsOf_14 ?_
      refine G_iload hX 4 rfl dX3_depositsOf_15 ?_
      refine G_iload_n hX 2 rfl rfl dX3_depositsOf_17 ?_
      refine G_iconst hX (1 : Int32) rfl dX3_depositsOf_18 ?_
      refine G_cVi hX b0 7 (fun ad adK => [.int v5, .int v2, .int (1 : Int32)]) [] (fun z2 h2 => cX7_isOf_ok (cx_l X) N b0 v5 v2 (1 : Int32) μ z2 h2) ok_X7_isOf lm_X3_105 (atS_0 hb0).1 (atS_0 hb0).2 rfl rfl (fun _ _ => rfl) (Nat.le_of_ble_eq_true rfl) ⟨rfl, rfl, by decide, by decide⟩ (cs0 hcs) dX3_depositsOf_19 (fun r2 μ => ?_)
      refine G_if_eq hX 35 (by decide) dX3_depositsOf_22 ?_ ?_
      · refine G_iincN hX 4 (fun x3 => [(5, .int x3), (0, .ref (cx_ad X 5)), (1, .ref (cx_ad X b0)), (2, .int v2), (3, .long v3)]) rfl rfl (by decide) (fun _ => rfl) dX3_depositsOf_35 (fun x3 => ?_)
        refine G_goto hX 5 (by decide) dX3_depositsOf_38 ?_
        exact G_sub [1, 2, 3, 4, 0] rfl (ih b0 v2 v3 x3 hb0 μ)
      · refine G_lload_n hX 3 rfl rfl dX3_depositsOf_25 ?_
        refine G_aload_n hX 0 rfl rfl dX3_depositsOf_26 ?_
        refine G_aload_n hX 1 rfl rfl dX3_depositsOf_27 ?_
        refine G_iload hX 4 rfl dX3_depositsOf_28 ?_
        refine G_cVl hX 5 3 (fun ad adK => [.ref (ad b0), .int v5]) [.long v3] (fun z2 h2 => cX3_depositOf_ok (cx_l X) N b0 v5 μ z2 h2) ok_X3_depositOf lm_X3_140 atC5.1 atC5.2 rfl rfl (fun _ _ => rfl) (Nat.le_of_ble_eq_true rfl) ⟨rfl, rfl, by decide, by decide⟩ (cs0 hcs) dX3_depositsOf_30 (fun r4 μ => ?_)
        refine G_ladd hX dX3_depositsOf_33 ?_
        refine G_nml (fun x5 => ?_)
        refine G_lstore_n hX [(3, .long x5), (0, .ref (cx_ad X 5)), (1, .ref (cx_ad X b0)), (2, .int v2), (5, .int v5)] rfl (by decide) rfl dX3_depositsOf_34 ?_
        refine G_iincN hX 4 (fun x6 => [(5, .int x6), (3, .long x5), (0, .ref (cx_ad X 5)), (1, .ref (cx_ad X b0)), (2, .int v2)]) rfl rfl (by decide) (fun _ => rfl) dX3_depositsOf_35 (fun x6 => ?_)
        refine G_goto hX 5 (by decide) dX3_depositsOf_38 ?_
        exact G_sub [2, 3, 4, 1, 0] rfl (ih b0 v2 x5 x6 hb0 μ)
set_option maxHeartbeats 4000000 in
set_option maxRecDepth 100000 in
theorem gX3_depositsOf_E {X : Ctx} {z : Int64 × Mem} (hX : Fx wC X cX3_depositsOf 6 RX3 (some .long) (rmo 1 23)) (hQ : Qx_l wC X z) (hcs : cx_cells X = 0 ∧ cx_slots X = 0) (N : Nat) (p0 : Nat) (p1 : Int32) (μ : Mem) : G wC X z 0 [(0, .ref (cx_ad X 5)), (1, .ref (cx_ad X p0)), (2, .int p1)] [] μ (fX3_depositsOf N p0 p1 μ) := by
  unfold fX3_depositsOf
  refine G_guard (fun hp0 => ?_)
  refine G_lconst hX (0 : Int64) rfl dX3_depositsOf_0 ?_
  refine G_lstore_n hX [(3, .long (0 : Int64)), (0, .ref (cx_ad X 5)), (1, .ref (cx_ad X p0)), (2, .int p1)] rfl (by decide) rfl dX3_depositsOf_1 ?_
  refine G_iconst hX (0 : Int32) rfl dX3_depositsOf_2 ?_
  refine G_istore hX [(5, .int (0 : Int32)), (3, .long (0 : Int64)), (0, .ref (cx_ad X 5)), (1, .ref (cx_ad X p0)), (2, .int p1)] (by decide) rfl dX3_depositsOf_3 ?_
  exact G_sub [2, 3, 4, 1, 0] rfl (gX3_depositsOf_5 hX hQ hcs N N p0 p1 (0 : Int64) (0 : Int32) hp0 μ)
theorem cX3_depositsOf_ok (l : Launch) (N : Nat) (p0 : Nat) (p1 : Int32) (μ : Mem) (z : Int64 × Mem) (h : fX3_depositsOf N p0 p1 μ = some z) : Ml wC l yX3_depositsOf cX3_depositsOf 6 .long (rmo 1 23) (fun ad adK => [.ref (ad 5), .ref (ad p0), .int p1]) μ z := Ml.of h (by decide +kernel) (fun _ _ => Nat.le_of_ble_eq_true rfl) (fun X hX hQ hl hcs => gX3_depositsOf_E hX hQ hcs N p0 p1 μ)
/-! ===== DutyCase$Duties.placeOf(II)I ===== -/
set_option maxHeartbeats 4000000 in
set_option maxRecDepth 100000 in
theorem gX3_placeOf_5 {X : Ctx} {z : Int32 × Mem} (hX : Fx wC X cX3_placeOf 5 RX3 (some .int) (rmo 0 0)) (hQ : Qx_i wC X z) (hcs : cx_cells X = 0 ∧ cx_slots X = 0) (N : Nat) : ∀ (n : Nat) (v1 : Int32) (v2 : Int32) (v3 : Int32) (v4 : Int32) (μ : Mem), G wC X z 5 [(0, .ref (cx_ad X 5)), (1, .int v1), (2, .int v2), (3, .int v3), (4, .int v4)] [] μ (fX3_placeOf_5 N n v1 v2 v3 v4 μ) := by
  intro n
  induction n with
  | zero =>
    intro v1 v2 v3 v4 μ
    exact G_none
  | succ n ih =>
    intro v1 v2 v3 v4 μ
    unfold fX3_placeOf_5
    refine G_iload hX 4 rfl dX3_placeOf_5 ?_
    refine G_iload_n hX 2 rfl rfl dX3_placeOf_7 ?_
    refine G_icmp_ge hX 58 (by decide) dX3_placeOf_8 ?_ ?_
    · refine G_iload_n hX 3 rfl rfl dX3_placeOf_58 ?_
      exact G_iret hX hQ dX3_placeOf_59
    · refine G_aload_n hX 0 rfl rfl dX3_placeOf_11 ?_
      refine gf_X3_21_C5 hX dX3_placeOf_12 ?_
      refine G_iload hX 4 rfl dX3_placeOf_15 ?_
      refine G_aI hX atC26 dX3_placeOf_17 (fun x1 => ?_)
      refine G_aload_n hX 0 rfl rfl dX3_placeOf_18 ?_
      refine gf_X3_21_C5 hX dX3_placeOf_19 ?_
      refine G_iload_n hX 1 rfl rfl dX3_placeOf_22 ?_
      refine G_aI hX atC26 dX3_placeOf_23 (fun x2 => ?_)
      refine G_icmp_gt hX 49 (by decide) dX3_placeOf_24 ?_ ?_
      · refine G_iincN hX 3 (fun x3 => [(3, .int x3), (0, .ref (cx_ad X 5)), (1, .int v1), (2, .int v2), (4, .int v4)]) rfl rfl (by decide) (fun _ => rfl) dX3_placeOf_49 (fun x3 => ?_)
        refine G_iincN hX 4 (fun x4 => [(4, .int x4), (3, .int x3), (0, .ref (cx_ad X 5)), (1, .int v1), (2, .int v2)]) rfl rfl (by decide) (fun _ => rfl) dX3_placeOf_52 (fun x4 => ?_)
        refine G_goto hX 5 (by decide) dX3_placeOf_55 ?_
        exact G_sub [2, 3, 4, 1, 0] rfl (ih v1 v2 x3 x4 μ)
      · refine G_aload_n hX 0 rfl rfl dX3_placeOf_27 ?_
        refine gf_X3_21_C5 hX dX3_placeOf_28 ?_
        refine G_iload hX 4 rfl dX3_placeOf_31 ?_
        refine G_aI hX atC26 dX3_placeOf_33 (fun x5 => ?_)
        refine G_aload_n hX 0 rfl rfl dX3_placeOf_34 ?_
        refine gf_X3_21_C5 hX dX3_placeOf_35 ?_
        refine G_iload_n hX 1 rfl rfl dX3_placeOf_38 ?_
        refine G_aI hX atC26 dX3_placeOf_39 (fun x6 => ?_)
        refine G_icmp_ne hX 52 (by decide) dX3_placeOf_40 ?_ ?_
        · refine G_iincN hX 4 (fun x7 => [(4, .int x7), (0, .ref (cx_ad X 5)), (1, .int v1), (2, .int v2), (3, .int v3)]) rfl rfl (by decide) (fun _ => rfl) dX3_placeOf_52 (fun x7 => ?_)
          refine G_goto hX 5 (by decide) dX3_placeOf_55 ?_
          exact G_sub [1, 2, 3, 4, 0] rfl (ih v1 v2 v3 x7 μ)
        · refine G_iload hX 4 rfl dX3_placeOf_43 ?_
          refine G_iload_n hX 1 rfl rfl dX3_placeOf_45 ?_
          refine G_icmp_ge hX 52 (by decide) dX3_placeOf_46 ?_ ?_
          · refine G_iincN hX 4 (fun x8 => [(4, .int x8), (0, .ref (cx_ad X 5)), (1, .int v1), (2, .int v2), (3, .int v3)]) rfl rfl (by decide) (fun _ => rfl) dX3_placeOf_52 (fun x8 => ?_)
            refine G_goto hX 5 (by decide) dX3_placeOf_55 ?_
            exact G_sub [1, 2, 3, 4, 0] rfl (ih v1 v2 v3 x8 μ)
          · refine G_iincN hX 3 (fun x9 => [(3, .int x9), (0, .ref (cx_ad X 5)), (1, .int v1), (2, .int v2), (4, .int v4)]) rfl rfl (by decide) (fun _ => rfl) dX3_placeOf_49 (fun x9 => ?_)
            refine G_iincN hX 4 (fun x10 => [(4, .int x10), (3, .int x9), (0, .ref (cx_ad X 5)), (1, .int v1), (2, .int v2)]) rfl rfl (by decide) (fun _ => rfl) dX3_placeOf_52 (fun x10 => ?_)
            refine G_goto hX 5 (by decide) dX3_placeOf_55 ?_
            exact G_sub [2, 3, 4, 1, 0] rfl (ih v1 v2 x9 x10 μ)
set_option maxHeartbeats 4000000 in
set_option maxRecDepth 100000 in
theorem gX3_placeOf_E {X : Ctx} {z : Int32 × Mem} (hX : Fx wC X cX3_placeOf 5 RX3 (some .int) (rmo 0 0)) (hQ : Qx_i wC X z) (hcs : cx_cells X = 0 ∧ cx_slots X = 0) (N : Nat) (p0 : Int32) (p1 : Int32) (μ : Mem) : G wC X z 0 [(0, .ref (cx_ad X 5)), (1, .int p0), (2, .int p1)] [] μ (fX3_placeOf N p0 p1 μ) := by
  unfold fX3_placeOf
  refine G_iconst hX (0 : Int32) rfl dX3_placeOf_0 ?_
  refine G_istore_n hX [(3, .int (0 : Int32)), (0, .ref (cx_ad X 5)), (1, .int p0), (2, .int p1)] rfl (by decide) rfl dX3_placeOf_1 ?_
  refine G_iconst hX (0 : Int32) rfl dX3_placeOf_2 ?_
  refine G_istore hX [(4, .int (0 : Int32)), (3, .int (0 : Int32)), (0, .ref (cx_ad X 5)), (1, .int p0), (2, .int p1)] (by decide) rfl dX3_placeOf_3 ?_
  exact G_sub [2, 3, 4, 1, 0] rfl (gX3_placeOf_5 hX hQ hcs N N p0 p1 (0 : Int32) (0 : Int32) μ)
theorem cX3_placeOf_ok (l : Launch) (N : Nat) (p0 : Int32) (p1 : Int32) (μ : Mem) (z : Int32 × Mem) (h : fX3_placeOf N p0 p1 μ = some z) : Mi wC l yX3_placeOf cX3_placeOf 5 .int (rmo 0 0) (fun ad adK => [.ref (ad 5), .int p0, .int p1]) μ z := Mi.of h (by decide +kernel) (fun _ _ => Nat.le_of_ble_eq_true rfl) (fun X hX hQ hl hcs => gX3_placeOf_E hX hQ hcs N p0 p1 μ)
