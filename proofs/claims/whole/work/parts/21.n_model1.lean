/-! ===== DutyCaseModel.thrown()I ===== -/
set_option maxHeartbeats 4000000 in
set_option maxRecDepth 100000 in
theorem gX11_thrown_E {X : Ctx} {z : Int32 × Mem} (hX : Fx wM X cX11_thrown 1 RX11 (some .int) (rmo 0 0)) (hQ : Qx_i wM X z) (hcs : cx_cells X = 0 ∧ cx_slots X = 0) (N : Nat) (μ : Mem) : G wM X z 0 [(0, .ref (cx_ad X 0))] [] μ (fX11_thrown N μ) := by
  unfold fX11_thrown
  refine G_aload_n hX 0 rfl rfl dX11_thrown_0 ?_
  refine gf_X11_104_M0 hX dX11_thrown_1 ?_
  refine G_nmi (fun x1 => ?_)
  exact G_iret hX hQ dX11_thrown_4
theorem cX11_thrown_ok (l : Launch) (N : Nat) (μ : Mem) (z : Int32 × Mem) (h : fX11_thrown N μ = some z) : Mi wM l yX11_thrown cX11_thrown 1 .int (rmo 0 0) (fun ad adK => [.ref (ad 0)]) μ z := Mi.of h (by decide +kernel) (fun _ _ => Nat.le_of_ble_eq_true rfl) (fun X hX hQ hl hcs => gX11_thrown_E hX hQ hcs N μ)
/-! ===== DutyCaseModel.isIn(JJJ)Z ===== -/
set_option maxHeartbeats 4000000 in
set_option maxRecDepth 100000 in
theorem gX11_isIn_E {X : Ctx} {z : Int32 × Mem} (hX : Fx wM X cX11_isIn 6 RX11 (some .boolean) (rmo 0 0)) (hQ : Qx_i wM X z) (hcs : cx_cells X = 0 ∧ cx_slots X = 0) (N : Nat) (p0 : Int64) (p1 : Int64) (p2 : Int64) (μ : Mem) : G wM X z 0 [(0, .long p0), (2, .long p1), (4, .long p2)] [] μ (fX11_isIn N p0 p1 p2 μ) := by
  unfold fX11_isIn
  refine G_lload_n hX 0 rfl rfl dX11_isIn_0 ?_
  refine G_lload_n hX 1 rfl rfl dX11_isIn_1 ?_
  refine G_lcmp hX dX11_isIn_2 ?_
  refine G_if_lt hX 17 (by decide) dX11_isIn_3 ?_ ?_
  · refine G_iconst hX (0 : Int32) rfl dX11_isIn_17 ?_
    exact G_zret hX hQ rfl dX11_isIn_18
  · refine G_lload_n hX 0 rfl rfl dX11_isIn_6 ?_
    refine G_lload hX 2 rfl dX11_isIn_7 ?_
    refine G_lcmp hX dX11_isIn_9 ?_
    refine G_if_gt hX 17 (by decide) dX11_isIn_10 ?_ ?_
    · refine G_iconst hX (0 : Int32) rfl dX11_isIn_17 ?_
      exact G_zret hX hQ rfl dX11_isIn_18
    · refine G_iconst hX (1 : Int32) rfl dX11_isIn_13 ?_
      refine G_goto hX 18 (by decide) dX11_isIn_14 ?_
      exact G_zret hX hQ rfl dX11_isIn_18
theorem cX11_isIn_ok (l : Launch) (N : Nat) (p0 : Int64) (p1 : Int64) (p2 : Int64) (μ : Mem) (z : Int32 × Mem) (h : fX11_isIn N p0 p1 p2 μ = some z) : Mi wM l yX11_isIn cX11_isIn 6 .boolean (rmo 0 0) (fun ad adK => [.long p0, .long p1, .long p2]) μ z := Mi.of h (by decide +kernel) (fun _ _ => Nat.le_of_ble_eq_true rfl) (fun X hX hQ hl hcs => gX11_isIn_E hX hQ hcs N p0 p1 p2 μ)
/-! ===== DutyCaseModel.fails(I)I ===== -/
set_option maxHeartbeats 4000000 in
set_option maxRecDepth 100000 in
theorem gX11_fails_E {X : Ctx} {z : Int32 × Mem} (hX : Fx wM X cX11_fails 2 RX11 (some .int) (rmo 0 0)) (hQ : Qx_i wM X z) (hcs : cx_cells X = 0 ∧ cx_slots X = 0) (N : Nat) (p0 : Int32) (μ : Mem) : G wM X z 0 [(0, .ref (cx_ad X 0)), (1, .int p0)] [] μ (fX11_fails N p0 μ) := by
  unfold fX11_fails
  refine G_aload_n hX 0 rfl rfl dX11_fails_0 ?_
  refine G_iload_n hX 1 rfl rfl dX11_fails_1 ?_
  refine pf_X11_104_M0 hX dX11_fails_2 (fun μ => ?_)
  refine G_iconst hX (0 : Int32) rfl dX11_fails_5 ?_
  exact G_iret hX hQ dX11_fails_6
theorem cX11_fails_ok (l : Launch) (N : Nat) (p0 : Int32) (μ : Mem) (z : Int32 × Mem) (h : fX11_fails N p0 μ = some z) : Mi wM l yX11_fails cX11_fails 2 .int (rmo 0 0) (fun ad adK => [.ref (ad 0), .int p0]) μ z := Mi.of h (by decide +kernel) (fun _ _ => Nat.le_of_ble_eq_true rfl) (fun X hX hQ hl hcs => gX11_fails_E hX hQ hcs N p0 μ)
/-! ===== DutyCaseModel.feed(IIIII)I ===== -/
set_option maxHeartbeats 4000000 in
set_option maxRecDepth 100000 in
theorem gX11_feed_76 {X : Ctx} {z : Int32 × Mem} (hX : Fx wM X cX11_feed 8 RX11 (some .int) (rmo 0 0)) (hQ : Qx_i wM X z) (hcs : cx_cells X = 0 ∧ cx_slots X = 0) (N : Nat) (k23 : Int32 → Int32 → Int32 → Int32 → Int32 → Int32 → Mem → Option (Int32 × Mem)) (hk23 : ∀ (v1 : Int32) (v2 : Int32) (v3 : Int32) (v4 : Int32) (v5 : Int32) (v6 : Int32) (μ : Mem), G wM X z 23 [(0, .ref (cx_ad X 0)), (1, .int v1), (2, .int v2), (3, .int v3), (4, .int v4), (5, .int v5), (6, .int v6)] [] μ (k23 v1 v2 v3 v4 v5 v6 μ)) (v1 : Int32) (v2 : Int32) (v3 : Int32) (v4 : Int32) (v5 : Int32) (v6 : Int32) (s0 : Int32) (μ : Mem) : G wM X z 76 [(0, .ref (cx_ad X 0)), (1, .int v1), (2, .int v2), (3, .int v3), (4, .int v4), (5, .int v5), (6, .int v6)] [.int s0] μ (fX11_feed_76 N k23 v1 v2 v3 v4 v5 v6 s0 μ) := by
  unfold fX11_feed_76
  refine G_istore hX [(7, .int s0), (0, .ref (cx_ad X 0)), (1, .int v1), (2, .int v2), (3, .int v3), (4, .int v4), (5, .int v5), (6, .int v6)] (by decide) rfl dX11_feed_76 ?_
  refine G_aload_n hX 1 rfl rfl dX11_feed_78 ?_
  refine gf_X11_37_M0 hX dX11_feed_79 ?_
  refine G_aload_n hX 1 rfl rfl dX11_feed_82 ?_
  refine gf_X11_107_M0 hX dX11_feed_83 ?_
  refine G_nmi (fun x3 => ?_)
  refine G_iload hX 0 rfl dX11_feed_86 ?_
  refine G_bipush hX (24 : Int32) rfl dX11_feed_88 ?_
  refine G_bipush hX (8 : Int32) rfl dX11_feed_90 ?_
  refine G_iload hX 7 rfl dX11_feed_92 ?_
  refine G_iconst hX (4 : Int32) rfl dX11_feed_94 ?_
  refine G_irem0 hX (by decide) dX11_feed_95 ?_
  refine G_imul hX dX11_feed_96 ?_
  refine G_isub hX dX11_feed_97 ?_
  refine G_ishr hX dX11_feed_98 ?_
  refine G_i2b hX dX11_feed_99 ?_
  refine G_sB hX atM10 dX11_feed_100 (fun μ => ?_)
  refine G_aload_n hX 1 rfl rfl dX11_feed_101 ?_
  refine G_dup hX rfl dX11_feed_102 ?_
  refine gf_X11_107_M0 hX dX11_feed_103 ?_
  refine G_nmi (fun x4 => ?_)
  refine G_iconst hX (1 : Int32) rfl dX11_feed_106 ?_
  refine G_iadd hX dX11_feed_107 ?_
  refine G_nmi (fun x5 => ?_)
  refine pf_X11_107_M0 hX dX11_feed_108 (fun μ => ?_)
  refine G_iincN hX 7 (fun x6 => [(6, .int x6), (7, .int s0), (0, .ref (cx_ad X 0)), (1, .int v1), (2, .int v2), (3, .int v3), (4, .int v4), (5, .int v5)]) rfl rfl (by decide) (fun _ => rfl) dX11_feed_111 (fun x6 => ?_)
  refine G_goto hX 23 (by decide) dX11_feed_114 ?_
  exact G_sub [2, 3, 4, 5, 6, 7, 0] rfl (hk23 v1 v2 v3 v4 v5 x6 μ)
set_option maxHeartbeats 4000000 in
set_option maxRecDepth 100000 in
theorem gX11_feed_23 {X : Ctx} {z : Int32 × Mem} (hX : Fx wM X cX11_feed 8 RX11 (some .int) (rmo 0 0)) (hQ : Qx_i wM X z) (hcs : cx_cells X = 0 ∧ cx_slots X = 0) (N : Nat) : ∀ (n : Nat) (v1 : Int32) (v2 : Int32) (v3 : Int32) (v4 : Int32) (v5 : Int32) (v6 : Int32) (μ : Mem), G wM X z 23 [(0, .ref (cx_ad X 0)), (1, .int v1), (2, .int v2), (3, .int v3), (4, .int v4), (5, .int v5), (6, .int v6)] [] μ (fX11_feed_23 N n v1 v2 v3 v4 v5 v6 μ) := by
  intro n
  induction n with
  | zero =>
    intro v1 v2 v3 v4 v5 v6 μ
    exact G_none
  | succ n ih =>
    intro v1 v2 v3 v4 v5 v6 μ
    unfold fX11_feed_23
    refine G_iload hX 6 rfl dX11_feed_23 ?_
    refine G_bipush hX (20 : Int32) rfl dX11_feed_25 ?_
    refine G_icmp_ge hX 117 (by decide) dX11_feed_27 ?_ ?_
    · refine G_aload_n hX 0 rfl rfl dX11_feed_117 ?_
      refine gf_X11_107_M0 hX dX11_feed_118 ?_
      refine G_nmi (fun x2 => ?_)
      exact G_iret hX hQ dX11_feed_121
    · refine G_iload hX 6 rfl dX11_feed_30 ?_
      refine G_iconst hX (4 : Int32) rfl dX11_feed_32 ?_
      refine G_icmp_ge hX 40 (by decide) dX11_feed_33 ?_ ?_
      · refine G_iload hX 6 rfl dX11_feed_40 ?_
        refine G_bipush hX (8 : Int32) rfl dX11_feed_42 ?_
        refine G_icmp_ge hX 51 (by decide) dX11_feed_44 ?_ ?_
        · refine G_iload hX 6 rfl dX11_feed_51 ?_
          refine G_bipush hX (12 : Int32) rfl dX11_feed_53 ?_
          refine G_icmp_ge hX 62 (by decide) dX11_feed_55 ?_ ?_
          · refine G_iload hX 6 rfl dX11_feed_62 ?_
            refine G_bipush hX (16 : Int32) rfl dX11_feed_64 ?_
            refine G_icmp_ge hX 74 (by decide) dX11_feed_66 ?_ ?_
            · refine G_iload hX 5 rfl dX11_feed_74 ?_
              exact G_sub [0, 1, 2, 3, 4, 5, 6] rfl (gX11_feed_76 hX hQ hcs N (fun v1 v2 v3 v4 v5 v6 μ => fX11_feed_23 N n v1 v2 v3 v4 v5 v6 μ) (fun v1 v2 v3 v4 v5 v6  μ => ih v1 v2 v3 v4 v5 v6  μ) v1 v2 v3 v4 v5 v6 v5 μ)
            · refine G_iload hX 4 rfl dX11_feed_69 ?_
              refine G_goto hX 76 (by decide) dX11_feed_71 ?_
              exact G_sub [0, 1, 2, 3, 4, 5, 6] rfl (gX11_feed_76 hX hQ hcs N (fun v1 v2 v3 v4 v5 v6 μ => fX11_feed_23 N n v1 v2 v3 v4 v5 v6 μ) (fun v1 v2 v3 v4 v5 v6  μ => ih v1 v2 v3 v4 v5 v6  μ) v1 v2 v3 v4 v5 v6 v4 μ)
          · refine G_iload_n hX 3 rfl rfl dX11_feed_58 ?_
            refine G_goto hX 76 (by decide) dX11_feed_59 ?_
            exact G_sub [0, 1, 2, 3, 4, 5, 6] rfl (gX11_feed_76 hX hQ hcs N (fun v1 v2 v3 v4 v5 v6 μ => fX11_feed_23 N n v1 v2 v3 v4 v5 v6 μ) (fun v1 v2 v3 v4 v5 v6  μ => ih v1 v2 v3 v4 v5 v6  μ) v1 v2 v3 v4 v5 v6 v3 μ)
        · refine G_iload_n hX 2 rfl rfl dX11_feed_47 ?_
          refine G_goto hX 76 (by decide) dX11_feed_48 ?_
          exact G_sub [0, 1, 2, 3, 4, 5, 6] rfl (gX11_feed_76 hX hQ hcs N (fun v1 v2 v3 v4 v5 v6 μ => fX11_feed_23 N n v1 v2 v3 v4 v5 v6 μ) (fun v1 v2 v3 v4 v5 v6  μ => ih v1 v2 v3 v4 v5 v6  μ) v1 v2 v3 v4 v5 v6 v2 μ)
      · refine G_iload_n hX 1 rfl rfl dX11_feed_36 ?_
        refine G_goto hX 76 (by decide) dX11_feed_37 ?_
        exact G_sub [0, 1, 2, 3, 4, 5, 6] rfl (gX11_feed_76 hX hQ hcs N (fun v1 v2 v3 v4 v5 v6 μ => fX11_feed_23 N n v1 v2 v3 v4 v5 v6 μ) (fun v1 v2 v3 v4 v5 v6  μ => ih v1 v2 v3 v4 v5 v6  μ) v1 v2 v3 v4 v5 v6 v1 μ)
set_option maxHeartbeats 4000000 in
set_option maxRecDepth 100000 in
theorem gX11_feed_E {X : Ctx} {z : Int32 × Mem} (hX : Fx wM X cX11_feed 8 RX11 (some .int) (rmo 0 0)) (hQ : Qx_i wM X z) (hcs : cx_cells X = 0 ∧ cx_slots X = 0) (N : Nat) (p0 : Int32) (p1 : Int32) (p2 : Int32) (p3 : Int32) (p4 : Int32) (μ : Mem) : G wM X z 0 [(0, .ref (cx_ad X 0)), (1, .int p0), (2, .int p1), (3, .int p2), (4, .int p3), (5, .int p4)] [] μ (fX11_feed N p0 p1 p2 p3 p4 μ) := by
  unfold fX11_feed
  refine G_aload_n hX 0 rfl rfl dX11_feed_0 ?_
  refine G_iconst hX (0 : Int32) rfl dX11_feed_1 ?_
  refine pf_X11_104_M0 hX dX11_feed_2 (fun μ => ?_)
  refine G_aload_n hX 0 rfl rfl dX11_feed_5 ?_
  refine gf_X11_107_M0 hX dX11_feed_6 ?_
  refine G_nmi (fun x1 => ?_)
  refine G_bipush hX (20 : Int32) rfl dX11_feed_9 ?_
  refine G_iadd hX dX11_feed_11 ?_
  refine G_sipush hX (400 : Int32) rfl dX11_feed_12 ?_
  refine G_icmp_le hX 20 (by decide) dX11_feed_15 ?_ ?_
  · refine G_iconst hX (0 : Int32) rfl dX11_feed_20 ?_
    refine G_istore hX [(6, .int (0 : Int32)), (0, .ref (cx_ad X 0)), (1, .int p0), (2, .int p1), (3, .int p2), (4, .int p3), (5, .int p4)] (by decide) rfl dX11_feed_21 ?_
    exact G_sub [1, 2, 3, 4, 5, 6, 0] rfl (gX11_feed_23 hX hQ hcs N N p0 p1 p2 p3 p4 (0 : Int32) μ)
  · refine G_iconst hX (-1 : Int32) rfl dX11_feed_18 ?_
    exact G_iret hX hQ dX11_feed_19
theorem cX11_feed_ok (l : Launch) (N : Nat) (p0 : Int32) (p1 : Int32) (p2 : Int32) (p3 : Int32) (p4 : Int32) (μ : Mem) (z : Int32 × Mem) (h : fX11_feed N p0 p1 p2 p3 p4 μ = some z) : Mi wM l yX11_feed cX11_feed 8 .int (rmo 0 0) (fun ad adK => [.ref (ad 0), .int p0, .int p1, .int p2, .int p3, .int p4]) μ z := Mi.of h (by decide +kernel) (fun _ _ => Nat.le_of_ble_eq_true rfl) (fun X hX hQ hl hcs => gX11_feed_E hX hQ hcs N p0 p1 p2 p3 p4 μ)
/-! ===== DutyCaseModel.end(I)Z ===== -/
set_option maxHeartbeats 4000000 in
set_option maxRecDepth 100000 in
theorem gX11_end_E {X : Ctx} {z : Int32 × Mem} (hX : Fx wM X cX11_end 2 RX11 (some .boolean) (rmo 0 0)) (hQ : Qx_i wM X z) (hcs : cx_cells X = 0 ∧ cx_slots X = 0) (N : Nat) (p0 : Int32) (μ : Mem) : G wM X z 0 [(0, .ref (cx_ad X 0)), (1, .int p0)] [] μ (fX11_end N p0 μ) := by
  unfold fX11_end
  refine G_aload_n hX 0 rfl rfl dX11_end_0 ?_
  refine G_iconst hX (0 : Int32) rfl dX11_end_1 ?_
  refine pf_X11_104_M0 hX dX11_end_2 (fun μ => ?_)
  refine G_iload_n hX 1 rfl rfl dX11_end_5 ?_
  refine G_if_lt hX 17 (by decide) dX11_end_6 ?_ ?_
  · refine G_iconst hX (0 : Int32) rfl dX11_end_17 ?_
    exact G_zret hX hQ rfl dX11_end_18
  · refine G_iload_n hX 1 rfl rfl dX11_end_9 ?_
    refine G_aload_n hX 0 rfl rfl dX11_end_10 ?_
    refine gf_X11_107_M0 hX dX11_end_11 ?_
    refine G_nmi (fun x1 => ?_)
    refine G_icmp_le hX 19 (by decide) dX11_end_14 ?_ ?_
    · refine G_aload_n hX 0 rfl rfl dX11_end_19 ?_
      refine G_iload_n hX 1 rfl rfl dX11_end_20 ?_
      refine pf_X11_107_M0 hX dX11_end_21 (fun μ => ?_)
      refine G_iconst hX (1 : Int32) rfl dX11_end_24 ?_
      exact G_zret hX hQ rfl dX11_end_25
    · refine G_iconst hX (0 : Int32) rfl dX11_end_17 ?_
      exact G_zret hX hQ rfl dX11_end_18
theorem cX11_end_ok (l : Launch) (N : Nat) (p0 : Int32) (μ : Mem) (z : Int32 × Mem) (h : fX11_end N p0 μ = some z) : Mi wM l yX11_end cX11_end 2 .boolean (rmo 0 0) (fun ad adK => [.ref (ad 0), .int p0]) μ z := Mi.of h (by decide +kernel) (fun _ _ => Nat.le_of_ble_eq_true rfl) (fun X hX hQ hl hcs => gX11_end_E hX hQ hcs N p0 μ)
/-! ===== DutyCaseModel.isWrong()Z ===== -/
set_option maxHeartbeats 4000000 in
set_option maxRecDepth 100000 in
theorem gX11_isWrong_E {X : Ctx} {z : Int32 × Mem} (hX : Fx wM X cX11_isWrong 1 RX11 (some .boolean) (rmo 0 0)) (hQ : Qx_i wM X z) (hcs : cx_cells X = 0 ∧ cx_slots X = 0) (N : Nat) (μ : Mem) : G wM X z 0 [(0, .ref (cx_ad X 0))] [] μ (fX11_isWrong N μ) := by
  unfold fX11_isWrong
  refine G_aload_n hX 0 rfl rfl dX11_isWrong_0 ?_
  refine gf_X11_41_M0 hX dX11_isWrong_1 ?_
  refine G_nmi (fun x1 => ?_)
  refine G_iconst hX (-1 : Int32) rfl dX11_isWrong_4 ?_
  refine G_icmp_eq hX 12 (by decide) dX11_isWrong_5 ?_ ?_
  · refine G_iconst hX (0 : Int32) rfl dX11_isWrong_12 ?_
    exact G_zret hX hQ rfl dX11_isWrong_13
  · refine G_iconst hX (1 : Int32) rfl dX11_isWrong_8 ?_
    refine G_goto hX 13 (by decide) dX11_isWrong_9 ?_
    exact G_zret hX hQ rfl dX11_isWrong_13
theorem cX11_isWrong_ok (l : Launch) (N : Nat) (μ : Mem) (z : Int32 × Mem) (h : fX11_isWrong N μ = some z) : Mi wM l yX11_isWrong cX11_isWrong 1 .boolean (rmo 0 0) (fun ad adK => [.ref (ad 0)]) μ z := Mi.of h (by decide +kernel) (fun _ _ => Nat.le_of_ble_eq_true rfl) (fun X hX hQ hl hcs => gX11_isWrong_E hX hQ hcs N μ)
/-! ===== DutyCaseModel.wrongAt(I)V ===== -/
set_option maxHeartbeats 4000000 in
set_option maxRecDepth 100000 in
theorem gX11_wrongAt_E {X : Ctx} {z : Unit × Mem} (hX : Fx wM X cX11_wrongAt 2 RX11 none (rmo 0 0)) (hQ : Qx_v wM X z) (hcs : cx_cells X = 0 ∧ cx_slots X = 0) (N : Nat) (p0 : Int32) (μ : Mem) : G wM X z 0 [(0, .ref (cx_ad X 0)), (1, .int p0)] [] μ (fX11_wrongAt N p0 μ) := by
  unfold fX11_wrongAt
  refine G_aload_n hX 0 rfl rfl dX11_wrongAt_0 ?_
  refine G_aload_n hX 0 rfl rfl dX11_wrongAt_1 ?_
  refine gf_X11_41_M0 hX dX11_wrongAt_2 ?_
  refine G_nmi (fun x1 => ?_)
  refine G_iconst hX (-1 : Int32) rfl dX11_wrongAt_5 ?_
  refine G_icmp_ne hX 13 (by decide) dX11_wrongAt_6 ?_ ?_
  · refine G_aload_n hX 0 rfl rfl dX11_wrongAt_13 ?_
    refine gf_X11_41_M0 hX dX11_wrongAt_14 ?_
    refine G_nmi (fun x2 => ?_)
    refine pf_X11_41_M0 hX dX11_wrongAt_17 (fun μ => ?_)
    exact G_vret hX hQ dX11_wrongAt_20
  · refine G_iload_n hX 1 rfl rfl dX11_wrongAt_9 ?_
    refine G_goto hX 17 (by decide) dX11_wrongAt_10 ?_
    refine pf_X11_41_M0 hX dX11_wrongAt_17 (fun μ => ?_)
    exact G_vret hX hQ dX11_wrongAt_20
theorem cX11_wrongAt_ok (l : Launch) (N : Nat) (p0 : Int32) (μ : Mem) (z : Unit × Mem) (h : fX11_wrongAt N p0 μ = some z) : Mv wM l yX11_wrongAt cX11_wrongAt 2 (rmo 0 0) (fun ad adK => [.ref (ad 0), .int p0]) μ z := Mv.of h (by decide +kernel) (fun _ _ => Nat.le_of_ble_eq_true rfl) (fun X hX hQ hl hcs => gX11_wrongAt_E hX hQ hcs N p0 μ)
/-! ===== DutyCaseModel.wrong()V ===== -/
set_option maxHeartbeats 4000000 in
set_option maxRecDepth 100000 in
theorem gX11_wrong_E {X : Ctx} {z : Unit × Mem} (hX : Fx wM X cX11_wrong 1 RX11 none (rmo 1 21)) (hQ : Qx_v wM X z) (hcs : cx_cells X = 0 ∧ cx_slots X = 0) (N : Nat) (μ : Mem) : G wM X z 0 [(0, .ref (cx_ad X 0))] [] μ (fX11_wrong N μ) := by
  unfold fX11_wrong
  refine G_aload_n hX 0 rfl rfl dX11_wrong_0 ?_
  refine G_aload_n hX 0 rfl rfl dX11_wrong_1 ?_
  refine gf_X11_110_M0 hX dX11_wrong_2 ?_
  refine G_nmi (fun x1 => ?_)
  refine G_cVv hX 0 11 (fun ad adK => [.int x1]) [] (fun z2 h2 => cX11_wrongAt_ok (cx_l X) N x1 μ z2 h2) ok_X11_wrongAt lm_X11_113 atM0.1 atM0.2 rfl rfl (fun _ _ => rfl) (Nat.le_of_ble_eq_true rfl) ⟨rfl, rfl, by decide, by decide⟩ (cs0 hcs) dX11_wrong_5 (fun μ => ?_)
  exact G_vret hX hQ dX11_wrong_8
theorem cX11_wrong_ok (l : Launch) (N : Nat) (μ : Mem) (z : Unit × Mem) (h : fX11_wrong N μ = some z) : Mv wM l yX11_wrong cX11_wrong 1 (rmo 1 21) (fun ad adK => [.ref (ad 0)]) μ z := Mv.of h (by decide +kernel) (fun _ _ => Nat.le_of_ble_eq_true rfl) (fun X hX hQ hl hcs => gX11_wrong_E hX hQ hcs N μ)
/-! ===== DutyCaseModel.here()I ===== -/
set_option maxHeartbeats 4000000 in
set_option maxRecDepth 100000 in
theorem gX11_here_66 {X : Ctx} {z : Int32 × Mem} (hX : Fx wM X cX11_here 1 RX11 (some .int) (rmo 0 0)) (hQ : Qx_i wM X z) (hcs : cx_cells X = 0 ∧ cx_slots X = 0) (N : Nat) (μ : Mem) : G wM X z 66 [(0, .ref (cx_ad X 0))] [] μ (fX11_here_66 N μ) := by
  unfold fX11_here_66
  refine G_aload_n hX 0 rfl rfl dX11_here_66 ?_
  refine gf_X11_110_M0 hX dX11_here_67 ?_
  refine G_nmi (fun x15 => ?_)
  refine G_aload_n hX 0 rfl rfl dX11_here_70 ?_
  refine gf_X11_117_M0 hX dX11_here_71 ?_
  refine G_nmi (fun x16 => ?_)
  refine G_icmp_ge hX 93 (by decide) dX11_here_74 ?_ ?_
  · refine G_iconst hX (-1 : Int32) rfl dX11_here_93 ?_
    exact G_iret hX hQ dX11_here_94
  · refine G_aload_n hX 0 rfl rfl dX11_here_77 ?_
    refine gf_X11_37_M0 hX dX11_here_78 ?_
    refine G_aload_n hX 0 rfl rfl dX11_here_81 ?_
    refine gf_X11_110_M0 hX dX11_here_82 ?_
    refine G_nmi (fun x17 => ?_)
    refine G_aB hX atM10 dX11_here_85 (fun x18 => ?_)
    refine G_sipush hX (255 : Int32) rfl dX11_here_86 ?_
    refine G_iand hX dX11_here_89 ?_
    refine G_goto hX 94 (by decide) dX11_here_90 ?_
    exact G_iret hX hQ dX11_here_94
set_option maxHeartbeats 4000000 in
set_option maxRecDepth 100000 in
theorem gX11_here_0 {X : Ctx} {z : Int32 × Mem} (hX : Fx wM X cX11_here 1 RX11 (some .int) (rmo 0 0)) (hQ : Qx_i wM X z) (hcs : cx_cells X = 0 ∧ cx_slots X = 0) (N : Nat) : ∀ (n : Nat) (μ : Mem), G wM X z 0 [(0, .ref (cx_ad X 0))] [] μ (fX11_here_0 N n μ) := by
  intro n
  induction n with
  | zero =>
    intro μ
    exact G_none
  | succ n ih =>
    intro μ
    unfold fX11_here_0
    refine G_aload_n hX 0 rfl rfl dX11_here_0 ?_
    refine gf_X11_110_M0 hX dX11_here_1 ?_
    refine G_nmi (fun x1 => ?_)
    refine G_aload_n hX 0 rfl rfl dX11_here_4 ?_
    refine gf_X11_117_M0 hX dX11_here_5 ?_
    refine G_nmi (fun x2 => ?_)
    refine G_icmp_ge hX 66 (by decide) dX11_here_8 ?_ ?_
    · exact G_sub [0] rfl (gX11_here_66 hX hQ hcs N μ)
    · refine G_aload_n hX 0 rfl rfl dX11_here_11 ?_
      refine gf_X11_37_M0 hX dX11_here_12 ?_
      refine G_aload_n hX 0 rfl rfl dX11_here_15 ?_
      refine gf_X11_110_M0 hX dX11_here_16 ?_
      refine G_nmi (fun x3 => ?_)
      refine G_aB hX atM10 dX11_here_19 (fun x4 => ?_)
      refine G_bipush hX (9 : Int32) rfl dX11_here_20 ?_
      refine G_icmp_eq hX 53 (by decide) dX11_here_22 ?_ ?_
      · refine G_aload_n hX 0 rfl rfl dX11_here_53 ?_
        refine G_dup hX rfl dX11_here_54 ?_
        refine gf_X11_110_M0 hX dX11_here_55 ?_
        refine G_nmi (fun x5 => ?_)
        refine G_iconst hX (1 : Int32) rfl dX11_here_58 ?_
        refine G_iadd hX dX11_here_59 ?_
        refine G_nmi (fun x6 => ?_)
        refine pf_X11_110_M0 hX dX11_here_60 (fun μ => ?_)
        refine G_goto hX 0 (by decide) dX11_here_63 ?_
        exact G_sub [0] rfl (ih μ)
      · refine G_aload_n hX 0 rfl rfl dX11_here_25 ?_
        refine gf_X11_37_M0 hX dX11_here_26 ?_
        refine G_aload_n hX 0 rfl rfl dX11_here_29 ?_
        refine gf_X11_110_M0 hX dX11_here_30 ?_
        refine G_nmi (fun x7 => ?_)
        refine G_aB hX atM10 dX11_here_33 (fun x8 => ?_)
        refine G_bipush hX (10 : Int32) rfl dX11_here_34 ?_
        refine G_icmp_eq hX 53 (by decide) dX11_here_36 ?_ ?_
        · refine G_aload_n hX 0 rfl rfl dX11_here_53 ?_
          refine G_dup hX rfl dX11_here_54 ?_
          refine gf_X11_110_M0 hX dX11_here_55 ?_
          refine G_nmi (fun x9 => ?_)
          refine G_iconst hX (1 : Int32) rfl dX11_here_58 ?_
          refine G_iadd hX dX11_here_59 ?_
          refine G_nmi (fun x10 => ?_)
          refine pf_X11_110_M0 hX dX11_here_60 (fun μ => ?_)
          refine G_goto hX 0 (by decide) dX11_here_63 ?_
          exact G_sub [0] rfl (ih μ)
        · refine G_aload_n hX 0 rfl rfl dX11_here_39 ?_
          refine gf_X11_37_M0 hX dX11_here_40 ?_
          refine G_aload_n hX 0 rfl rfl dX11_here_43 ?_
          refine gf_X11_110_M0 hX dX11_here_44 ?_
          refine G_nmi (fun x11 => ?_)
          refine G_aB hX atM10 dX11_here_47 (fun x12 => ?_)
          refine G_bipush hX (32 : Int32) rfl dX11_here_48 ?_
          refine G_icmp_ne hX 66 (by decide) dX11_here_50 ?_ ?_
          · exact G_sub [0] rfl (gX11_here_66 hX hQ hcs N μ)
          · refine G_aload_n hX 0 rfl rfl dX11_here_53 ?_
            refine G_dup hX rfl dX11_here_54 ?_
            refine gf_X11_110_M0 hX dX11_here_55 ?_
            refine G_nmi (fun x13 => ?_)
            refine G_iconst hX (1 : Int32) rfl dX11_here_58 ?_
            refine G_iadd hX dX11_here_59 ?_
            refine G_nmi (fun x14 => ?_)
            refine pf_X11_110_M0 hX dX11_here_60 (fun μ => ?_)
            refine G_goto hX 0 (by decide) dX11_here_63 ?_
            exact G_sub [0] rfl (ih μ)
set_option maxHeartbeats 4000000 in
set_option maxRecDepth 100000 in
theorem gX11_here_E {X : Ctx} {z : Int32 × Mem} (hX : Fx wM X cX11_here 1 RX11 (some .int) (rmo 0 0)) (hQ : Qx_i wM X z) (hcs : cx_cells X = 0 ∧ cx_slots X = 0) (N : Nat) (μ : Mem) : G wM X z 0 [(0, .ref (cx_ad X 0))] [] μ (fX11_here N μ) := by
  unfold fX11_here
  exact G_sub [0] rfl (gX11_here_0 hX hQ hcs N N μ)
theorem cX11_here_ok (l : Launch) (N : Nat) (μ : Mem) (z : Int32 × Mem) (h : fX11_here N μ = some z) : Mi wM l yX11_here cX11_here 1 .int (rmo 0 0) (fun ad adK => [.ref (ad 0)]) μ z := Mi.of h (by decide +kernel) (fun _ _ => Nat.le_of_ble_eq_true rfl) (fun X hX hQ hl hcs => gX11_here_E hX hQ hcs N μ)
/-! ===== DutyCaseModel.isLetter(I)Z ===== -/
set_option maxHeartbeats 4000000 in
set_option maxRecDepth 100000 in
theorem gX11_isLetter_E {X : Ctx} {z : Int32 × Mem} (hX : Fx wM X cX11_isLetter 1 RX11 (some .boolean) (rmo 0 0)) (hQ : Qx_i wM X z) (hcs : cx_cells X = 0 ∧ cx_slots X = 0) (N : Nat) (p0 : Int32) (μ : Mem) : G wM X z 0 [(0, .int p0)] [] μ (fX11_isLetter N p0 μ) := by
  unfold fX11_isLetter
  refine G_iload_n hX 0 rfl rfl dX11_isLetter_0 ?_
  refine G_bipush hX (97 : Int32) rfl dX11_isLetter_1 ?_
  refine G_icmp_lt hX 16 (by decide) dX11_isLetter_3 ?_ ?_
  · refine G_iconst hX (0 : Int32) rfl dX11_isLetter_16 ?_
    exact G_zret hX hQ rfl dX11_isLetter_17
  · refine G_iload_n hX 0 rfl rfl dX11_isLetter_6 ?_
    refine G_bipush hX (122 : Int32) rfl dX11_isLetter_7 ?_
    refine G_icmp_gt hX 16 (by decide) dX11_isLetter_9 ?_ ?_
    · refine G_iconst hX (0 : Int32) rfl dX11_isLetter_16 ?_
      exact G_zret hX hQ rfl dX11_isLetter_17
    · refine G_iconst hX (1 : Int32) rfl dX11_isLetter_12 ?_
      refine G_goto hX 17 (by decide) dX11_isLetter_13 ?_
      exact G_zret hX hQ rfl dX11_isLetter_17
theorem cX11_isLetter_ok (l : Launch) (N : Nat) (p0 : Int32) (μ : Mem) (z : Int32 × Mem) (h : fX11_isLetter N p0 μ = some z) : Mi wM l yX11_isLetter cX11_isLetter 1 .boolean (rmo 0 0) (fun ad adK => [.int p0]) μ z := Mi.of h (by decide +kernel) (fun _ _ => Nat.le_of_ble_eq_true rfl) (fun X hX hQ hl hcs => gX11_isLetter_E hX hQ hcs N p0 μ)
/-! ===== DutyCaseModel.isDigitAt(I)Z ===== -/
set_option maxHeartbeats 4000000 in
set_option maxRecDepth 100000 in
theorem gX11_isDigitAt_E {X : Ctx} {z : Int32 × Mem} (hX : Fx wM X cX11_isDigitAt 2 RX11 (some .boolean) (rmo 0 0)) (hQ : Qx_i wM X z) (hcs : cx_cells X = 0 ∧ cx_slots X = 0) (N : Nat) (p0 : Int32) (μ : Mem) : G wM X z 0 [(0, .ref (cx_ad X 0)), (1, .int p0)] [] μ (fX11_isDigitAt N p0 μ) := by
  unfold fX11_isDigitAt
  refine G_iload_n hX 1 rfl rfl dX11_isDigitAt_0 ?_
  refine G_aload_n hX 0 rfl rfl dX11_isDigitAt_1 ?_
  refine gf_X11_117_M0 hX dX11_isDigitAt_2 ?_
  refine G_nmi (fun x1 => ?_)
  refine G_icmp_ge hX 34 (by decide) dX11_isDigitAt_5 ?_ ?_
  · refine G_iconst hX (0 : Int32) rfl dX11_isDigitAt_34 ?_
    exact G_zret hX hQ rfl dX11_isDigitAt_35
  · refine G_aload_n hX 0 rfl rfl dX11_isDigitAt_8 ?_
    refine gf_X11_37_M0 hX dX11_isDigitAt_9 ?_
    refine G_iload_n hX 1 rfl rfl dX11_isDigitAt_12 ?_
    refine G_aB hX atM10 dX11_isDigitAt_13 (fun x2 => ?_)
    refine G_bipush hX (48 : Int32) rfl dX11_isDigitAt_14 ?_
    refine G_icmp_lt hX 34 (by decide) dX11_isDigitAt_16 ?_ ?_
    · refine G_iconst hX (0 : Int32) rfl dX11_isDigitAt_34 ?_
      exact G_zret hX hQ rfl dX11_isDigitAt_35
    · refine G_aload_n hX 0 rfl rfl dX11_isDigitAt_19 ?_
      refine gf_X11_37_M0 hX dX11_isDigitAt_20 ?_
      refine G_iload_n hX 1 rfl rfl dX11_isDigitAt_23 ?_
      refine G_aB hX atM10 dX11_isDigitAt_24 (fun x3 => ?_)
      refine G_bipush hX (57 : Int32) rfl dX11_isDigitAt_25 ?_
      refine G_icmp_gt hX 34 (by decide) dX11_isDigitAt_27 ?_ ?_
      · refine G_iconst hX (0 : Int32) rfl dX11_isDigitAt_34 ?_
        exact G_zret hX hQ rfl dX11_isDigitAt_35
      · refine G_iconst hX (1 : Int32) rfl dX11_isDigitAt_30 ?_
        refine G_goto hX 35 (by decide) dX11_isDigitAt_31 ?_
        exact G_zret hX hQ rfl dX11_isDigitAt_35
theorem cX11_isDigitAt_ok (l : Launch) (N : Nat) (p0 : Int32) (μ : Mem) (z : Int32 × Mem) (h : fX11_isDigitAt N p0 μ = some z) : Mi wM l yX11_isDigitAt cX11_isDigitAt 2 .boolean (rmo 0 0) (fun ad adK => [.ref (ad 0), .int p0]) μ z := Mi.of h (by decide +kernel) (fun _ _ => Nat.le_of_ble_eq_true rfl) (fun X hX hQ hl hcs => gX11_isDigitAt_E hX hQ hcs N p0 μ)
/-! ===== DutyCaseModel.wordLong()I ===== -/
set_option maxHeartbeats 4000000 in
set_option maxRecDepth 100000 in
theorem gX11_wordLong_36 {X : Ctx} {z : Int32 × Mem} (hX : Fx wM X cX11_wordLong 2 RX11 (some .int) (rmo 1 20)) (hQ : Qx_i wM X z) (hcs : cx_cells X = 0 ∧ cx_slots X = 0) (N : Nat) (v1 : Int32) (μ : Mem) : G wM X z 36 [(0, .ref (cx_ad X 0)), (1, .int v1)] [] μ (fX11_wordLong_36 N v1 μ) := by
  unfold fX11_wordLong_36
  refine G_iload_n hX 1 rfl rfl dX11_wordLong_36 ?_
  refine G_aload_n hX 0 rfl rfl dX11_wordLong_37 ?_
  refine gf_X11_110_M0 hX dX11_wordLong_38 ?_
  refine G_nmi (fun x7 => ?_)
  refine G_isub hX dX11_wordLong_41 ?_
  exact G_iret hX hQ dX11_wordLong_42
set_option maxHeartbeats 4000000 in
set_option maxRecDepth 100000 in
theorem gX11_wordLong_10 {X : Ctx} {z : Int32 × Mem} (hX : Fx wM X cX11_wordLong 2 RX11 (some .int) (rmo 1 20)) (hQ : Qx_i wM X z) (hcs : cx_cells X = 0 ∧ cx_slots X = 0) (N : Nat) : ∀ (n : Nat) (v1 : Int32) (μ : Mem), G wM X z 10 [(0, .ref (cx_ad X 0)), (1, .int v1)] [] μ (fX11_wordLong_10 N n v1 μ) := by
  intro n
  induction n with
  | zero =>
    intro v1 μ
    exact G_none
  | succ n ih =>
    intro v1 μ
    unfold fX11_wordLong_10
    refine G_iload_n hX 1 rfl rfl dX11_wordLong_10 ?_
    refine G_aload_n hX 0 rfl rfl dX11_wordLong_11 ?_
    refine gf_X11_117_M0 hX dX11_wordLong_12 ?_
    refine G_nmi (fun x3 => ?_)
    refine G_icmp_ge hX 36 (by decide) dX11_wordLong_15 ?_ ?_
    · exact G_sub [0, 1] rfl (gX11_wordLong_36 hX hQ hcs N v1 μ)
    · refine G_aload_n hX 0 rfl rfl dX11_wordLong_18 ?_
      refine gf_X11_37_M0 hX dX11_wordLong_19 ?_
      refine G_iload_n hX 1 rfl rfl dX11_wordLong_22 ?_
      refine G_aB hX atM10 dX11_wordLong_23 (fun x4 => ?_)
      refine G_cSi hX (fun ad adK => [.int x4]) [] (fun z2 h2 => cX11_isLetter_ok (cx_l X) N x4 μ z2 h2) ok_X11_isLetter lm_X11_124 rfl (fun _ _ => rfl) (Nat.le_of_ble_eq_true rfl) ⟨rfl, rfl, by decide, by decide⟩ (cs0 hcs) dX11_wordLong_24 (fun r5 μ => ?_)
      refine G_if_eq hX 36 (by decide) dX11_wordLong_27 ?_ ?_
      · exact G_sub [0, 1] rfl (gX11_wordLong_36 hX hQ hcs N v1 μ)
      · refine G_iincN hX 1 (fun x6 => [(1, .int x6), (0, .ref (cx_ad X 0))]) rfl rfl (by decide) (fun _ => rfl) dX11_wordLong_30 (fun x6 => ?_)
        refine G_goto hX 10 (by decide) dX11_wordLong_33 ?_
        exact G_sub [1, 0] rfl (ih x6 μ)
set_option maxHeartbeats 4000000 in
set_option maxRecDepth 100000 in
theorem gX11_wordLong_E {X : Ctx} {z : Int32 × Mem} (hX : Fx wM X cX11_wordLong 2 RX11 (some .int) (rmo 1 20)) (hQ : Qx_i wM X z) (hcs : cx_cells X = 0 ∧ cx_slots X = 0) (N : Nat) (μ : Mem) : G wM X z 0 [(0, .ref (cx_ad X 0))] [] μ (fX11_wordLong N μ) := by
  unfold fX11_wordLong
  refine G_aload_n hX 0 rfl rfl dX11_wordLong_0 ?_
  refine G_cVi hX 0 11 (fun ad adK => []) [] (fun z2 h2 => cX11_here_ok (cx_l X) N μ z2 h2) ok_X11_here lm_X11_120 atM0.1 atM0.2 rfl rfl (fun _ _ => rfl) (Nat.le_of_ble_eq_true rfl) ⟨rfl, rfl, by decide, by decide⟩ (cs0 hcs) dX11_wordLong_1 (fun r1 μ => ?_)
  refine G_pop hX rfl dX11_wordLong_4 ?_
  refine G_aload_n hX 0 rfl rfl dX11_wordLong_5 ?_
  refine gf_X11_110_M0 hX dX11_wordLong_6 ?_
  refine G_nmi (fun x2 => ?_)
  refine G_istore_n hX [(1, .int x2), (0, .ref (cx_ad X 0))] rfl (by decide) rfl dX11_wordLong_9 ?_
  exact G_sub [1, 0] rfl (gX11_wordLong_10 hX hQ hcs N N x2 μ)
theorem cX11_wordLong_ok (l : Launch) (N : Nat) (μ : Mem) (z : Int32 × Mem) (h : fX11_wordLong N μ = some z) : Mi wM l yX11_wordLong cX11_wordLong 2 .int (rmo 1 20) (fun ad adK => [.ref (ad 0)]) μ z := Mi.of h (by decide +kernel) (fun _ _ => Nat.le_of_ble_eq_true rfl) (fun X hX hQ hl hcs => gX11_wordLong_E hX hQ hcs N μ)
/-! ===== DutyCaseModel.isWord(Ljava/lang/String;)Z ===== -/
set_option maxHeartbeats 4000000 in
set_option maxRecDepth 100000 in
theorem gX11_isWord_15 {X : Ctx} {z : Int32 × Mem} (hX : Fx wM X cX11_isWord 3 RX11 (some .boolean) (rmo 4 85)) (hQ : Qx_i wM X z) (hcs : cx_cells X = 0 ∧ cx_slots X = 0) (N : Nat) : ∀ (n : Nat) (b0 : Nat) (v2 : Int32) (hb0 : kT b0) (μ : Mem), G wM X z 15 [(0, .ref (cx_ad X 0)), (1, .ref (cx_adK X b0)), (2, .int v2)] [] μ (fX11_isWord_15 N n b0 v2 μ) := by
  intro n
  induction n with
  | zero =>
    intro b0 v2 hb0 μ
    exact G_none
  | succ n ih =>
    intro b0 v2 hb0 μ
    unfold fX11_isWord_15
    refine G_iload_n hX 2 rfl rfl dX11_isWord_15 ?_
    refine G_aload_n hX 1 rfl rfl dX11_isWord_16 ?_
    refine G_cTi hX b0 (fun ad adK => []) [.int v2] (fun z2 h2 => cJ0_length_ok wM (cx_l X) b0 μ z2 h2) ok_J0_length_8abf5 lm_X11_131 hb0 rfl rfl (fun _ _ => rfl) (Nat.le_of_ble_eq_true rfl) ⟨rfl, rfl, by decide, by decide⟩ (cs0 hcs) dX11_isWord_17 (fun r3 μ => ?_)
    refine G_icmp_ge hX 50 (by decide) dX11_isWord_20 ?_ ?_
    · refine G_iconst hX (1 : Int32) rfl dX11_isWord_50 ?_
      exact G_zret hX hQ rfl dX11_isWord_51
    · refine G_aload_n hX 0 rfl rfl dX11_isWord_23 ?_
      refine gf_X11_37_M0 hX dX11_isWord_24 ?_
      refine G_aload_n hX 0 rfl rfl dX11_isWord_27 ?_
      refine gf_X11_110_M0 hX dX11_isWord_28 ?_
      refine G_nmi (fun x4 => ?_)
      refine G_iload_n hX 2 rfl rfl dX11_isWord_31 ?_
      refine G_iadd hX dX11_isWord_32 ?_
      refine G_aB hX atM10 dX11_isWord_33 (fun x5 => ?_)
      refine G_aload_n hX 1 rfl rfl dX11_isWord_34 ?_
      refine G_iload_n hX 2 rfl rfl dX11_isWord_35 ?_
      refine G_cTi hX b0 (fun ad adK => [.int v2]) [.int x5] (fun z2 h2 => cJ0_charAt_ok wM (cx_l X) b0 v2 μ z2 h2) ok_J0_charAt_5068e lm_X11_136 hb0 rfl rfl (fun _ _ => rfl) (Nat.le_of_ble_eq_true rfl) ⟨rfl, rfl, by decide, by decide⟩ (cs0 hcs) dX11_isWord_36 (fun r6 μ => ?_)
      refine G_icmp_eq hX 44 (by decide) dX11_isWord_39 ?_ ?_
      · refine G_iincN hX 2 (fun x7 => [(2, .int x7), (0, .ref (cx_ad X 0)), (1, .ref (cx_adK X b0))]) rfl rfl (by decide) (fun _ => rfl) dX11_isWord_44 (fun x7 => ?_)
        refine G_goto hX 15 (by decide) dX11_isWord_47 ?_
        exact G_sub [1, 2, 0] rfl (ih b0 x7 hb0 μ)
      · refine G_iconst hX (0 : Int32) rfl dX11_isWord_42 ?_
        exact G_zret hX hQ rfl dX11_isWord_43
set_option maxHeartbeats 4000000 in
set_option maxRecDepth 100000 in
theorem gX11_isWord_E {X : Ctx} {z : Int32 × Mem} (hX : Fx wM X cX11_isWord 3 RX11 (some .boolean) (rmo 4 85)) (hQ : Qx_i wM X z) (hcs : cx_cells X = 0 ∧ cx_slots X = 0) (N : Nat) (p0 : Nat) (μ : Mem) : G wM X z 0 [(0, .ref (cx_ad X 0)), (1, .ref (cx_adK X p0))] [] μ (fX11_isWord N p0 μ) := by
  unfold fX11_isWord
  refine G_guard (fun hp0 => ?_)
  refine G_aload_n hX 0 rfl rfl dX11_isWord_0 ?_
  refine G_cVi hX 0 11 (fun ad adK => []) [] (fun z2 h2 => cX11_wordLong_ok (cx_l X) N μ z2 h2) ok_X11_wordLong lm_X11_128 atM0.1 atM0.2 rfl rfl (fun _ _ => rfl) (Nat.le_of_ble_eq_true rfl) ⟨rfl, rfl, by decide, by decide⟩ (cs0 hcs) dX11_isWord_1 (fun r1 μ => ?_)
  refine G_aload_n hX 1 rfl rfl dX11_isWord_4 ?_
  refine G_cTi hX p0 (fun ad adK => []) [.int r1] (fun z2 h2 => cJ0_length_ok wM (cx_l X) p0 μ z2 h2) ok_J0_length_8abf5 lm_X11_131 hp0 rfl rfl (fun _ _ => rfl) (Nat.le_of_ble_eq_true rfl) ⟨rfl, rfl, by decide, by decide⟩ (cs0 hcs) dX11_isWord_5 (fun r2 μ => ?_)
  refine G_icmp_eq hX 13 (by decide) dX11_isWord_8 ?_ ?_
  · refine G_iconst hX (0 : Int32) rfl dX11_isWord_13 ?_
    refine G_istore_n hX [(2, .int (0 : Int32)), (0, .ref (cx_ad X 0)), (1, .ref (cx_adK X p0))] rfl (by decide) rfl dX11_isWord_14 ?_
    exact G_sub [1, 2, 0] rfl (gX11_isWord_15 hX hQ hcs N N p0 (0 : Int32) hp0 μ)
  · refine G_iconst hX (0 : Int32) rfl dX11_isWord_11 ?_
    exact G_zret hX hQ rfl dX11_isWord_12
theorem cX11_isWord_ok (l : Launch) (N : Nat) (p0 : Nat) (μ : Mem) (z : Int32 × Mem) (h : fX11_isWord N p0 μ = some z) : Mi wM l yX11_isWord cX11_isWord 3 .boolean (rmo 4 85) (fun ad adK => [.ref (ad 0), .ref (adK p0)]) μ z := Mi.of h (by decide +kernel) (fun _ _ => Nat.le_of_ble_eq_true rfl) (fun X hX hQ hl hcs => gX11_isWord_E hX hQ hcs N p0 μ)
/-! ===== DutyCaseModel.takes(Ljava/lang/String;)Z ===== -/
set_option maxHeartbeats 4000000 in
set_option maxRecDepth 100000 in
theorem gX11_takes_E {X : Ctx} {z : Int32 × Mem} (hX : Fx wM X cX11_takes 2 RX11 (some .boolean) (rmo 5 107)) (hQ : Qx_i wM X z) (hcs : cx_cells X = 0 ∧ cx_slots X = 0) (N : Nat) (p0 : Nat) (μ : Mem) : G wM X z 0 [(0, .ref (cx_ad X 0)), (1, .ref (cx_adK X p0))] [] μ (fX11_takes N p0 μ) := by
  unfold fX11_takes
  refine G_guard (fun hp0 => ?_)
  refine G_aload_n hX 0 rfl rfl dX11_takes_0 ?_
  refine G_cVi hX 0 11 (fun ad adK => []) [] (fun z2 h2 => cX11_isWrong_ok (cx_l X) N μ z2 h2) ok_X11_isWrong lm_X11_140 atM0.1 atM0.2 rfl rfl (fun _ _ => rfl) (Nat.le_of_ble_eq_true rfl) ⟨rfl, rfl, by decide, by decide⟩ (cs0 hcs) dX11_takes_1 (fun r1 μ => ?_)
  refine G_if_ne hX 15 (by decide) dX11_takes_4 ?_ ?_
  · refine G_iconst hX (0 : Int32) rfl dX11_takes_15 ?_
    exact G_zret hX hQ rfl dX11_takes_16
  · refine G_aload_n hX 0 rfl rfl dX11_takes_7 ?_
    refine G_aload_n hX 1 rfl rfl dX11_takes_8 ?_
    refine G_cVi hX 0 11 (fun ad adK => [.ref (adK p0)]) [] (fun z2 h2 => cX11_isWord_ok (cx_l X) N p0 μ z2 h2) ok_X11_isWord lm_X11_144 atM0.1 atM0.2 rfl rfl (fun _ _ => rfl) (Nat.le_of_ble_eq_true rfl) ⟨rfl, rfl, by decide, by decide⟩ (cs0 hcs) dX11_takes_9 (fun r2 μ => ?_)
    refine G_if_ne hX 17 (by decide) dX11_takes_12 ?_ ?_
    · refine G_aload_n hX 0 rfl rfl dX11_takes_17 ?_
      refine G_dup hX rfl dX11_takes_18 ?_
      refine gf_X11_110_M0 hX dX11_takes_19 ?_
      refine G_nmi (fun x3 => ?_)
      refine G_aload_n hX 1 rfl rfl dX11_takes_22 ?_
      refine G_cTi hX p0 (fun ad adK => []) [.int x3, .ref (cx_ad X 0)] (fun z2 h2 => cJ0_length_ok wM (cx_l X) p0 μ z2 h2) ok_J0_length_8abf5 lm_X11_131 hp0 rfl rfl (fun _ _ => rfl) (Nat.le_of_ble_eq_true rfl) ⟨rfl, rfl, by decide, by decide⟩ (cs0 hcs) dX11_takes_23 (fun r4 μ => ?_)
      refine G_iadd hX dX11_takes_26 ?_
      refine G_nmi (fun x5 => ?_)
      refine pf_X11_110_M0 hX dX11_takes_27 (fun μ => ?_)
      refine G_iconst hX (1 : Int32) rfl dX11_takes_30 ?_
      exact G_zret hX hQ rfl dX11_takes_31
    · refine G_iconst hX (0 : Int32) rfl dX11_takes_15 ?_
      exact G_zret hX hQ rfl dX11_takes_16
theorem cX11_takes_ok (l : Launch) (N : Nat) (p0 : Nat) (μ : Mem) (z : Int32 × Mem) (h : fX11_takes N p0 μ = some z) : Mi wM l yX11_takes cX11_takes 2 .boolean (rmo 5 107) (fun ad adK => [.ref (ad 0), .ref (adK p0)]) μ z := Mi.of h (by decide +kernel) (fun _ _ => Nat.le_of_ble_eq_true rfl) (fun X hX hQ hl hcs => gX11_takes_E hX hQ hcs N p0 μ)
/-! ===== DutyCaseModel.sign(I)V ===== -/
set_option maxHeartbeats 4000000 in
set_option maxRecDepth 100000 in
theorem gX11_sign_E {X : Ctx} {z : Unit × Mem} (hX : Fx wM X cX11_sign 2 RX11 none (rmo 2 41)) (hQ : Qx_v wM X z) (hcs : cx_cells X = 0 ∧ cx_slots X = 0) (N : Nat) (p0 : Int32) (μ : Mem) : G wM X z 0 [(0, .ref (cx_ad X 0)), (1, .int p0)] [] μ (fX11_sign N p0 μ) := by
  unfold fX11_sign
  refine G_aload_n hX 0 rfl rfl dX11_sign_0 ?_
  refine G_cVi hX 0 11 (fun ad adK => []) [] (fun z2 h2 => cX11_isWrong_ok (cx_l X) N μ z2 h2) ok_X11_isWrong lm_X11_140 atM0.1 atM0.2 rfl rfl (fun _ _ => rfl) (Nat.le_of_ble_eq_true rfl) ⟨rfl, rfl, by decide, by decide⟩ (cs0 hcs) dX11_sign_1 (fun r1 μ => ?_)
  refine G_if_eq hX 8 (by decide) dX11_sign_4 ?_ ?_
  · refine G_aload_n hX 0 rfl rfl dX11_sign_8 ?_
    refine G_cVi hX 0 11 (fun ad adK => []) [] (fun z2 h2 => cX11_here_ok (cx_l X) N μ z2 h2) ok_X11_here lm_X11_120 atM0.1 atM0.2 rfl rfl (fun _ _ => rfl) (Nat.le_of_ble_eq_true rfl) ⟨rfl, rfl, by decide, by decide⟩ (cs0 hcs) dX11_sign_9 (fun r2 μ => ?_)
    refine G_iload_n hX 1 rfl rfl dX11_sign_12 ?_
    refine G_icmp_ne hX 29 (by decide) dX11_sign_13 ?_ ?_
    · refine G_aload_n hX 0 rfl rfl dX11_sign_29 ?_
      refine G_cVv hX 0 11 (fun ad adK => []) [] (fun z2 h2 => cX11_wrong_ok (cx_l X) N μ z2 h2) ok_X11_wrong lm_X11_148 atM0.1 atM0.2 rfl rfl (fun _ _ => rfl) (Nat.le_of_ble_eq_true rfl) ⟨rfl, rfl, by decide, by decide⟩ (cs0 hcs) dX11_sign_30 (fun μ => ?_)
      exact G_vret hX hQ dX11_sign_33
    · refine G_aload_n hX 0 rfl rfl dX11_sign_16 ?_
      refine G_dup hX rfl dX11_sign_17 ?_
      refine gf_X11_110_M0 hX dX11_sign_18 ?_
      refine G_nmi (fun x3 => ?_)
      refine G_iconst hX (1 : Int32) rfl dX11_sign_21 ?_
      refine G_iadd hX dX11_sign_22 ?_
      refine G_nmi (fun x4 => ?_)
      refine pf_X11_110_M0 hX dX11_sign_23 (fun μ => ?_)
      refine G_goto hX 33 (by decide) dX11_sign_26 ?_
      exact G_vret hX hQ dX11_sign_33
  · exact G_vret hX hQ dX11_sign_7
theorem cX11_sign_ok (l : Launch) (N : Nat) (p0 : Int32) (μ : Mem) (z : Unit × Mem) (h : fX11_sign N p0 μ = some z) : Mv wM l yX11_sign cX11_sign 2 (rmo 2 41) (fun ad adK => [.ref (ad 0), .int p0]) μ z := Mv.of h (by decide +kernel) (fun _ _ => Nat.le_of_ble_eq_true rfl) (fun X hX hQ hl hcs => gX11_sign_E hX hQ hcs N p0 μ)
/-! ===== DutyCaseModel.number(III)I ===== -/
set_option maxHeartbeats 4000000 in
set_option maxRecDepth 100000 in
theorem gX11_number_83 {X : Ctx} {z : Int32 × Mem} (hX : Fx wM X cX11_number 7 RX11 (some .int) (rmo 1 21)) (hQ : Qx_i wM X z) (hcs : cx_cells X = 0 ∧ cx_slots X = 0) (N : Nat) (v1 : Int32) (v2 : Int32) (v3 : Int32) (v4 : Int32) (v5 : Int32) (μ : Mem) : G wM X z 83 [(0, .ref (cx_ad X 0)), (1, .int v1), (2, .int v2), (3, .int v3), (4, .int v4), (5, .int v5)] [] μ (fX11_number_83 N v1 v2 v3 v4 v5 μ) := by
  unfold fX11_number_83
  refine G_aload_n hX 0 rfl rfl dX11_number_83 ?_
  refine gf_X11_110_M0 hX dX11_number_84 ?_
  refine G_nmi (fun x14 => ?_)
  refine G_iload hX 4 rfl dX11_number_87 ?_
  refine G_isub hX dX11_number_89 ?_
  refine G_nmi (fun x15 => ?_)
  refine G_istore hX [(6, .int x15), (0, .ref (cx_ad X 0)), (1, .int v1), (2, .int v2), (3, .int v3), (4, .int v4), (5, .int v5)] (by decide) rfl dX11_number_90 ?_
  refine G_iload hX 0 rfl dX11_number_92 ?_
  refine G_if_eq hX 115 (by decide) dX11_number_94 ?_ ?_
  · refine G_aload_n hX 1 rfl rfl dX11_number_115 ?_
    refine G_iload hX 5 rfl dX11_number_116 ?_
    refine G_cVv hX 0 11 (fun ad adK => [.int v4]) [] (fun z2 h2 => cX11_wrongAt_ok (cx_l X) N v4 μ z2 h2) ok_X11_wrongAt lm_X11_113 atM0.1 atM0.2 rfl rfl (fun _ _ => rfl) (Nat.le_of_ble_eq_true rfl) ⟨rfl, rfl, by decide, by decide⟩ (cs0 hcs) dX11_number_118 (fun μ => ?_)
    refine G_iload_n hX 3 rfl rfl dX11_number_121 ?_
    exact G_iret hX hQ dX11_number_122
  · refine G_iload hX 0 rfl dX11_number_97 ?_
    refine G_iload_n hX 2 rfl rfl dX11_number_99 ?_
    refine G_icmp_gt hX 115 (by decide) dX11_number_100 ?_ ?_
    · refine G_aload_n hX 1 rfl rfl dX11_number_115 ?_
      refine G_iload hX 5 rfl dX11_number_116 ?_
      refine G_cVv hX 0 11 (fun ad adK => [.int v4]) [] (fun z2 h2 => cX11_wrongAt_ok (cx_l X) N v4 μ z2 h2) ok_X11_wrongAt lm_X11_113 atM0.1 atM0.2 rfl rfl (fun _ _ => rfl) (Nat.le_of_ble_eq_true rfl) ⟨rfl, rfl, by decide, by decide⟩ (cs0 hcs) dX11_number_118 (fun μ => ?_)
      refine G_iload_n hX 3 rfl rfl dX11_number_121 ?_
      exact G_iret hX hQ dX11_number_122
    · refine G_iload hX 6 rfl dX11_number_103 ?_
      refine G_iload_n hX 3 rfl rfl dX11_number_105 ?_
      refine G_icmp_lt hX 115 (by decide) dX11_number_106 ?_ ?_
      · refine G_aload_n hX 1 rfl rfl dX11_number_115 ?_
        refine G_iload hX 5 rfl dX11_number_116 ?_
        refine G_cVv hX 0 11 (fun ad adK => [.int v4]) [] (fun z2 h2 => cX11_wrongAt_ok (cx_l X) N v4 μ z2 h2) ok_X11_wrongAt lm_X11_113 atM0.1 atM0.2 rfl rfl (fun _ _ => rfl) (Nat.le_of_ble_eq_true rfl) ⟨rfl, rfl, by decide, by decide⟩ (cs0 hcs) dX11_number_118 (fun μ => ?_)
        refine G_iload_n hX 3 rfl rfl dX11_number_121 ?_
        exact G_iret hX hQ dX11_number_122
      · refine G_iload hX 6 rfl dX11_number_109 ?_
        refine G_iload_n hX 4 rfl rfl dX11_number_111 ?_
        refine G_icmp_le hX 123 (by decide) dX11_number_112 ?_ ?_
        · refine G_iload hX 6 rfl dX11_number_123 ?_
          exact G_iret hX hQ dX11_number_125
        · refine G_aload_n hX 1 rfl rfl dX11_number_115 ?_
          refine G_iload hX 5 rfl dX11_number_116 ?_
          refine G_cVv hX 0 11 (fun ad adK => [.int v4]) [] (fun z2 h2 => cX11_wrongAt_ok (cx_l X) N v4 μ z2 h2) ok_X11_wrongAt lm_X11_113 atM0.1 atM0.2 rfl rfl (fun _ _ => rfl) (Nat.le_of_ble_eq_true rfl) ⟨rfl, rfl, by decide, by decide⟩ (cs0 hcs) dX11_number_118 (fun μ => ?_)
          refine G_iload_n hX 3 rfl rfl dX11_number_121 ?_
          exact G_iret hX hQ dX11_number_122
set_option maxHeartbeats 4000000 in
set_option maxRecDepth 100000 in
theorem gX11_number_23 {X : Ctx} {z : Int32 × Mem} (hX : Fx wM X cX11_number 7 RX11 (some .int) (rmo 1 21)) (hQ : Qx_i wM X z) (hcs : cx_cells X = 0 ∧ cx_slots X = 0) (N : Nat) : ∀ (n : Nat) (v1 : Int32) (v2 : Int32) (v3 : Int32) (v4 : Int32) (v5 : Int32) (μ : Mem), G wM X z 23 [(0, .ref (cx_ad X 0)), (1, .int v1), (2, .int v2), (3, .int v3), (4, .int v4), (5, .int v5)] [] μ (fX11_number_23 N n v1 v2 v3 v4 v5 μ) := by
  intro n
  induction n with
  | zero =>
    intro v1 v2 v3 v4 v5 μ
    exact G_none
  | succ n ih =>
    intro v1 v2 v3 v4 v5 μ
    unfold fX11_number_23
    refine G_aload_n hX 0 rfl rfl dX11_number_23 ?_
    refine G_aload_n hX 0 rfl rfl dX11_number_24 ?_
    refine gf_X11_110_M0 hX dX11_number_25 ?_
    refine G_nmi (fun x4 => ?_)
    refine G_cVi hX 0 11 (fun ad adK => [.int x4]) [] (fun z2 h2 => cX11_isDigitAt_ok (cx_l X) N x4 μ z2 h2) ok_X11_isDigitAt lm_X11_151 atM0.1 atM0.2 rfl rfl (fun _ _ => rfl) (Nat.le_of_ble_eq_true rfl) ⟨rfl, rfl, by decide, by decide⟩ (cs0 hcs) dX11_number_28 (fun r5 μ => ?_)
    refine G_if_eq hX 83 (by decide) dX11_number_31 ?_ ?_
    · exact G_sub [0, 1, 2, 3, 4, 5] rfl (gX11_number_83 hX hQ hcs N v1 v2 v3 v4 v5 μ)
    · refine G_aload_n hX 0 rfl rfl dX11_number_34 ?_
      refine gf_X11_110_M0 hX dX11_number_35 ?_
      refine G_nmi (fun x6 => ?_)
      refine G_iload hX 4 rfl dX11_number_38 ?_
      refine G_isub hX dX11_number_40 ?_
      refine G_iconst hX (5 : Int32) rfl dX11_number_41 ?_
      refine G_icmp_ge hX 66 (by decide) dX11_number_42 ?_ ?_
      · refine G_iload hX 5 rfl dX11_number_66 ?_
        refine G_istore hX [(5, .int v5), (0, .ref (cx_ad X 0)), (1, .int v1), (2, .int v2), (3, .int v3), (4, .int v4)] (by decide) rfl dX11_number_68 ?_
        refine G_aload_n hX 1 rfl rfl dX11_number_70 ?_
        refine G_dup hX rfl dX11_number_71 ?_
        refine gf_X11_110_M0 hX dX11_number_72 ?_
        refine G_nmi (fun x7 => ?_)
        refine G_iconst hX (1 : Int32) rfl dX11_number_75 ?_
        refine G_iadd hX dX11_number_76 ?_
        refine G_nmi (fun x8 => ?_)
        refine pf_X11_110_M0 hX dX11_number_77 (fun μ => ?_)
        refine G_goto hX 23 (by decide) dX11_number_80 ?_
        exact G_sub [1, 2, 3, 4, 5, 0] rfl (ih v1 v2 v3 v4 v5 μ)
      · refine G_bipush hX (10 : Int32) rfl dX11_number_45 ?_
        refine G_iload hX 5 rfl dX11_number_47 ?_
        refine G_imul hX dX11_number_49 ?_
        refine G_aload_n hX 0 rfl rfl dX11_number_50 ?_
        refine gf_X11_37_M0 hX dX11_number_51 ?_
        refine G_aload_n hX 0 rfl rfl dX11_number_54 ?_
        refine gf_X11_110_M0 hX dX11_number_55 ?_
        refine G_nmi (fun x9 => ?_)
        refine G_aB hX atM10 dX11_number_58 (fun x10 => ?_)
        refine G_iadd hX dX11_number_59 ?_
        refine G_bipush hX (48 : Int32) rfl dX11_number_60 ?_
        refine G_isub hX dX11_number_62 ?_
        refine G_goto hX 68 (by decide) dX11_number_63 ?_
        refine G_nmi (fun x11 => ?_)
        refine G_istore hX [(5, .int x11), (0, .ref (cx_ad X 0)), (1, .int v1), (2, .int v2), (3, .int v3), (4, .int v4)] (by decide) rfl dX11_number_68 ?_
        refine G_aload_n hX 1 rfl rfl dX11_number_70 ?_
        refine G_dup hX rfl dX11_number_71 ?_
        refine gf_X11_110_M0 hX dX11_number_72 ?_
        refine G_nmi (fun x12 => ?_)
        refine G_iconst hX (1 : Int32) rfl dX11_number_75 ?_
        refine G_iadd hX dX11_number_76 ?_
        refine G_nmi (fun x13 => ?_)
        refine pf_X11_110_M0 hX dX11_number_77 (fun μ => ?_)
        refine G_goto hX 23 (by decide) dX11_number_80 ?_
        exact G_sub [1, 2, 3, 4, 5, 0] rfl (ih v1 v2 v3 v4 x11 μ)
set_option maxHeartbeats 4000000 in
set_option maxRecDepth 100000 in
theorem gX11_number_E {X : Ctx} {z : Int32 × Mem} (hX : Fx wM X cX11_number 7 RX11 (some .int) (rmo 1 21)) (hQ : Qx_i wM X z) (hcs : cx_cells X = 0 ∧ cx_slots X = 0) (N : Nat) (p0 : Int32) (p1 : Int32) (p2 : Int32) (μ : Mem) : G wM X z 0 [(0, .ref (cx_ad X 0)), (1, .int p0), (2, .int p1), (3, .int p2)] [] μ (fX11_number N p0 p1 p2 μ) := by
  unfold fX11_number
  refine G_aload_n hX 0 rfl rfl dX11_number_0 ?_
  refine G_cVi hX 0 11 (fun ad adK => []) [] (fun z2 h2 => cX11_isWrong_ok (cx_l X) N μ z2 h2) ok_X11_isWrong lm_X11_140 atM0.1 atM0.2 rfl rfl (fun _ _ => rfl) (Nat.le_of_ble_eq_true rfl) ⟨rfl, rfl, by decide, by decide⟩ (cs0 hcs) dX11_number_1 (fun r1 μ => ?_)
  refine G_if_eq hX 9 (by decide) dX11_number_4 ?_ ?_
  · refine G_aload_n hX 0 rfl rfl dX11_number_9 ?_
    refine G_cVi hX 0 11 (fun ad adK => []) [] (fun z2 h2 => cX11_here_ok (cx_l X) N μ z2 h2) ok_X11_here lm_X11_120 atM0.1 atM0.2 rfl rfl (fun _ _ => rfl) (Nat.le_of_ble_eq_true rfl) ⟨rfl, rfl, by decide, by decide⟩ (cs0 hcs) dX11_number_10 (fun r2 μ => ?_)
    refine G_pop hX rfl dX11_number_13 ?_
    refine G_aload_n hX 0 rfl rfl dX11_number_14 ?_
    refine gf_X11_110_M0 hX dX11_number_15 ?_
    refine G_nmi (fun x3 => ?_)
    refine G_istore hX [(4, .int x3), (0, .ref (cx_ad X 0)), (1, .int p0), (2, .int p1), (3, .int p2)] (by decide) rfl dX11_number_18 ?_
    refine G_iconst hX (0 : Int32) rfl dX11_number_20 ?_
    refine G_istore hX [(5, .int (0 : Int32)), (4, .int x3), (0, .ref (cx_ad X 0)), (1, .int p0), (2, .int p1), (3, .int p2)] (by decide) rfl dX11_number_21 ?_
    exact G_sub [2, 3, 4, 5, 1, 0] rfl (gX11_number_23 hX hQ hcs N N p0 p1 p2 x3 (0 : Int32) μ)
  · refine G_iload_n hX 2 rfl rfl dX11_number_7 ?_
    exact G_iret hX hQ dX11_number_8
theorem cX11_number_ok (l : Launch) (N : Nat) (p0 : Int32) (p1 : Int32) (p2 : Int32) (μ : Mem) (z : Int32 × Mem) (h : fX11_number N p0 p1 p2 μ = some z) : Mi wM l yX11_number cX11_number 7 .int (rmo 1 21) (fun ad adK => [.ref (ad 0), .int p0, .int p1, .int p2]) μ z := Mi.of h (by decide +kernel) (fun _ _ => Nat.le_of_ble_eq_true rfl) (fun X hX hQ hl hcs => gX11_number_E hX hQ hcs N p0 p1 p2 μ)
/-! ===== DutyCaseModel.numberIn(II)I ===== -/
set_option maxHeartbeats 4000000 in
set_option maxRecDepth 100000 in
theorem gX11_numberIn_E {X : Ctx} {z : Int32 × Mem} (hX : Fx wM X cX11_numberIn 3 RX11 (some .int) (rmo 2 47)) (hQ : Qx_i wM X z) (hcs : cx_cells X = 0 ∧ cx_slots X = 0) (N : Nat) (p0 : Int32) (p1 : Int32) (μ : Mem) : G wM X z 0 [(0, .ref (cx_ad X 0)), (1, .int p0), (2, .int p1)] [] μ (fX11_numberIn N p0 p1 μ) := by
  unfold fX11_numberIn
  refine G_aload_n hX 0 rfl rfl dX11_numberIn_0 ?_
  refine G_iconst hX (5 : Int32) rfl dX11_numberIn_1 ?_
  refine G_iload_n hX 1 rfl rfl dX11_numberIn_2 ?_
  refine G_iload_n hX 2 rfl rfl dX11_numberIn_3 ?_
  refine G_cVi hX 0 11 (fun ad adK => [.int (5 : Int32), .int p0, .int p1]) [] (fun z2 h2 => cX11_number_ok (cx_l X) N (5 : Int32) p0 p1 μ z2 h2) ok_X11_number lm_X11_154 atM0.1 atM0.2 rfl rfl (fun _ _ => rfl) (Nat.le_of_ble_eq_true rfl) ⟨rfl, rfl, by decide, by decide⟩ (cs0 hcs) dX11_numberIn_4 (fun r1 μ => ?_)
  exact G_iret hX hQ dX11_numberIn_7
theorem cX11_numberIn_ok (l : Launch) (N : Nat) (p0 : Int32) (p1 : Int32) (μ : Mem) (z : Int32 × Mem) (h : fX11_numberIn N p0 p1 μ = some z) : Mi wM l yX11_numberIn cX11_numberIn 3 .int (rmo 2 47) (fun ad adK => [.ref (ad 0), .int p0, .int p1]) μ z := Mi.of h (by decide +kernel) (fun _ _ => Nat.le_of_ble_eq_true rfl) (fun X hX hQ hl hcs => gX11_numberIn_E hX hQ hcs N p0 p1 μ)
/-! ===== DutyCaseModel.market()I ===== -/
set_option maxHeartbeats 4000000 in
set_option maxRecDepth 100000 in
theorem gX11_market_E {X : Ctx} {z : Int32 × Mem} (hX : Fx wM X cX11_market 1 RX11 (some .int) (rmo 5 107)) (hQ : Qx_i wM X z) (hcs : cx_cells X = 0 ∧ cx_slots X = 0) (N : Nat) (μ : Mem) : G wM X z 0 [(0, .ref (cx_ad X 0))] [] μ (fX11_market N μ) := by
  unfold fX11_market
  refine G_aload_n hX 0 rfl rfl dX11_market_0 ?_
  refine G_ldcS hX (tx := "home") 8 (by decide +kernel) dX11_market_1 ?_
  refine G_cVi hX 0 11 (fun ad adK => [.ref (adK 8)]) [] (fun z2 h2 => cX11_isWord_ok (cx_l X) N 8 μ z2 h2) ok_X11_isWord lm_X11_144 atM0.1 atM0.2 rfl rfl (fun _ _ => rfl) (Nat.le_of_ble_eq_true rfl) ⟨rfl, rfl, by decide, by decide⟩ (cs0 hcs) dX11_market_3 (fun r1 μ => ?_)
  refine G_if_eq hX 13 (by decide) dX11_market_6 ?_ ?_
  · refine G_aload_n hX 0 rfl rfl dX11_market_13 ?_
    refine G_ldcS hX (tx := "export") 9 (by decide +kernel) dX11_market_14 ?_
    refine G_cVi hX 0 11 (fun ad adK => [.ref (adK 9)]) [] (fun z2 h2 => cX11_isWord_ok (cx_l X) N 9 μ z2 h2) ok_X11_isWord lm_X11_144 atM0.1 atM0.2 rfl rfl (fun _ _ => rfl) (Nat.le_of_ble_eq_true rfl) ⟨rfl, rfl, by decide, by decide⟩ (cs0 hcs) dX11_market_16 (fun r2 μ => ?_)
    refine G_if_eq hX 26 (by decide) dX11_market_19 ?_ ?_
    · refine G_aload_n hX 0 rfl rfl dX11_market_26 ?_
      refine G_ldcS hX (tx := "third") 10 (by decide +kernel) dX11_market_27 ?_
      refine G_cVi hX 0 11 (fun ad adK => [.ref (adK 10)]) [] (fun z2 h2 => cX11_isWord_ok (cx_l X) N 10 μ z2 h2) ok_X11_isWord lm_X11_144 atM0.1 atM0.2 rfl rfl (fun _ _ => rfl) (Nat.le_of_ble_eq_true rfl) ⟨rfl, rfl, by decide, by decide⟩ (cs0 hcs) dX11_market_29 (fun r3 μ => ?_)
      refine G_if_eq hX 39 (by decide) dX11_market_32 ?_ ?_
      · refine G_iconst hX (-1 : Int32) rfl dX11_market_39 ?_
        exact G_iret hX hQ dX11_market_40
      · refine G_iconst hX (2 : Int32) rfl dX11_market_35 ?_
        refine G_goto hX 40 (by decide) dX11_market_36 ?_
        exact G_iret hX hQ dX11_market_40
    · refine G_iconst hX (1 : Int32) rfl dX11_market_22 ?_
      refine G_goto hX 40 (by decide) dX11_market_23 ?_
      exact G_iret hX hQ dX11_market_40
  · refine G_iconst hX (0 : Int32) rfl dX11_market_9 ?_
    refine G_goto hX 40 (by decide) dX11_market_10 ?_
    exact G_iret hX hQ dX11_market_40
theorem cX11_market_ok (l : Launch) (N : Nat) (μ : Mem) (z : Int32 × Mem) (h : fX11_market N μ = some z) : Mi wM l yX11_market cX11_market 1 .int (rmo 5 107) (fun ad adK => [.ref (ad 0)]) μ z := Mi.of h (by decide +kernel) (fun _ _ => Nat.le_of_ble_eq_true rfl) (fun X hX hQ hl hcs => gX11_market_E hX hQ hcs N μ)
/-! ===== DutyCaseModel.isKeyword()Z ===== -/
set_option maxHeartbeats 4000000 in
set_option maxRecDepth 100000 in
theorem gX11_isKeyword_E {X : Ctx} {z : Int32 × Mem} (hX : Fx wM X cX11_isKeyword 1 RX11 (some .boolean) (rmo 6 127)) (hQ : Qx_i wM X z) (hcs : cx_cells X = 0 ∧ cx_slots X = 0) (N : Nat) (μ : Mem) : G wM X z 0 [(0, .ref (cx_ad X 0))] [] μ (fX11_isKeyword N μ) := by
  unfold fX11_isKeyword
  refine G_aload_n hX 0 rfl rfl dX11_isKeyword_0 ?_
  refine G_ldcS hX (tx := "model") 0 (by decide +kernel) dX11_isKeyword_1 ?_
  refine G_cVi hX 0 11 (fun ad adK => [.ref (adK 0)]) [] (fun z2 h2 => cX11_isWord_ok (cx_l X) N 0 μ z2 h2) ok_X11_isWord lm_X11_144 atM0.1 atM0.2 rfl rfl (fun _ _ => rfl) (Nat.le_of_ble_eq_true rfl) ⟨rfl, rfl, by decide, by decide⟩ (cs0 hcs) dX11_isKeyword_3 (fun r1 μ => ?_)
  refine G_if_ne hX 80 (by decide) dX11_isKeyword_6 ?_ ?_
  · refine G_iconst hX (1 : Int32) rfl dX11_isKeyword_80 ?_
    refine G_goto hX 85 (by decide) dX11_isKeyword_81 ?_
    exact G_zret hX hQ rfl dX11_isKeyword_85
  · refine G_aload_n hX 0 rfl rfl dX11_isKeyword_9 ?_
    refine G_ldcS hX (tx := "firm") 1 (by decide +kernel) dX11_isKeyword_10 ?_
    refine G_cVi hX 0 11 (fun ad adK => [.ref (adK 1)]) [] (fun z2 h2 => cX11_isWord_ok (cx_l X) N 1 μ z2 h2) ok_X11_isWord lm_X11_144 atM0.1 atM0.2 rfl rfl (fun _ _ => rfl) (Nat.le_of_ble_eq_true rfl) ⟨rfl, rfl, by decide, by decide⟩ (cs0 hcs) dX11_isKeyword_12 (fun r2 μ => ?_)
    refine G_if_ne hX 80 (by decide) dX11_isKeyword_15 ?_ ?_
    · refine G_iconst hX (1 : Int32) rfl dX11_isKeyword_80 ?_
      refine G_goto hX 85 (by decide) dX11_isKeyword_81 ?_
      exact G_zret hX hQ rfl dX11_isKeyword_85
    · refine G_aload_n hX 0 rfl rfl dX11_isKeyword_18 ?_
      refine G_ldcS hX (tx := "silent") 2 (by decide +kernel) dX11_isKeyword_19 ?_
      refine G_cVi hX 0 11 (fun ad adK => [.ref (adK 2)]) [] (fun z2 h2 => cX11_isWord_ok (cx_l X) N 2 μ z2 h2) ok_X11_isWord lm_X11_144 atM0.1 atM0.2 rfl rfl (fun _ _ => rfl) (Nat.le_of_ble_eq_true rfl) ⟨rfl, rfl, by decide, by decide⟩ (cs0 hcs) dX11_isKeyword_21 (fun r3 μ => ?_)
      refine G_if_ne hX 80 (by decide) dX11_isKeyword_24 ?_ ?_
      · refine G_iconst hX (1 : Int32) rfl dX11_isKeyword_80 ?_
        refine G_goto hX 85 (by decide) dX11_isKeyword_81 ?_
        exact G_zret hX hQ rfl dX11_isKeyword_85
      · refine G_aload_n hX 0 rfl rfl dX11_isKeyword_27 ?_
        refine G_ldcS hX (tx := "cost") 3 (by decide +kernel) dX11_isKeyword_28 ?_
        refine G_cVi hX 0 11 (fun ad adK => [.ref (adK 3)]) [] (fun z2 h2 => cX11_isWord_ok (cx_l X) N 3 μ z2 h2) ok_X11_isWord lm_X11_144 atM0.1 atM0.2 rfl rfl (fun _ _ => rfl) (Nat.le_of_ble_eq_true rfl) ⟨rfl, rfl, by decide, by decide⟩ (cs0 hcs) dX11_isKeyword_30 (fun r4 μ => ?_)
        refine G_if_ne hX 80 (by decide) dX11_isKeyword_33 ?_ ?_
        · refine G_iconst hX (1 : Int32) rfl dX11_isKeyword_80 ?_
          refine G_goto hX 85 (by decide) dX11_isKeyword_81 ?_
          exact G_zret hX hQ rfl dX11_isKeyword_85
        · refine G_aload_n hX 0 rfl rfl dX11_isKeyword_36 ?_
          refine G_ldcS hX (tx := "adjust") 4 (by decide +kernel) dX11_isKeyword_37 ?_
          refine G_cVi hX 0 11 (fun ad adK => [.ref (adK 4)]) [] (fun z2 h2 => cX11_isWord_ok (cx_l X) N 4 μ z2 h2) ok_X11_isWord lm_X11_144 atM0.1 atM0.2 rfl rfl (fun _ _ => rfl) (Nat.le_of_ble_eq_true rfl) ⟨rfl, rfl, by decide, by decide⟩ (cs0 hcs) dX11_isKeyword_39 (fun r5 μ => ?_)
          refine G_if_ne hX 80 (by decide) dX11_isKeyword_42 ?_ ?_
          · refine G_iconst hX (1 : Int32) rfl dX11_isKeyword_80 ?_
            refine G_goto hX 85 (by decide) dX11_isKeyword_81 ?_
            exact G_zret hX hQ rfl dX11_isKeyword_85
          · refine G_aload_n hX 0 rfl rfl dX11_isKeyword_45 ?_
            refine G_ldcS hX (tx := "sell") 5 (by decide +kernel) dX11_isKeyword_46 ?_
            refine G_cVi hX 0 11 (fun ad adK => [.ref (adK 5)]) [] (fun z2 h2 => cX11_isWord_ok (cx_l X) N 5 μ z2 h2) ok_X11_isWord lm_X11_144 atM0.1 atM0.2 rfl rfl (fun _ _ => rfl) (Nat.le_of_ble_eq_true rfl) ⟨rfl, rfl, by decide, by decide⟩ (cs0 hcs) dX11_isKeyword_48 (fun r6 μ => ?_)
            refine G_if_ne hX 80 (by decide) dX11_isKeyword_51 ?_ ?_
            · refine G_iconst hX (1 : Int32) rfl dX11_isKeyword_80 ?_
              refine G_goto hX 85 (by decide) dX11_isKeyword_81 ?_
              exact G_zret hX hQ rfl dX11_isKeyword_85
            · refine G_aload_n hX 0 rfl rfl dX11_isKeyword_54 ?_
              refine G_ldcS hX (tx := "profit") 6 (by decide +kernel) dX11_isKeyword_55 ?_
              refine G_cVi hX 0 11 (fun ad adK => [.ref (adK 6)]) [] (fun z2 h2 => cX11_isWord_ok (cx_l X) N 6 μ z2 h2) ok_X11_isWord lm_X11_144 atM0.1 atM0.2 rfl rfl (fun _ _ => rfl) (Nat.le_of_ble_eq_true rfl) ⟨rfl, rfl, by decide, by decide⟩ (cs0 hcs) dX11_isKeyword_57 (fun r7 μ => ?_)
              refine G_if_ne hX 80 (by decide) dX11_isKeyword_60 ?_ ?_
              · refine G_iconst hX (1 : Int32) rfl dX11_isKeyword_80 ?_
                refine G_goto hX 85 (by decide) dX11_isKeyword_81 ?_
                exact G_zret hX hQ rfl dX11_isKeyword_85
              · refine G_aload_n hX 0 rfl rfl dX11_isKeyword_63 ?_
                refine G_ldcS hX (tx := "step") 7 (by decide +kernel) dX11_isKeyword_64 ?_
                refine G_cVi hX 0 11 (fun ad adK => [.ref (adK 7)]) [] (fun z2 h2 => cX11_isWord_ok (cx_l X) N 7 μ z2 h2) ok_X11_isWord lm_X11_144 atM0.1 atM0.2 rfl rfl (fun _ _ => rfl) (Nat.le_of_ble_eq_true rfl) ⟨rfl, rfl, by decide, by decide⟩ (cs0 hcs) dX11_isKeyword_66 (fun r8 μ => ?_)
                refine G_if_ne hX 80 (by decide) dX11_isKeyword_69 ?_ ?_
                · refine G_iconst hX (1 : Int32) rfl dX11_isKeyword_80 ?_
                  refine G_goto hX 85 (by decide) dX11_isKeyword_81 ?_
                  exact G_zret hX hQ rfl dX11_isKeyword_85
                · refine G_aload_n hX 0 rfl rfl dX11_isKeyword_72 ?_
                  refine G_cVi hX 0 11 (fun ad adK => []) [] (fun z2 h2 => cX11_market_ok (cx_l X) N μ z2 h2) ok_X11_market lm_X11_174 atM0.1 atM0.2 rfl rfl (fun _ _ => rfl) (Nat.le_of_ble_eq_true rfl) ⟨rfl, rfl, by decide, by decide⟩ (cs0 hcs) dX11_isKeyword_73 (fun r9 μ => ?_)
                  refine G_iconst hX (-1 : Int32) rfl dX11_isKeyword_76 ?_
                  refine G_icmp_eq hX 84 (by decide) dX11_isKeyword_77 ?_ ?_
                  · refine G_iconst hX (0 : Int32) rfl dX11_isKeyword_84 ?_
                    exact G_zret hX hQ rfl dX11_isKeyword_85
                  · refine G_iconst hX (1 : Int32) rfl dX11_isKeyword_80 ?_
                    refine G_goto hX 85 (by decide) dX11_isKeyword_81 ?_
                    exact G_zret hX hQ rfl dX11_isKeyword_85
theorem cX11_isKeyword_ok (l : Launch) (N : Nat) (μ : Mem) (z : Int32 × Mem) (h : fX11_isKeyword N μ = some z) : Mi wM l yX11_isKeyword cX11_isKeyword 1 .boolean (rmo 6 127) (fun ad adK => [.ref (ad 0)]) μ z := Mi.of h (by decide +kernel) (fun _ _ => Nat.le_of_ble_eq_true rfl) (fun X hX hQ hl hcs => gX11_isKeyword_E hX hQ hcs N μ)
/-! ===== DutyCaseModel.nameHere()I ===== -/
set_option maxHeartbeats 4000000 in
set_option maxRecDepth 100000 in
theorem gX11_nameHere_36 {X : Ctx} {z : Int32 × Mem} (hX : Fx wM X cX11_nameHere 4 RX11 (some .int) (rmo 7 147)) (hQ : Qx_i wM X z) (hcs : cx_cells X = 0 ∧ cx_slots X = 0) (N : Nat) : ∀ (n : Nat) (v1 : Int32) (v2 : Int32) (v3 : Int32) (μ : Mem), G wM X z 36 [(0, .ref (cx_ad X 0)), (1, .int v1), (2, .int v2), (3, .int v3)] [] μ (fX11_nameHere_36 N n v1 v2 v3 μ) := by
  intro n
  induction n with
  | zero =>
    intro v1 v2 v3 μ
    exact G_none
  | succ n ih =>
    intro v1 v2 v3 μ
    unfold fX11_nameHere_36
    refine G_iload_n hX 3 rfl rfl dX11_nameHere_36 ?_
    refine G_iload_n hX 1 rfl rfl dX11_nameHere_37 ?_
    refine G_icmp_ge hX 66 (by decide) dX11_nameHere_38 ?_ ?_
    · refine G_iload_n hX 2 rfl rfl dX11_nameHere_66 ?_
      exact G_iret hX hQ dX11_nameHere_67
    · refine G_iload_n hX 2 rfl rfl dX11_nameHere_41 ?_
      refine G_iconst hX (5 : Int32) rfl dX11_nameHere_42 ?_
      refine G_ishl hX dX11_nameHere_43 ?_
      refine G_aload_n hX 0 rfl rfl dX11_nameHere_44 ?_
      refine gf_X11_37_M0 hX dX11_nameHere_45 ?_
      refine G_aload_n hX 0 rfl rfl dX11_nameHere_48 ?_
      refine gf_X11_110_M0 hX dX11_nameHere_49 ?_
      refine G_nmi (fun x4 => ?_)
      refine G_iload_n hX 3 rfl rfl dX11_nameHere_52 ?_
      refine G_iadd hX dX11_nameHere_53 ?_
      refine G_aB hX atM10 dX11_nameHere_54 (fun x5 => ?_)
      refine G_bipush hX (96 : Int32) rfl dX11_nameHere_55 ?_
      refine G_isub hX dX11_nameHere_57 ?_
      refine G_ior hX dX11_nameHere_58 ?_
      refine G_nmi (fun x6 => ?_)
      refine G_istore_n hX [(2, .int x6), (0, .ref (cx_ad X 0)), (1, .int v1), (3, .int v3)] rfl (by decide) rfl dX11_nameHere_59 ?_
      refine G_iincN hX 3 (fun x7 => [(3, .int x7), (2, .int x6), (0, .ref (cx_ad X 0)), (1, .int v1)]) rfl rfl (by decide) (fun _ => rfl) dX11_nameHere_60 (fun x7 => ?_)
      refine G_goto hX 36 (by decide) dX11_nameHere_63 ?_
      exact G_sub [2, 3, 1, 0] rfl (ih v1 x6 x7 μ)
set_option maxHeartbeats 4000000 in
set_option maxRecDepth 100000 in
theorem gX11_nameHere_E {X : Ctx} {z : Int32 × Mem} (hX : Fx wM X cX11_nameHere 4 RX11 (some .int) (rmo 7 147)) (hQ : Qx_i wM X z) (hcs : cx_cells X = 0 ∧ cx_slots X = 0) (N : Nat) (μ : Mem) : G wM X z 0 [(0, .ref (cx_ad X 0))] [] μ (fX11_nameHere N μ) := by
  unfold fX11_nameHere
  refine G_aload_n hX 0 rfl rfl dX11_nameHere_0 ?_
  refine G_cVi hX 0 11 (fun ad adK => []) [] (fun z2 h2 => cX11_wordLong_ok (cx_l X) N μ z2 h2) ok_X11_wordLong lm_X11_128 atM0.1 atM0.2 rfl rfl (fun _ _ => rfl) (Nat.le_of_ble_eq_true rfl) ⟨rfl, rfl, by decide, by decide⟩ (cs0 hcs) dX11_nameHere_1 (fun r1 μ => ?_)
  refine G_istore_n hX [(1, .int r1), (0, .ref (cx_ad X 0))] rfl (by decide) rfl dX11_nameHere_4 ?_
  refine G_aload_n hX 1 rfl rfl dX11_nameHere_5 ?_
  refine G_cVi hX 0 11 (fun ad adK => []) [] (fun z2 h2 => cX11_isWrong_ok (cx_l X) N μ z2 h2) ok_X11_isWrong lm_X11_140 atM0.1 atM0.2 rfl rfl (fun _ _ => rfl) (Nat.le_of_ble_eq_true rfl) ⟨rfl, rfl, by decide, by decide⟩ (cs0 hcs) dX11_nameHere_6 (fun r2 μ => ?_)
  refine G_if_ne hX 30 (by decide) dX11_nameHere_9 ?_ ?_
  · refine G_iconst hX (0 : Int32) rfl dX11_nameHere_30 ?_
    exact G_iret hX hQ dX11_nameHere_31
  · refine G_iload_n hX 0 rfl rfl dX11_nameHere_12 ?_
    refine G_iconst hX (1 : Int32) rfl dX11_nameHere_13 ?_
    refine G_icmp_lt hX 30 (by decide) dX11_nameHere_14 ?_ ?_
    · refine G_iconst hX (0 : Int32) rfl dX11_nameHere_30 ?_
      exact G_iret hX hQ dX11_nameHere_31
    · refine G_iload_n hX 0 rfl rfl dX11_nameHere_17 ?_
      refine G_bipush hX (6 : Int32) rfl dX11_nameHere_18 ?_
      refine G_icmp_gt hX 30 (by decide) dX11_nameHere_20 ?_ ?_
      · refine G_iconst hX (0 : Int32) rfl dX11_nameHere_30 ?_
        exact G_iret hX hQ dX11_nameHere_31
      · refine G_aload_n hX 1 rfl rfl dX11_nameHere_23 ?_
        refine G_cVi hX 0 11 (fun ad adK => []) [] (fun z2 h2 => cX11_isKeyword_ok (cx_l X) N μ z2 h2) ok_X11_isKeyword lm_X11_183 atM0.1 atM0.2 rfl rfl (fun _ _ => rfl) (Nat.le_of_ble_eq_true rfl) ⟨rfl, rfl, by decide, by decide⟩ (cs0 hcs) dX11_nameHere_24 (fun r3 μ => ?_)
        refine G_if_eq hX 32 (by decide) dX11_nameHere_27 ?_ ?_
        · refine G_iconst hX (0 : Int32) rfl dX11_nameHere_32 ?_
          refine G_istore_n hX [(2, .int (0 : Int32)), (1, .int r1), (0, .ref (cx_ad X 0))] rfl (by decide) rfl dX11_nameHere_33 ?_
          refine G_iconst hX (0 : Int32) rfl dX11_nameHere_34 ?_
          refine G_istore_n hX [(3, .int (0 : Int32)), (2, .int (0 : Int32)), (1, .int r1), (0, .ref (cx_ad X 0))] rfl (by decide) rfl dX11_nameHere_35 ?_
          exact G_sub [3, 2, 1, 0] rfl (gX11_nameHere_36 hX hQ hcs N N r1 (0 : Int32) (0 : Int32) μ)
        · refine G_iconst hX (0 : Int32) rfl dX11_nameHere_30 ?_
          exact G_iret hX hQ dX11_nameHere_31
theorem cX11_nameHere_ok (l : Launch) (N : Nat) (μ : Mem) (z : Int32 × Mem) (h : fX11_nameHere N μ = some z) : Mi wM l yX11_nameHere cX11_nameHere 4 .int (rmo 7 147) (fun ad adK => [.ref (ad 0)]) μ z := Mi.of h (by decide +kernel) (fun _ _ => Nat.le_of_ble_eq_true rfl) (fun X hX hQ hl hcs => gX11_nameHere_E hX hQ hcs N μ)
/-! ===== DutyCaseModel.find([III)I, array 11 ===== -/
set_option maxHeartbeats 4000000 in
set_option maxRecDepth 100000 in
theorem gX11_find_A11_2 {X : Ctx} {z : Int32 × Mem} (hX : Fx wM X cX11_find 4 RX11 (some .int) (rmo 0 0)) (hQ : Qx_i wM X z) (hcs : cx_cells X = 0 ∧ cx_slots X = 0) (N : Nat) : ∀ (n : Nat) (v1 : Int32) (v2 : Int32) (v3 : Int32) (μ : Mem), G wM X z 2 [(0, .ref (cx_ad X 11)), (1, .int v1), (2, .int v2), (3, .int v3)] [] μ (fX11_find_A11_2 N n v1 v2 v3 μ) := by
  intro n
  induction n with
  | zero =>
    intro v1 v2 v3 μ
    exact G_none
  | succ n ih =>
    intro v1 v2 v3 μ
    unfold fX11_find_A11_2
    refine G_iload_n hX 3 rfl rfl dX11_find_2 ?_
    refine G_iload_n hX 1 rfl rfl dX11_find_3 ?_
    refine G_icmp_ge hX 22 (by decide) dX11_find_4 ?_ ?_
    · refine G_iconst hX (-1 : Int32) rfl dX11_find_22 ?_
      exact G_iret hX hQ dX11_find_23
    · refine G_aload_n hX 0 rfl rfl dX11_find_7 ?_
      refine G_iload_n hX 3 rfl rfl dX11_find_8 ?_
      refine G_aI hX atM11 dX11_find_9 (fun x1 => ?_)
      refine G_iload_n hX 2 rfl rfl dX11_find_10 ?_
      refine G_icmp_ne hX 16 (by decide) dX11_find_11 ?_ ?_
      · refine G_iincN hX 3 (fun x2 => [(3, .int x2), (0, .ref (cx_ad X 11)), (1, .int v1), (2, .int v2)]) rfl rfl (by decide) (fun _ => rfl) dX11_find_16 (fun x2 => ?_)
        refine G_goto hX 2 (by decide) dX11_find_19 ?_
        exact G_sub [1, 2, 3, 0] rfl (ih v1 v2 x2 μ)
      · refine G_iload_n hX 3 rfl rfl dX11_find_14 ?_
        exact G_iret hX hQ dX11_find_15
set_option maxHeartbeats 4000000 in
set_option maxRecDepth 100000 in
theorem gX11_find_A11_E {X : Ctx} {z : Int32 × Mem} (hX : Fx wM X cX11_find 4 RX11 (some .int) (rmo 0 0)) (hQ : Qx_i wM X z) (hcs : cx_cells X = 0 ∧ cx_slots X = 0) (N : Nat) (p1 : Int32) (p2 : Int32) (μ : Mem) : G wM X z 0 [(0, .ref (cx_ad X 11)), (1, .int p1), (2, .int p2)] [] μ (fX11_find_A11 N p1 p2 μ) := by
  unfold fX11_find_A11
  refine G_iconst hX (0 : Int32) rfl dX11_find_0 ?_
  refine G_istore_n hX [(3, .int (0 : Int32)), (0, .ref (cx_ad X 11)), (1, .int p1), (2, .int p2)] rfl (by decide) rfl dX11_find_1 ?_
  exact G_sub [1, 2, 3, 0] rfl (gX11_find_A11_2 hX hQ hcs N N p1 p2 (0 : Int32) μ)
theorem cX11_find_A11_ok (l : Launch) (N : Nat) (p1 : Int32) (p2 : Int32) (μ : Mem) (z : Int32 × Mem) (h : fX11_find_A11 N p1 p2 μ = some z) : Mi wM l yX11_find cX11_find 4 .int (rmo 0 0) (fun ad adK => [.ref (ad 11), .int p1, .int p2]) μ z := Mi.of h (by decide +kernel) (fun _ _ => Nat.le_of_ble_eq_true rfl) (fun X hX hQ hl hcs => gX11_find_A11_E hX hQ hcs N p1 p2 μ)
/-! ===== DutyCaseModel.find([III)I, array 12 ===== -/
set_option maxHeartbeats 4000000 in
set_option maxRecDepth 100000 in
theorem gX11_find_A12_2 {X : Ctx} {z : Int32 × Mem} (hX : Fx wM X cX11_find 4 RX11 (some .int) (rmo 0 0)) (hQ : Qx_i wM X z) (hcs : cx_cells X = 0 ∧ cx_slots X = 0) (N : Nat) : ∀ (n : Nat) (v1 : Int32) (v2 : Int32) (v3 : Int32) (μ : Mem), G wM X z 2 [(0, .ref (cx_ad X 12)), (1, .int v1), (2, .int v2), (3, .int v3)] [] μ (fX11_find_A12_2 N n v1 v2 v3 μ) := by
  intro n
  induction n with
  | zero =>
    intro v1 v2 v3 μ
    exact G_none
  | succ n ih =>
    intro v1 v2 v3 μ
    unfold fX11_find_A12_2
    refine G_iload_n hX 3 rfl rfl dX11_find_2 ?_
    refine G_iload_n hX 1 rfl rfl dX11_find_3 ?_
    refine G_icmp_ge hX 22 (by decide) dX11_find_4 ?_ ?_
    · refine G_iconst hX (-1 : Int32) rfl dX11_find_22 ?_
      exact G_iret hX hQ dX11_find_23
    · refine G_aload_n hX 0 rfl rfl dX11_find_7 ?_
      refine G_iload_n hX 3 rfl rfl dX11_find_8 ?_
      refine G_aI hX atM12 dX11_find_9 (fun x1 => ?_)
      refine G_iload_n hX 2 rfl rfl dX11_find_10 ?_
      refine G_icmp_ne hX 16 (by decide) dX11_find_11 ?_ ?_
      · refine G_iincN hX 3 (fun x2 => [(3, .int x2), (0, .ref (cx_ad X 12)), (1, .int v1), (2, .int v2)]) rfl rfl (by decide) (fun _ => rfl) dX11_find_16 (fun x2 => ?_)
        refine G_goto hX 2 (by decide) dX11_find_19 ?_
        exact G_sub [1, 2, 3, 0] rfl (ih v1 v2 x2 μ)
      · refine G_iload_n hX 3 rfl rfl dX11_find_14 ?_
        exact G_iret hX hQ dX11_find_15
set_option maxHeartbeats 4000000 in
set_option maxRecDepth 100000 in
theorem gX11_find_A12_E {X : Ctx} {z : Int32 × Mem} (hX : Fx wM X cX11_find 4 RX11 (some .int) (rmo 0 0)) (hQ : Qx_i wM X z) (hcs : cx_cells X = 0 ∧ cx_slots X = 0) (N : Nat) (p1 : Int32) (p2 : Int32) (μ : Mem) : G wM X z 0 [(0, .ref (cx_ad X 12)), (1, .int p1), (2, .int p2)] [] μ (fX11_find_A12 N p1 p2 μ) := by
  unfold fX11_find_A12
  refine G_iconst hX (0 : Int32) rfl dX11_find_0 ?_
  refine G_istore_n hX [(3, .int (0 : Int32)), (0, .ref (cx_ad X 12)), (1, .int p1), (2, .int p2)] rfl (by decide) rfl dX11_find_1 ?_
  exact G_sub [1, 2, 3, 0] rfl (gX11_find_A12_2 hX hQ hcs N N p1 p2 (0 : Int32) μ)
theorem cX11_find_A12_ok (l : Launch) (N : Nat) (p1 : Int32) (p2 : Int32) (μ : Mem) (z : Int32 × Mem) (h : fX11_find_A12 N p1 p2 μ = some z) : Mi wM l yX11_find cX11_find 4 .int (rmo 0 0) (fun ad adK => [.ref (ad 12), .int p1, .int p2]) μ z := Mi.of h (by decide +kernel) (fun _ _ => Nat.le_of_ble_eq_true rfl) (fun X hX hQ hl hcs => gX11_find_A12_E hX hQ hcs N p1 p2 μ)
/-! ===== DutyCaseModel.told(Z)I ===== -/
set_option maxHeartbeats 4000000 in
set_option maxRecDepth 100000 in
theorem gX11_told_44 {X : Ctx} {z : Int32 × Mem} (hX : Fx wM X cX11_told 4 RX11 (some .int) (rmo 8 170)) (hQ : Qx_i wM X z) (hcs : cx_cells X = 0 ∧ cx_slots X = 0) (N : Nat) (s0 : Int32) (μ : Mem) : G wM X z 44 [(0, .ref (cx_ad X 0))] [.int s0] μ (fX11_told_44 N s0 μ) := by
  unfold fX11_told_44
  refine G_istore_n hX [(3, .int s0), (0, .ref (cx_ad X 0))] rfl (by decide) rfl dX11_told_44 ?_
  refine G_iload_n hX 0 rfl rfl dX11_told_45 ?_
  refine G_iconst hX (-1 : Int32) rfl dX11_told_46 ?_
  refine G_icmp_ne hX 56 (by decide) dX11_told_47 ?_ ?_
  · refine G_aload_n hX 1 rfl rfl dX11_told_56 ?_
    refine G_dup hX rfl dX11_told_57 ?_
    refine gf_X11_110_M0 hX dX11_told_58 ?_
    refine G_nmi (fun x6 => ?_)
    refine G_aload_n hX 1 rfl rfl dX11_told_61 ?_
    refine G_cVi hX 0 11 (fun ad adK => []) [.int x6, .ref (cx_ad X 0)] (fun z2 h2 => cX11_wordLong_ok (cx_l X) N μ z2 h2) ok_X11_wordLong lm_X11_128 atM0.1 atM0.2 rfl rfl (fun _ _ => rfl) (Nat.le_of_ble_eq_true rfl) ⟨rfl, rfl, by decide, by decide⟩ (cs0 hcs) dX11_told_62 (fun r7 μ => ?_)
    refine G_iadd hX dX11_told_65 ?_
    refine G_nmi (fun x8 => ?_)
    refine pf_X11_110_M0 hX dX11_told_66 (fun μ => ?_)
    refine G_iload_n hX 0 rfl rfl dX11_told_69 ?_
    exact G_iret hX hQ dX11_told_70
  · refine G_aload_n hX 1 rfl rfl dX11_told_50 ?_
    refine G_cVv hX 0 11 (fun ad adK => []) [] (fun z2 h2 => cX11_wrong_ok (cx_l X) N μ z2 h2) ok_X11_wrong lm_X11_148 atM0.1 atM0.2 rfl rfl (fun _ _ => rfl) (Nat.le_of_ble_eq_true rfl) ⟨rfl, rfl, by decide, by decide⟩ (cs0 hcs) dX11_told_51 (fun μ => ?_)
    refine G_iconst hX (0 : Int32) rfl dX11_told_54 ?_
    exact G_iret hX hQ dX11_told_55
set_option maxHeartbeats 4000000 in
set_option maxRecDepth 100000 in
theorem gX11_told_E {X : Ctx} {z : Int32 × Mem} (hX : Fx wM X cX11_told 4 RX11 (some .int) (rmo 8 170)) (hQ : Qx_i wM X z) (hcs : cx_cells X = 0 ∧ cx_slots X = 0) (N : Nat) (p0 : Int32) (μ : Mem) : G wM X z 0 [(0, .ref (cx_ad X 0)), (1, .int p0)] [] μ (fX11_told N p0 μ) := by
  unfold fX11_told
  refine G_aload_n hX 0 rfl rfl dX11_told_0 ?_
  refine G_cVi hX 0 11 (fun ad adK => []) [] (fun z2 h2 => cX11_nameHere_ok (cx_l X) N μ z2 h2) ok_X11_nameHere lm_X11_186 atM0.1 atM0.2 rfl rfl (fun _ _ => rfl) (Nat.le_of_ble_eq_true rfl) ⟨rfl, rfl, by decide, by decide⟩ (cs0 hcs) dX11_told_1 (fun r1 μ => ?_)
  refine G_istore_n hX [(2, .int r1), (0, .ref (cx_ad X 0)), (1, .int p0)] rfl (by decide) rfl dX11_told_4 ?_
  refine G_iload_n hX 0 rfl rfl dX11_told_5 ?_
  refine G_if_ne hX 13 (by decide) dX11_told_6 ?_ ?_
  · refine G_iload_n hX 2 rfl rfl dX11_told_13 ?_
    refine G_if_eq hX 32 (by decide) dX11_told_14 ?_ ?_
    · refine G_aload_n hX 1 rfl rfl dX11_told_32 ?_
      refine gf_X11_45_M0 hX dX11_told_33 ?_
      refine G_aload_n hX 1 rfl rfl dX11_told_36 ?_
      refine gf_X11_196_M0 hX dX11_told_37 ?_
      refine G_nmi (fun x2 => ?_)
      refine G_iload_n hX 0 rfl rfl dX11_told_40 ?_
      refine G_cSi hX (fun ad adK => [.ref (ad 11), .int x2, .int r1]) [] (fun z2 h2 => cX11_find_A11_ok (cx_l X) N x2 r1 μ z2 h2) ok_X11_find lm_X11_192 rfl (fun _ _ => rfl) (Nat.le_of_ble_eq_true rfl) ⟨rfl, rfl, by decide, by decide⟩ (cs0 hcs) dX11_told_41 (fun r3 μ => ?_)
      exact G_sub [1] rfl (gX11_told_44 hX hQ hcs N r3 μ)
    · refine G_aload_n hX 1 rfl rfl dX11_told_17 ?_
      refine gf_X11_48_M0 hX dX11_told_18 ?_
      refine G_aload_n hX 1 rfl rfl dX11_told_21 ?_
      refine gf_X11_189_M0 hX dX11_told_22 ?_
      refine G_nmi (fun x4 => ?_)
      refine G_iload_n hX 0 rfl rfl dX11_told_25 ?_
      refine G_cSi hX (fun ad adK => [.ref (ad 12), .int x4, .int r1]) [] (fun z2 h2 => cX11_find_A12_ok (cx_l X) N x4 r1 μ z2 h2) ok_X11_find lm_X11_192 rfl (fun _ _ => rfl) (Nat.le_of_ble_eq_true rfl) ⟨rfl, rfl, by decide, by decide⟩ (cs0 hcs) dX11_told_26 (fun r5 μ => ?_)
      refine G_goto hX 44 (by decide) dX11_told_29 ?_
      exact G_sub [1] rfl (gX11_told_44 hX hQ hcs N r5 μ)
  · refine G_iconst hX (-1 : Int32) rfl dX11_told_9 ?_
    refine G_goto hX 44 (by decide) dX11_told_10 ?_
    exact G_sub [1] rfl (gX11_told_44 hX hQ hcs N (-1 : Int32) μ)
theorem cX11_told_ok (l : Launch) (N : Nat) (p0 : Int32) (μ : Mem) (z : Int32 × Mem) (h : fX11_told N p0 μ = some z) : Mi wM l yX11_told cX11_told 4 .int (rmo 8 170) (fun ad adK => [.ref (ad 0), .int p0]) μ z := Mi.of h (by decide +kernel) (fun _ _ => Nat.le_of_ble_eq_true rfl) (fun X hX hQ hl hcs => gX11_told_E hX hQ hcs N p0 μ)
/-! ===== DutyCaseModel.fresh(Z)I ===== -/
set_option maxHeartbeats 4000000 in
set_option maxRecDepth 100000 in
theorem gX11_fresh_49 {X : Ctx} {z : Int32 × Mem} (hX : Fx wM X cX11_fresh 4 RX11 (some .int) (rmo 8 170)) (hQ : Qx_i wM X z) (hcs : cx_cells X = 0 ∧ cx_slots X = 0) (N : Nat) (v2 : Int32) (s0 : Int32) (μ : Mem) : G wM X z 49 [(0, .ref (cx_ad X 0)), (2, .int v2)] [.int s0] μ (fX11_fresh_49 N v2 s0 μ) := by
  unfold fX11_fresh_49
  refine G_istore_n hX [(3, .int s0), (0, .ref (cx_ad X 0)), (2, .int v2)] rfl (by decide) rfl dX11_fresh_49 ?_
  refine G_iload_n hX 2 rfl rfl dX11_fresh_50 ?_
  refine G_if_eq hX 58 (by decide) dX11_fresh_51 ?_ ?_
  · refine G_aload_n hX 1 rfl rfl dX11_fresh_58 ?_
    refine G_cVv hX 0 11 (fun ad adK => []) [] (fun z2 h2 => cX11_wrong_ok (cx_l X) N μ z2 h2) ok_X11_wrong lm_X11_148 atM0.1 atM0.2 rfl rfl (fun _ _ => rfl) (Nat.le_of_ble_eq_true rfl) ⟨rfl, rfl, by decide, by decide⟩ (cs0 hcs) dX11_fresh_59 (fun μ => ?_)
    refine G_iconst hX (0 : Int32) rfl dX11_fresh_62 ?_
    exact G_iret hX hQ dX11_fresh_63
  · refine G_iload_n hX 0 rfl rfl dX11_fresh_54 ?_
    refine G_if_eq hX 64 (by decide) dX11_fresh_55 ?_ ?_
    · refine G_aload_n hX 1 rfl rfl dX11_fresh_64 ?_
      refine G_dup hX rfl dX11_fresh_65 ?_
      refine gf_X11_110_M0 hX dX11_fresh_66 ?_
      refine G_nmi (fun x6 => ?_)
      refine G_aload_n hX 1 rfl rfl dX11_fresh_69 ?_
      refine G_cVi hX 0 11 (fun ad adK => []) [.int x6, .ref (cx_ad X 0)] (fun z2 h2 => cX11_wordLong_ok (cx_l X) N μ z2 h2) ok_X11_wordLong lm_X11_128 atM0.1 atM0.2 rfl rfl (fun _ _ => rfl) (Nat.le_of_ble_eq_true rfl) ⟨rfl, rfl, by decide, by decide⟩ (cs0 hcs) dX11_fresh_70 (fun r7 μ => ?_)
      refine G_iadd hX dX11_fresh_73 ?_
      refine G_nmi (fun x8 => ?_)
      refine pf_X11_110_M0 hX dX11_fresh_74 (fun μ => ?_)
      refine G_iload_n hX 2 rfl rfl dX11_fresh_77 ?_
      exact G_iret hX hQ dX11_fresh_78
    · refine G_aload_n hX 1 rfl rfl dX11_fresh_58 ?_
      refine G_cVv hX 0 11 (fun ad adK => []) [] (fun z2 h2 => cX11_wrong_ok (cx_l X) N μ z2 h2) ok_X11_wrong lm_X11_148 atM0.1 atM0.2 rfl rfl (fun _ _ => rfl) (Nat.le_of_ble_eq_true rfl) ⟨rfl, rfl, by decide, by decide⟩ (cs0 hcs) dX11_fresh_59 (fun μ => ?_)
      refine G_iconst hX (0 : Int32) rfl dX11_fresh_62 ?_
      exact G_iret hX hQ dX11_fresh_63
set_option maxHeartbeats 4000000 in
set_option maxRecDepth 100000 in
theorem gX11_fresh_E {X : Ctx} {z : Int32 × Mem} (hX : Fx wM X cX11_fresh 4 RX11 (some .int) (rmo 8 170)) (hQ : Qx_i wM X z) (hcs : cx_cells X = 0 ∧ cx_slots X = 0) (N : Nat) (p0 : Int32) (μ : Mem) : G wM X z 0 [(0, .ref (cx_ad X 0)), (1, .int p0)] [] μ (fX11_fresh N p0 μ) := by
  unfold fX11_fresh
  refine G_aload_n hX 0 rfl rfl dX11_fresh_0 ?_
  refine G_cVi hX 0 11 (fun ad adK => []) [] (fun z2 h2 => cX11_nameHere_ok (cx_l X) N μ z2 h2) ok_X11_nameHere lm_X11_186 atM0.1 atM0.2 rfl rfl (fun _ _ => rfl) (Nat.le_of_ble_eq_true rfl) ⟨rfl, rfl, by decide, by decide⟩ (cs0 hcs) dX11_fresh_1 (fun r1 μ => ?_)
  refine G_istore_n hX [(2, .int r1), (0, .ref (cx_ad X 0)), (1, .int p0)] rfl (by decide) rfl dX11_fresh_4 ?_
  refine G_iload_n hX 0 rfl rfl dX11_fresh_5 ?_
  refine G_if_eq hX 48 (by decide) dX11_fresh_6 ?_ ?_
  · refine G_iconst hX (0 : Int32) rfl dX11_fresh_48 ?_
    exact G_sub [1, 0] rfl (gX11_fresh_49 hX hQ hcs N r1 (0 : Int32) μ)
  · refine G_iload_n hX 2 rfl rfl dX11_fresh_9 ?_
    refine G_if_eq hX 28 (by decide) dX11_fresh_10 ?_ ?_
    · refine G_aload_n hX 1 rfl rfl dX11_fresh_28 ?_
      refine gf_X11_45_M0 hX dX11_fresh_29 ?_
      refine G_aload_n hX 1 rfl rfl dX11_fresh_32 ?_
      refine gf_X11_196_M0 hX dX11_fresh_33 ?_
      refine G_nmi (fun x2 => ?_)
      refine G_iload_n hX 0 rfl rfl dX11_fresh_36 ?_
      refine G_cSi hX (fun ad adK => [.ref (ad 11), .int x2, .int r1]) [] (fun z2 h2 => cX11_find_A11_ok (cx_l X) N x2 r1 μ z2 h2) ok_X11_find lm_X11_192 rfl (fun _ _ => rfl) (Nat.le_of_ble_eq_true rfl) ⟨rfl, rfl, by decide, by decide⟩ (cs0 hcs) dX11_fresh_37 (fun r3 μ => ?_)
      refine G_iconst hX (-1 : Int32) rfl dX11_fresh_40 ?_
      refine G_icmp_eq hX 48 (by decide) dX11_fresh_41 ?_ ?_
      · refine G_iconst hX (0 : Int32) rfl dX11_fresh_48 ?_
        exact G_sub [1, 0] rfl (gX11_fresh_49 hX hQ hcs N r1 (0 : Int32) μ)
      · refine G_iconst hX (1 : Int32) rfl dX11_fresh_44 ?_
        refine G_goto hX 49 (by decide) dX11_fresh_45 ?_
        exact G_sub [1, 0] rfl (gX11_fresh_49 hX hQ hcs N r1 (1 : Int32) μ)
    · refine G_aload_n hX 1 rfl rfl dX11_fresh_13 ?_
      refine gf_X11_48_M0 hX dX11_fresh_14 ?_
      refine G_aload_n hX 1 rfl rfl dX11_fresh_17 ?_
      refine gf_X11_189_M0 hX dX11_fresh_18 ?_
      refine G_nmi (fun x4 => ?_)
      refine G_iload_n hX 0 rfl rfl dX11_fresh_21 ?_
      refine G_cSi hX (fun ad adK => [.ref (ad 12), .int x4, .int r1]) [] (fun z2 h2 => cX11_find_A12_ok (cx_l X) N x4 r1 μ z2 h2) ok_X11_find lm_X11_192 rfl (fun _ _ => rfl) (Nat.le_of_ble_eq_true rfl) ⟨rfl, rfl, by decide, by decide⟩ (cs0 hcs) dX11_fresh_22 (fun r5 μ => ?_)
      refine G_goto hX 40 (by decide) dX11_fresh_25 ?_
      refine G_iconst hX (-1 : Int32) rfl dX11_fresh_40 ?_
      refine G_icmp_eq hX 48 (by decide) dX11_fresh_41 ?_ ?_
      · refine G_iconst hX (0 : Int32) rfl dX11_fresh_48 ?_
        exact G_sub [1, 0] rfl (gX11_fresh_49 hX hQ hcs N r1 (0 : Int32) μ)
      · refine G_iconst hX (1 : Int32) rfl dX11_fresh_44 ?_
        refine G_goto hX 49 (by decide) dX11_fresh_45 ?_
        exact G_sub [1, 0] rfl (gX11_fresh_49 hX hQ hcs N r1 (1 : Int32) μ)
theorem cX11_fresh_ok (l : Launch) (N : Nat) (p0 : Int32) (μ : Mem) (z : Int32 × Mem) (h : fX11_fresh N p0 μ = some z) : Mi wM l yX11_fresh cX11_fresh 4 .int (rmo 8 170) (fun ad adK => [.ref (ad 0), .int p0]) μ z := Mi.of h (by decide +kernel) (fun _ _ => Nat.le_of_ble_eq_true rfl) (fun X hX hQ hl hcs => gX11_fresh_E hX hQ hcs N p0 μ)
/-! ===== DutyCaseModel.modelLine()V ===== -/
set_option maxHeartbeats 4000000 in
set_option maxRecDepth 100000 in
theorem gX11_modelLine_E {X : Ctx} {z : Unit × Mem} (hX : Fx wM X cX11_modelLine 5 RX11 none (rmo 9 193)) (hQ : Qx_v wM X z) (hcs : cx_cells X = 0 ∧ cx_slots X = 0) (N : Nat) (μ : Mem) : G wM X z 0 [(0, .ref (cx_ad X 0))] [] μ (fX11_modelLine N μ) := by
  unfold fX11_modelLine
  refine G_aload_n hX 0 rfl rfl dX11_modelLine_0 ?_
  refine G_iconst hX (0 : Int32) rfl dX11_modelLine_1 ?_
  refine G_cVi hX 0 11 (fun ad adK => [.int (0 : Int32)]) [] (fun z2 h2 => cX11_fresh_ok (cx_l X) N (0 : Int32) μ z2 h2) ok_X11_fresh lm_X11_199 atM0.1 atM0.2 rfl rfl (fun _ _ => rfl) (Nat.le_of_ble_eq_true rfl) ⟨rfl, rfl, by decide, by decide⟩ (cs0 hcs) dX11_modelLine_2 (fun r1 μ => ?_)
  refine G_istore_n hX [(1, .int r1), (0, .ref (cx_ad X 0))] rfl (by decide) rfl dX11_modelLine_5 ?_
  refine G_aload_n hX 1 rfl rfl dX11_modelLine_6 ?_
  refine G_iconst hX (1 : Int32) rfl dX11_modelLine_7 ?_
  refine G_sipush hX (9999 : Int32) rfl dX11_modelLine_8 ?_
  refine G_cVi hX 0 11 (fun ad adK => [.int (1 : Int32), .int (9999 : Int32)]) [] (fun z2 h2 => cX11_numberIn_ok (cx_l X) N (1 : Int32) (9999 : Int32) μ z2 h2) ok_X11_numberIn lm_X11_203 atM0.1 atM0.2 rfl rfl (fun _ _ => rfl) (Nat.le_of_ble_eq_true rfl) ⟨rfl, rfl, by decide, by decide⟩ (cs0 hcs) dX11_modelLine_11 (fun r2 μ => ?_)
  refine G_istore_n hX [(2, .int r2), (1, .int r1), (0, .ref (cx_ad X 0))] rfl (by decide) rfl dX11_modelLine_14 ?_
  refine G_aload_n hX 2 rfl rfl dX11_modelLine_15 ?_
  refine G_iconst hX (0 : Int32) rfl dX11_modelLine_16 ?_
  refine G_bipush hX (99 : Int32) rfl dX11_modelLine_17 ?_
  refine G_cVi hX 0 11 (fun ad adK => [.int (0 : Int32), .int (99 : Int32)]) [] (fun z2 h2 => cX11_numberIn_ok (cx_l X) N (0 : Int32) (99 : Int32) μ z2 h2) ok_X11_numberIn lm_X11_203 atM0.1 atM0.2 rfl rfl (fun _ _ => rfl) (Nat.le_of_ble_eq_true rfl) ⟨rfl, rfl, by decide, by decide⟩ (cs0 hcs) dX11_modelLine_19 (fun r3 μ => ?_)
  refine G_istore_n hX [(3, .int r3), (2, .int r2), (1, .int r1), (0, .ref (cx_ad X 0))] rfl (by decide) rfl dX11_modelLine_22 ?_
  refine G_aload_n hX 3 rfl rfl dX11_modelLine_23 ?_
  refine G_iconst hX (0 : Int32) rfl dX11_modelLine_24 ?_
  refine G_sipush hX (9999 : Int32) rfl dX11_modelLine_25 ?_
  refine G_cVi hX 0 11 (fun ad adK => [.int (0 : Int32), .int (9999 : Int32)]) [] (fun z2 h2 => cX11_numberIn_ok (cx_l X) N (0 : Int32) (9999 : Int32) μ z2 h2) ok_X11_numberIn lm_X11_203 atM0.1 atM0.2 rfl rfl (fun _ _ => rfl) (Nat.le_of_ble_eq_true rfl) ⟨rfl, rfl, by decide, by decide⟩ (cs0 hcs) dX11_modelLine_28 (fun r4 μ => ?_)
  refine G_istore hX [(4, .int r4), (3, .int r3), (2, .int r2), (1, .int r1), (0, .ref (cx_ad X 0))] (by decide) rfl dX11_modelLine_31 ?_
  refine G_aload_n hX 4 rfl rfl dX11_modelLine_33 ?_
  refine G_cVi hX 0 11 (fun ad adK => []) [] (fun z2 h2 => cX11_isWrong_ok (cx_l X) N μ z2 h2) ok_X11_isWrong lm_X11_140 atM0.1 atM0.2 rfl rfl (fun _ _ => rfl) (Nat.le_of_ble_eq_true rfl) ⟨rfl, rfl, by decide, by decide⟩ (cs0 hcs) dX11_modelLine_34 (fun r5 μ => ?_)
  refine G_if_eq hX 41 (by decide) dX11_modelLine_37 ?_ ?_
  · refine G_aload_n hX 4 rfl rfl dX11_modelLine_41 ?_
    refine gf_X11_45_M0 hX dX11_modelLine_42 ?_
    refine G_aload_n hX 4 rfl rfl dX11_modelLine_45 ?_
    refine gf_X11_196_M0 hX dX11_modelLine_46 ?_
    refine G_nmi (fun x6 => ?_)
    refine G_iload_n hX 3 rfl rfl dX11_modelLine_49 ?_
    refine G_sI hX atM11 dX11_modelLine_50 (fun μ => ?_)
    refine G_aload_n hX 4 rfl rfl dX11_modelLine_51 ?_
    refine gf_X11_51_M0 hX dX11_modelLine_52 ?_
    refine G_iconst hX (3 : Int32) rfl dX11_modelLine_55 ?_
    refine G_aload_n hX 4 rfl rfl dX11_modelLine_56 ?_
    refine gf_X11_196_M0 hX dX11_modelLine_57 ?_
    refine G_nmi (fun x7 => ?_)
    refine G_imul hX dX11_modelLine_60 ?_
    refine G_iload_n hX 2 rfl rfl dX11_modelLine_61 ?_
    refine G_sI hX atM13 dX11_modelLine_62 (fun μ => ?_)
    refine G_aload_n hX 4 rfl rfl dX11_modelLine_63 ?_
    refine gf_X11_51_M0 hX dX11_modelLine_64 ?_
    refine G_iconst hX (3 : Int32) rfl dX11_modelLine_67 ?_
    refine G_aload_n hX 4 rfl rfl dX11_modelLine_68 ?_
    refine gf_X11_196_M0 hX dX11_modelLine_69 ?_
    refine G_nmi (fun x8 => ?_)
    refine G_imul hX dX11_modelLine_72 ?_
    refine G_iconst hX (1 : Int32) rfl dX11_modelLine_73 ?_
    refine G_iadd hX dX11_modelLine_74 ?_
    refine G_iload_n hX 1 rfl rfl dX11_modelLine_75 ?_
    refine G_sI hX atM13 dX11_modelLine_76 (fun μ => ?_)
    refine G_aload_n hX 4 rfl rfl dX11_modelLine_77 ?_
    refine gf_X11_51_M0 hX dX11_modelLine_78 ?_
    refine G_iconst hX (3 : Int32) rfl dX11_modelLine_81 ?_
    refine G_aload_n hX 4 rfl rfl dX11_modelLine_82 ?_
    refine gf_X11_196_M0 hX dX11_modelLine_83 ?_
    refine G_nmi (fun x9 => ?_)
    refine G_imul hX dX11_modelLine_86 ?_
    refine G_iconst hX (2 : Int32) rfl dX11_modelLine_87 ?_
    refine G_iadd hX dX11_modelLine_88 ?_
    refine G_iload hX 0 rfl dX11_modelLine_89 ?_
    refine G_sI hX atM13 dX11_modelLine_91 (fun μ => ?_)
    refine G_aload_n hX 4 rfl rfl dX11_modelLine_92 ?_
    refine G_dup hX rfl dX11_modelLine_93 ?_
    refine gf_X11_196_M0 hX dX11_modelLine_94 ?_
    refine G_nmi (fun x10 => ?_)
    refine G_iconst hX (1 : Int32) rfl dX11_modelLine_97 ?_
    refine G_iadd hX dX11_modelLine_98 ?_
    refine G_nmi (fun x11 => ?_)
    refine pf_X11_196_M0 hX dX11_modelLine_99 (fun μ => ?_)
    exact G_vret hX hQ dX11_modelLine_102
  · exact G_vret hX hQ dX11_modelLine_40
theorem cX11_modelLine_ok (l : Launch) (N : Nat) (μ : Mem) (z : Unit × Mem) (h : fX11_modelLine N μ = some z) : Mv wM l yX11_modelLine cX11_modelLine 5 (rmo 9 193) (fun ad adK => [.ref (ad 0)]) μ z := Mv.of h (by decide +kernel) (fun _ _ => Nat.le_of_ble_eq_true rfl) (fun X hX hQ hl hcs => gX11_modelLine_E hX hQ hcs N μ)
/-! ===== DutyCaseModel.firmLine()V ===== -/
set_option maxHeartbeats 4000000 in
set_option maxRecDepth 100000 in
theorem gX11_firmLine_E {X : Ctx} {z : Unit × Mem} (hX : Fx wM X cX11_firmLine 2 RX11 none (rmo 9 193)) (hQ : Qx_v wM X z) (hcs : cx_cells X = 0 ∧ cx_slots X = 0) (N : Nat) (μ : Mem) : G wM X z 0 [(0, .ref (cx_ad X 0))] [] μ (fX11_firmLine N μ) := by
  unfold fX11_firmLine
  refine G_aload_n hX 0 rfl rfl dX11_firmLine_0 ?_
  refine G_iconst hX (1 : Int32) rfl dX11_firmLine_1 ?_
  refine G_cVi hX 0 11 (fun ad adK => [.int (1 : Int32)]) [] (fun z2 h2 => cX11_fresh_ok (cx_l X) N (1 : Int32) μ z2 h2) ok_X11_fresh lm_X11_199 atM0.1 atM0.2 rfl rfl (fun _ _ => rfl) (Nat.le_of_ble_eq_true rfl) ⟨rfl, rfl, by decide, by decide⟩ (cs0 hcs) dX11_firmLine_2 (fun r1 μ => ?_)
  refine G_istore_n hX [(1, .int r1), (0, .ref (cx_ad X 0))] rfl (by decide) rfl dX11_firmLine_5 ?_
  refine G_aload_n hX 1 rfl rfl dX11_firmLine_6 ?_
  refine G_cVi hX 0 11 (fun ad adK => []) [] (fun z2 h2 => cX11_isWrong_ok (cx_l X) N μ z2 h2) ok_X11_isWrong lm_X11_140 atM0.1 atM0.2 rfl rfl (fun _ _ => rfl) (Nat.le_of_ble_eq_true rfl) ⟨rfl, rfl, by decide, by decide⟩ (cs0 hcs) dX11_firmLine_7 (fun r2 μ => ?_)
  refine G_if_eq hX 14 (by decide) dX11_firmLine_10 ?_ ?_
  · refine G_aload_n hX 1 rfl rfl dX11_firmLine_14 ?_
    refine gf_X11_48_M0 hX dX11_firmLine_15 ?_
    refine G_aload_n hX 1 rfl rfl dX11_firmLine_18 ?_
    refine gf_X11_189_M0 hX dX11_firmLine_19 ?_
    refine G_nmi (fun x3 => ?_)
    refine G_iload_n hX 0 rfl rfl dX11_firmLine_22 ?_
    refine G_sI hX atM12 dX11_firmLine_23 (fun μ => ?_)
    refine G_aload_n hX 1 rfl rfl dX11_firmLine_24 ?_
    refine G_dup hX rfl dX11_firmLine_25 ?_
    refine gf_X11_189_M0 hX dX11_firmLine_26 ?_
    refine G_nmi (fun x4 => ?_)
    refine G_iconst hX (1 : Int32) rfl dX11_firmLine_29 ?_
    refine G_iadd hX dX11_firmLine_30 ?_
    refine G_nmi (fun x5 => ?_)
    refine pf_X11_189_M0 hX dX11_firmLine_31 (fun μ => ?_)
    exact G_vret hX hQ dX11_firmLine_34
  · exact G_vret hX hQ dX11_firmLine_13
theorem cX11_firmLine_ok (l : Launch) (N : Nat) (μ : Mem) (z : Unit × Mem) (h : fX11_firmLine N μ = some z) : Mv wM l yX11_firmLine cX11_firmLine 2 (rmo 9 193) (fun ad adK => [.ref (ad 0)]) μ z := Mv.of h (by decide +kernel) (fun _ _ => Nat.le_of_ble_eq_true rfl) (fun X hX hQ hl hcs => gX11_firmLine_E hX hQ hcs N μ)
/-! ===== DutyCaseModel.costLine()V ===== -/
set_option maxHeartbeats 4000000 in
set_option maxRecDepth 100000 in
theorem gX11_costLine_E {X : Ctx} {z : Unit × Mem} (hX : Fx wM X cX11_costLine 4 RX11 none (rmo 9 193)) (hQ : Qx_v wM X z) (hcs : cx_cells X = 0 ∧ cx_slots X = 0) (N : Nat) (μ : Mem) : G wM X z 0 [(0, .ref (cx_ad X 0))] [] μ (fX11_costLine N μ) := by
  unfold fX11_costLine
  refine G_aload_n hX 0 rfl rfl dX11_costLine_0 ?_
  refine G_iconst hX (1 : Int32) rfl dX11_costLine_1 ?_
  refine G_cVi hX 0 11 (fun ad adK => [.int (1 : Int32)]) [] (fun z2 h2 => cX11_told_ok (cx_l X) N (1 : Int32) μ z2 h2) ok_X11_told lm_X11_207 atM0.1 atM0.2 rfl rfl (fun _ _ => rfl) (Nat.le_of_ble_eq_true rfl) ⟨rfl, rfl, by decide, by decide⟩ (cs0 hcs) dX11_costLine_2 (fun r1 μ => ?_)
  refine G_istore_n hX [(1, .int r1), (0, .ref (cx_ad X 0))] rfl (by decide) rfl dX11_costLine_5 ?_
  refine G_aload_n hX 1 rfl rfl dX11_costLine_6 ?_
  refine G_iconst hX (0 : Int32) rfl dX11_costLine_7 ?_
  refine G_cVi hX 0 11 (fun ad adK => [.int (0 : Int32)]) [] (fun z2 h2 => cX11_told_ok (cx_l X) N (0 : Int32) μ z2 h2) ok_X11_told lm_X11_207 atM0.1 atM0.2 rfl rfl (fun _ _ => rfl) (Nat.le_of_ble_eq_true rfl) ⟨rfl, rfl, by decide, by decide⟩ (cs0 hcs) dX11_costLine_8 (fun r2 μ => ?_)
  refine G_istore_n hX [(2, .int r2), (1, .int r1), (0, .ref (cx_ad X 0))] rfl (by decide) rfl dX11_costLine_11 ?_
  refine G_aload_n hX 2 rfl rfl dX11_costLine_12 ?_
  refine G_iconst hX (1 : Int32) rfl dX11_costLine_13 ?_
  refine G_sipush hX (9999 : Int32) rfl dX11_costLine_14 ?_
  refine G_cVi hX 0 11 (fun ad adK => [.int (1 : Int32), .int (9999 : Int32)]) [] (fun z2 h2 => cX11_numberIn_ok (cx_l X) N (1 : Int32) (9999 : Int32) μ z2 h2) ok_X11_numberIn lm_X11_203 atM0.1 atM0.2 rfl rfl (fun _ _ => rfl) (Nat.le_of_ble_eq_true rfl) ⟨rfl, rfl, by decide, by decide⟩ (cs0 hcs) dX11_costLine_17 (fun r3 μ => ?_)
  refine G_istore_n hX [(3, .int r3), (2, .int r2), (1, .int r1), (0, .ref (cx_ad X 0))] rfl (by decide) rfl dX11_costLine_20 ?_
  refine G_aload_n hX 3 rfl rfl dX11_costLine_21 ?_
  refine G_cVi hX 0 11 (fun ad adK => []) [] (fun z2 h2 => cX11_isWrong_ok (cx_l X) N μ z2 h2) ok_X11_isWrong lm_X11_140 atM0.1 atM0.2 rfl rfl (fun _ _ => rfl) (Nat.le_of_ble_eq_true rfl) ⟨rfl, rfl, by decide, by decide⟩ (cs0 hcs) dX11_costLine_22 (fun r4 μ => ?_)
  refine G_if_ne hX 42 (by decide) dX11_costLine_25 ?_ ?_
  · exact G_vret hX hQ dX11_costLine_42
  · refine G_aload_n hX 3 rfl rfl dX11_costLine_28 ?_
    refine gf_X11_13_M0 hX dX11_costLine_29 ?_
    refine G_iconst hX (0 : Int32) rfl dX11_costLine_32 ?_
    refine G_bipush hX (6 : Int32) rfl dX11_costLine_33 ?_
    refine G_iload_n hX 2 rfl rfl dX11_costLine_35 ?_
    refine G_imul hX dX11_costLine_36 ?_
    refine G_iadd hX dX11_costLine_37 ?_
    refine G_iload_n hX 1 rfl rfl dX11_costLine_38 ?_
    refine G_iadd hX dX11_costLine_39 ?_
    refine G_iload_n hX 0 rfl rfl dX11_costLine_40 ?_
    refine G_sI hX atM2 dX11_costLine_41 (fun μ => ?_)
    exact G_vret hX hQ dX11_costLine_42
theorem cX11_costLine_ok (l : Launch) (N : Nat) (μ : Mem) (z : Unit × Mem) (h : fX11_costLine N μ = some z) : Mv wM l yX11_costLine cX11_costLine 4 (rmo 9 193) (fun ad adK => [.ref (ad 0)]) μ z := Mv.of h (by decide +kernel) (fun _ _ => Nat.le_of_ble_eq_true rfl) (fun X hX hQ hl hcs => gX11_costLine_E hX hQ hcs N μ)
/-! ===== DutyCaseModel.marketHere()I ===== -/
set_option maxHeartbeats 4000000 in
set_option maxRecDepth 100000 in
theorem gX11_marketHere_E {X : Ctx} {z : Int32 × Mem} (hX : Fx wM X cX11_marketHere 2 RX11 (some .int) (rmo 6 127)) (hQ : Qx_i wM X z) (hcs : cx_cells X = 0 ∧ cx_slots X = 0) (N : Nat) (μ : Mem) : G wM X z 0 [(0, .ref (cx_ad X 0))] [] μ (fX11_marketHere N μ) := by
  unfold fX11_marketHere
  refine G_aload_n hX 0 rfl rfl dX11_marketHere_0 ?_
  refine G_cVi hX 0 11 (fun ad adK => []) [] (fun z2 h2 => cX11_market_ok (cx_l X) N μ z2 h2) ok_X11_market lm_X11_174 atM0.1 atM0.2 rfl rfl (fun _ _ => rfl) (Nat.le_of_ble_eq_true rfl) ⟨rfl, rfl, by decide, by decide⟩ (cs0 hcs) dX11_marketHere_1 (fun r1 μ => ?_)
  refine G_istore_n hX [(1, .int r1), (0, .ref (cx_ad X 0))] rfl (by decide) rfl dX11_marketHere_4 ?_
  refine G_iload_n hX 0 rfl rfl dX11_marketHere_5 ?_
  refine G_iconst hX (-1 : Int32) rfl dX11_marketHere_6 ?_
  refine G_icmp_eq hX 17 (by decide) dX11_marketHere_7 ?_ ?_
  · refine G_aload_n hX 1 rfl rfl dX11_marketHere_17 ?_
    refine G_cVv hX 0 11 (fun ad adK => []) [] (fun z2 h2 => cX11_wrong_ok (cx_l X) N μ z2 h2) ok_X11_wrong lm_X11_148 atM0.1 atM0.2 rfl rfl (fun _ _ => rfl) (Nat.le_of_ble_eq_true rfl) ⟨rfl, rfl, by decide, by decide⟩ (cs0 hcs) dX11_marketHere_18 (fun μ => ?_)
    refine G_iconst hX (0 : Int32) rfl dX11_marketHere_21 ?_
    exact G_iret hX hQ dX11_marketHere_22
  · refine G_aload_n hX 1 rfl rfl dX11_marketHere_10 ?_
    refine G_cVi hX 0 11 (fun ad adK => []) [] (fun z2 h2 => cX11_isWrong_ok (cx_l X) N μ z2 h2) ok_X11_isWrong lm_X11_140 atM0.1 atM0.2 rfl rfl (fun _ _ => rfl) (Nat.le_of_ble_eq_true rfl) ⟨rfl, rfl, by decide, by decide⟩ (cs0 hcs) dX11_marketHere_11 (fun r2 μ => ?_)
    refine G_if_eq hX 23 (by decide) dX11_marketHere_14 ?_ ?_
    · refine G_aload_n hX 1 rfl rfl dX11_marketHere_23 ?_
      refine G_dup hX rfl dX11_marketHere_24 ?_
      refine gf_X11_110_M0 hX dX11_marketHere_25 ?_
      refine G_nmi (fun x3 => ?_)
      refine G_aload_n hX 1 rfl rfl dX11_marketHere_28 ?_
      refine G_cVi hX 0 11 (fun ad adK => []) [.int x3, .ref (cx_ad X 0)] (fun z2 h2 => cX11_wordLong_ok (cx_l X) N μ z2 h2) ok_X11_wordLong lm_X11_128 atM0.1 atM0.2 rfl rfl (fun _ _ => rfl) (Nat.le_of_ble_eq_true rfl) ⟨rfl, rfl, by decide, by decide⟩ (cs0 hcs) dX11_marketHere_29 (fun r4 μ => ?_)
      refine G_iadd hX dX11_marketHere_32 ?_
      refine G_nmi (fun x5 => ?_)
      refine pf_X11_110_M0 hX dX11_marketHere_33 (fun μ => ?_)
      refine G_iload_n hX 0 rfl rfl dX11_marketHere_36 ?_
      exact G_iret hX hQ dX11_marketHere_37
    · refine G_aload_n hX 1 rfl rfl dX11_marketHere_17 ?_
      refine G_cVv hX 0 11 (fun ad adK => []) [] (fun z2 h2 => cX11_wrong_ok (cx_l X) N μ z2 h2) ok_X11_wrong lm_X11_148 atM0.1 atM0.2 rfl rfl (fun _ _ => rfl) (Nat.le_of_ble_eq_true rfl) ⟨rfl, rfl, by decide, by decide⟩ (cs0 hcs) dX11_marketHere_18 (fun μ => ?_)
      refine G_iconst hX (0 : Int32) rfl dX11_marketHere_21 ?_
      exact G_iret hX hQ dX11_marketHere_22
theorem cX11_marketHere_ok (l : Launch) (N : Nat) (μ : Mem) (z : Int32 × Mem) (h : fX11_marketHere N μ = some z) : Mi wM l yX11_marketHere cX11_marketHere 2 .int (rmo 6 127) (fun ad adK => [.ref (ad 0)]) μ z := Mi.of h (by decide +kernel) (fun _ _ => Nat.le_of_ble_eq_true rfl) (fun X hX hQ hl hcs => gX11_marketHere_E hX hQ hcs N μ)
/-! ===== DutyCaseModel.sellLine()V ===== -/
set_option maxHeartbeats 4000000 in
set_option maxRecDepth 100000 in
theorem gX11_sellLine_E {X : Ctx} {z : Unit × Mem} (hX : Fx wM X cX11_sellLine 9 RX11 none (rmo 9 193)) (hQ : Qx_v wM X z) (hcs : cx_cells X = 0 ∧ cx_slots X = 0) (N : Nat) (μ : Mem) : G wM X z 0 [(0, .ref (cx_ad X 0))] [] μ (fX11_sellLine N μ) := by
  unfold fX11_sellLine
  refine G_bipush hX (35 : Int32) rfl dX11_sellLine_0 ?_
  refine G_bipush hX (8 : Int32) rfl dX11_sellLine_2 ?_
  refine G_aload_n hX 0 rfl rfl dX11_sellLine_4 ?_
  refine gf_X11_13_M0 hX dX11_sellLine_5 ?_
  refine G_bipush hX (34 : Int32) rfl dX11_sellLine_8 ?_
  refine G_aI hX atM2 dX11_sellLine_10 (fun x1 => ?_)
  refine G_imul hX dX11_sellLine_11 ?_
  refine G_iadd hX dX11_sellLine_12 ?_
  refine G_nmi (fun x2 => ?_)
  refine G_istore_n hX [(1, .int x2), (0, .ref (cx_ad X 0))] rfl (by decide) rfl dX11_sellLine_13 ?_
  refine G_aload_n hX 1 rfl rfl dX11_sellLine_14 ?_
  refine G_cVi hX 0 11 (fun ad adK => []) [] (fun z2 h2 => cX11_marketHere_ok (cx_l X) N μ z2 h2) ok_X11_marketHere lm_X11_210 atM0.1 atM0.2 rfl rfl (fun _ _ => rfl) (Nat.le_of_ble_eq_true rfl) ⟨rfl, rfl, by decide, by decide⟩ (cs0 hcs) dX11_sellLine_15 (fun r3 μ => ?_)
  refine G_istore_n hX [(2, .int r3), (1, .int x2), (0, .ref (cx_ad X 0))] rfl (by decide) rfl dX11_sellLine_18 ?_
  refine G_aload_n hX 2 rfl rfl dX11_sellLine_19 ?_
  refine G_iconst hX (1 : Int32) rfl dX11_sellLine_20 ?_
  refine G_cVi hX 0 11 (fun ad adK => [.int (1 : Int32)]) [] (fun z2 h2 => cX11_told_ok (cx_l X) N (1 : Int32) μ z2 h2) ok_X11_told lm_X11_207 atM0.1 atM0.2 rfl rfl (fun _ _ => rfl) (Nat.le_of_ble_eq_true rfl) ⟨rfl, rfl, by decide, by decide⟩ (cs0 hcs) dX11_sellLine_21 (fun r4 μ => ?_)
  refine G_istore_n hX [(3, .int r4), (2, .int r3), (1, .int x2), (0, .ref (cx_ad X 0))] rfl (by decide) rfl dX11_sellLine_24 ?_
  refine G_aload_n hX 3 rfl rfl dX11_sellLine_25 ?_
  refine G_iconst hX (0 : Int32) rfl dX11_sellLine_26 ?_
  refine G_cVi hX 0 11 (fun ad adK => [.int (0 : Int32)]) [] (fun z2 h2 => cX11_told_ok (cx_l X) N (0 : Int32) μ z2 h2) ok_X11_told lm_X11_207 atM0.1 atM0.2 rfl rfl (fun _ _ => rfl) (Nat.le_of_ble_eq_true rfl) ⟨rfl, rfl, by decide, by decide⟩ (cs0 hcs) dX11_sellLine_27 (fun r5 μ => ?_)
  refine G_istore hX [(4, .int r5), (3, .int r4), (2, .int r3), (1, .int x2), (0, .ref (cx_ad X 0))] (by decide) rfl dX11_sellLine_30 ?_
  refine G_aload_n hX 4 rfl rfl dX11_sellLine_32 ?_
  refine G_iconst hX (0 : Int32) rfl dX11_sellLine_33 ?_
  refine G_iconst hX (3 : Int32) rfl dX11_sellLine_34 ?_
  refine G_cVi hX 0 11 (fun ad adK => [.int (0 : Int32), .int (3 : Int32)]) [] (fun z2 h2 => cX11_numberIn_ok (cx_l X) N (0 : Int32) (3 : Int32) μ z2 h2) ok_X11_numberIn lm_X11_203 atM0.1 atM0.2 rfl rfl (fun _ _ => rfl) (Nat.le_of_ble_eq_true rfl) ⟨rfl, rfl, by decide, by decide⟩ (cs0 hcs) dX11_sellLine_35 (fun r6 μ => ?_)
  refine G_istore hX [(5, .int r6), (4, .int r5), (3, .int r4), (2, .int r3), (1, .int x2), (0, .ref (cx_ad X 0))] (by decide) rfl dX11_sellLine_38 ?_
  refine G_aload_n hX 5 rfl rfl dX11_sellLine_40 ?_
  refine G_iconst hX (0 : Int32) rfl dX11_sellLine_41 ?_
  refine G_bipush hX (11 : Int32) rfl dX11_sellLine_42 ?_
  refine G_cVi hX 0 11 (fun ad adK => [.int (0 : Int32), .int (11 : Int32)]) [] (fun z2 h2 => cX11_numberIn_ok (cx_l X) N (0 : Int32) (11 : Int32) μ z2 h2) ok_X11_numberIn lm_X11_203 atM0.1 atM0.2 rfl rfl (fun _ _ => rfl) (Nat.le_of_ble_eq_true rfl) ⟨rfl, rfl, by decide, by decide⟩ (cs0 hcs) dX11_sellLine_44 (fun r7 μ => ?_)
  refine G_istore hX [(6, .int r7), (5, .int r6), (4, .int r5), (3, .int r4), (2, .int r3), (1, .int x2), (0, .ref (cx_ad X 0))] (by decide) rfl dX11_sellLine_47 ?_
  refine G_aload_n hX 6 rfl rfl dX11_sellLine_49 ?_
  refine G_iconst hX (1 : Int32) rfl dX11_sellLine_50 ?_
  refine G_sipush hX (999 : Int32) rfl dX11_sellLine_51 ?_
  refine G_cVi hX 0 11 (fun ad adK => [.int (1 : Int32), .int (999 : Int32)]) [] (fun z2 h2 => cX11_numberIn_ok (cx_l X) N (1 : Int32) (999 : Int32) μ z2 h2) ok_X11_numberIn lm_X11_203 atM0.1 atM0.2 rfl rfl (fun _ _ => rfl) (Nat.le_of_ble_eq_true rfl) ⟨rfl, rfl, by decide, by decide⟩ (cs0 hcs) dX11_sellLine_54 (fun r8 μ => ?_)
  refine G_istore hX [(7, .int r8), (6, .int r7), (5, .int r6), (4, .int r5), (3, .int r4), (2, .int r3), (1, .int x2), (0, .ref (cx_ad X 0))] (by decide) rfl dX11_sellLine_57 ?_
  refine G_aload_n hX 7 rfl rfl dX11_sellLine_59 ?_
  refine G_iconst hX (1 : Int32) rfl dX11_sellLine_60 ?_
  refine G_sipush hX (9999 : Int32) rfl dX11_sellLine_61 ?_
  refine G_cVi hX 0 11 (fun ad adK => [.int (1 : Int32), .int (9999 : Int32)]) [] (fun z2 h2 => cX11_numberIn_ok (cx_l X) N (1 : Int32) (9999 : Int32) μ z2 h2) ok_X11_numberIn lm_X11_203 atM0.1 atM0.2 rfl rfl (fun _ _ => rfl) (Nat.le_of_ble_eq_true rfl) ⟨rfl, rfl, by decide, by decide⟩ (cs0 hcs) dX11_sellLine_64 (fun r9 μ => ?_)
  refine G_istore hX [(8, .int r9), (7, .int r8), (6, .int r7), (5, .int r6), (4, .int r5), (3, .int r4), (2, .int r3), (1, .int x2), (0, .ref (cx_ad X 0))] (by decide) rfl dX11_sellLine_67 ?_
  refine G_aload_n hX 8 rfl rfl dX11_sellLine_69 ?_
  refine G_cVi hX 0 11 (fun ad adK => []) [] (fun z2 h2 => cX11_isWrong_ok (cx_l X) N μ z2 h2) ok_X11_isWrong lm_X11_140 atM0.1 atM0.2 rfl rfl (fun _ _ => rfl) (Nat.le_of_ble_eq_true rfl) ⟨rfl, rfl, by decide, by decide⟩ (cs0 hcs) dX11_sellLine_70 (fun r10 μ => ?_)
  refine G_if_eq hX 77 (by decide) dX11_sellLine_73 ?_ ?_
  · refine G_aload_n hX 8 rfl rfl dX11_sellLine_77 ?_
    refine gf_X11_13_M0 hX dX11_sellLine_78 ?_
    refine G_iload_n hX 7 rfl rfl dX11_sellLine_81 ?_
    refine G_iconst hX (0 : Int32) rfl dX11_sellLine_82 ?_
    refine G_iadd hX dX11_sellLine_83 ?_
    refine G_iload_n hX 6 rfl rfl dX11_sellLine_84 ?_
    refine G_sI hX atM2 dX11_sellLine_85 (fun μ => ?_)
    refine G_aload_n hX 8 rfl rfl dX11_sellLine_86 ?_
    refine gf_X11_13_M0 hX dX11_sellLine_87 ?_
    refine G_iload_n hX 7 rfl rfl dX11_sellLine_90 ?_
    refine G_iconst hX (1 : Int32) rfl dX11_sellLine_91 ?_
    refine G_iadd hX dX11_sellLine_92 ?_
    refine G_iload_n hX 5 rfl rfl dX11_sellLine_93 ?_
    refine G_sI hX atM2 dX11_sellLine_94 (fun μ => ?_)
    refine G_aload_n hX 8 rfl rfl dX11_sellLine_95 ?_
    refine gf_X11_13_M0 hX dX11_sellLine_96 ?_
    refine G_iload_n hX 7 rfl rfl dX11_sellLine_99 ?_
    refine G_iconst hX (2 : Int32) rfl dX11_sellLine_100 ?_
    refine G_iadd hX dX11_sellLine_101 ?_
    refine G_iload hX 4 rfl dX11_sellLine_102 ?_
    refine G_sI hX atM2 dX11_sellLine_104 (fun μ => ?_)
    refine G_aload_n hX 8 rfl rfl dX11_sellLine_105 ?_
    refine gf_X11_13_M0 hX dX11_sellLine_106 ?_
    refine G_iload_n hX 7 rfl rfl dX11_sellLine_109 ?_
    refine G_iconst hX (3 : Int32) rfl dX11_sellLine_110 ?_
    refine G_iadd hX dX11_sellLine_111 ?_
    refine G_iload hX 3 rfl dX11_sellLine_112 ?_
    refine G_sI hX atM2 dX11_sellLine_114 (fun μ => ?_)
    refine G_aload_n hX 8 rfl rfl dX11_sellLine_115 ?_
    refine gf_X11_13_M0 hX dX11_sellLine_116 ?_
    refine G_iload_n hX 7 rfl rfl dX11_sellLine_119 ?_
    refine G_iconst hX (4 : Int32) rfl dX11_sellLine_120 ?_
    refine G_iadd hX dX11_sellLine_121 ?_
    refine G_iload hX 2 rfl dX11_sellLine_122 ?_
    refine G_sI hX atM2 dX11_sellLine_124 (fun μ => ?_)
    refine G_aload_n hX 8 rfl rfl dX11_sellLine_125 ?_
    refine gf_X11_13_M0 hX dX11_sellLine_126 ?_
    refine G_iload_n hX 7 rfl rfl dX11_sellLine_129 ?_
    refine G_iconst hX (5 : Int32) rfl dX11_sellLine_130 ?_
    refine G_iadd hX dX11_sellLine_131 ?_
    refine G_iload hX 1 rfl dX11_sellLine_132 ?_
    refine G_sI hX atM2 dX11_sellLine_134 (fun μ => ?_)
    refine G_aload_n hX 8 rfl rfl dX11_sellLine_135 ?_
    refine gf_X11_13_M0 hX dX11_sellLine_136 ?_
    refine G_iload_n hX 7 rfl rfl dX11_sellLine_139 ?_
    refine G_bipush hX (6 : Int32) rfl dX11_sellLine_140 ?_
    refine G_iadd hX dX11_sellLine_142 ?_
    refine G_iload hX 0 rfl dX11_sellLine_143 ?_
    refine G_sI hX atM2 dX11_sellLine_145 (fun μ => ?_)
    refine G_aload_n hX 8 rfl rfl dX11_sellLine_146 ?_
    refine gf_X11_13_M0 hX dX11_sellLine_147 ?_
    refine G_iload_n hX 7 rfl rfl dX11_sellLine_150 ?_
    refine G_bipush hX (7 : Int32) rfl dX11_sellLine_151 ?_
    refine G_iadd hX dX11_sellLine_153 ?_
    refine G_iconst hX (1 : Int32) rfl dX11_sellLine_154 ?_
    refine G_sI hX atM2 dX11_sellLine_155 (fun μ => ?_)
    refine G_aload_n hX 8 rfl rfl dX11_sellLine_156 ?_
    refine gf_X11_13_M0 hX dX11_sellLine_157 ?_
    refine G_bipush hX (34 : Int32) rfl dX11_sellLine_160 ?_
    refine G_dup2 hX rfl rfl dX11_sellLine_162 ?_
    refine G_aI hX atM2 dX11_sellLine_163 (fun x11 => ?_)
    refine G_iconst hX (1 : Int32) rfl dX11_sellLine_164 ?_
    refine G_iadd hX dX11_sellLine_165 ?_
    refine G_sI hX atM2 dX11_sellLine_166 (fun μ => ?_)
    exact G_vret hX hQ dX11_sellLine_167
  · exact G_vret hX hQ dX11_sellLine_76
theorem cX11_sellLine_ok (l : Launch) (N : Nat) (μ : Mem) (z : Unit × Mem) (h : fX11_sellLine N μ = some z) : Mv wM l yX11_sellLine cX11_sellLine 9 (rmo 9 193) (fun ad adK => [.ref (ad 0)]) μ z := Mv.of h (by decide +kernel) (fun _ _ => Nat.le_of_ble_eq_true rfl) (fun X hX hQ hl hcs => gX11_sellLine_E hX hQ hcs N μ)
/-! ===== DutyCaseModel.emits(II)V ===== -/
set_option maxHeartbeats 4000000 in
set_option maxRecDepth 100000 in
theorem gX11_emits_E {X : Ctx} {z : Unit × Mem} (hX : Fx wM X cX11_emits 3 RX11 none (rmo 1 20)) (hQ : Qx_v wM X z) (hcs : cx_cells X = 0 ∧ cx_slots X = 0) (N : Nat) (p0 : Int32) (p1 : Int32) (μ : Mem) : G wM X z 0 [(0, .ref (cx_ad X 0)), (1, .int p0), (2, .int p1)] [] μ (fX11_emits N p0 p1 μ) := by
  unfold fX11_emits
  refine G_aload_n hX 0 rfl rfl dX11_emits_0 ?_
  refine G_cVi hX 0 11 (fun ad adK => []) [] (fun z2 h2 => cX11_isWrong_ok (cx_l X) N μ z2 h2) ok_X11_isWrong lm_X11_140 atM0.1 atM0.2 rfl rfl (fun _ _ => rfl) (Nat.le_of_ble_eq_true rfl) ⟨rfl, rfl, by decide, by decide⟩ (cs0 hcs) dX11_emits_1 (fun r1 μ => ?_)
  refine G_if_eq hX 8 (by decide) dX11_emits_4 ?_ ?_
  · refine G_aload_n hX 0 rfl rfl dX11_emits_8 ?_
    refine gf_X11_54_M0 hX dX11_emits_9 ?_
    refine G_sipush hX (400 : Int32) rfl dX11_emits_12 ?_
    refine G_aload_n hX 0 rfl rfl dX11_emits_15 ?_
    refine gf_X11_213_M0 hX dX11_emits_16 ?_
    refine G_nmi (fun x2 => ?_)
    refine G_imul hX dX11_emits_19 ?_
    refine G_aload_n hX 0 rfl rfl dX11_emits_20 ?_
    refine gf_X11_60_M0 hX dX11_emits_21 ?_
    refine G_aload_n hX 0 rfl rfl dX11_emits_24 ?_
    refine gf_X11_213_M0 hX dX11_emits_25 ?_
    refine G_nmi (fun x3 => ?_)
    refine G_aI hX atM16 dX11_emits_28 (fun x4 => ?_)
    refine G_iadd hX dX11_emits_29 ?_
    refine G_iload_n hX 1 rfl rfl dX11_emits_30 ?_
    refine G_sI hX atM14 dX11_emits_31 (fun μ => ?_)
    refine G_aload_n hX 0 rfl rfl dX11_emits_32 ?_
    refine gf_X11_57_M0 hX dX11_emits_33 ?_
    refine G_sipush hX (400 : Int32) rfl dX11_emits_36 ?_
    refine G_aload_n hX 0 rfl rfl dX11_emits_39 ?_
    refine gf_X11_213_M0 hX dX11_emits_40 ?_
    refine G_nmi (fun x5 => ?_)
    refine G_imul hX dX11_emits_43 ?_
    refine G_aload_n hX 0 rfl rfl dX11_emits_44 ?_
    refine gf_X11_60_M0 hX dX11_emits_45 ?_
    refine G_aload_n hX 0 rfl rfl dX11_emits_48 ?_
    refine gf_X11_213_M0 hX dX11_emits_49 ?_
    refine G_nmi (fun x6 => ?_)
    refine G_aI hX atM16 dX11_emits_52 (fun x7 => ?_)
    refine G_iadd hX dX11_emits_53 ?_
    refine G_iload_n hX 2 rfl rfl dX11_emits_54 ?_
    refine G_sI hX atM15 dX11_emits_55 (fun μ => ?_)
    refine G_aload_n hX 0 rfl rfl dX11_emits_56 ?_
    refine gf_X11_60_M0 hX dX11_emits_57 ?_
    refine G_aload_n hX 0 rfl rfl dX11_emits_60 ?_
    refine gf_X11_213_M0 hX dX11_emits_61 ?_
    refine G_nmi (fun x8 => ?_)
    refine G_dup2 hX rfl rfl dX11_emits_64 ?_
    refine G_aI hX atM16 dX11_emits_65 (fun x9 => ?_)
    refine G_iconst hX (1 : Int32) rfl dX11_emits_66 ?_
    refine G_iadd hX dX11_emits_67 ?_
    refine G_sI hX atM16 dX11_emits_68 (fun μ => ?_)
    exact G_vret hX hQ dX11_emits_69
  · exact G_vret hX hQ dX11_emits_7
theorem cX11_emits_ok (l : Launch) (N : Nat) (p0 : Int32) (p1 : Int32) (μ : Mem) (z : Unit × Mem) (h : fX11_emits N p0 p1 μ = some z) : Mv wM l yX11_emits cX11_emits 3 (rmo 1 20) (fun ad adK => [.ref (ad 0), .int p0, .int p1]) μ z := Mv.of h (by decide +kernel) (fun _ _ => Nat.le_of_ble_eq_true rfl) (fun X hX hQ hl hcs => gX11_emits_E hX hQ hcs N p0 p1 μ)
/-! ===== DutyCaseModel.factHere()I ===== -/
set_option maxHeartbeats 4000000 in
set_option maxRecDepth 100000 in
theorem gX11_factHere_E {X : Ctx} {z : Int32 × Mem} (hX : Fx wM X cX11_factHere 1 RX11 (some .int) (rmo 5 107)) (hQ : Qx_i wM X z) (hcs : cx_cells X = 0 ∧ cx_slots X = 0) (N : Nat) (μ : Mem) : G wM X z 0 [(0, .ref (cx_ad X 0))] [] μ (fX11_factHere N μ) := by
  unfold fX11_factHere
  refine G_aload_n hX 0 rfl rfl dX11_factHere_0 ?_
  refine G_ldcS hX (tx := "q") 30 (by decide +kernel) dX11_factHere_1 ?_
  refine G_cVi hX 0 11 (fun ad adK => [.ref (adK 30)]) [] (fun z2 h2 => cX11_isWord_ok (cx_l X) N 30 μ z2 h2) ok_X11_isWord lm_X11_144 atM0.1 atM0.2 rfl rfl (fun _ _ => rfl) (Nat.le_of_ble_eq_true rfl) ⟨rfl, rfl, by decide, by decide⟩ (cs0 hcs) dX11_factHere_3 (fun r1 μ => ?_)
  refine G_if_eq hX 13 (by decide) dX11_factHere_6 ?_ ?_
  · refine G_aload_n hX 0 rfl rfl dX11_factHere_13 ?_
    refine G_ldcS hX (tx := "p") 31 (by decide +kernel) dX11_factHere_14 ?_
    refine G_cVi hX 0 11 (fun ad adK => [.ref (adK 31)]) [] (fun z2 h2 => cX11_isWord_ok (cx_l X) N 31 μ z2 h2) ok_X11_isWord lm_X11_144 atM0.1 atM0.2 rfl rfl (fun _ _ => rfl) (Nat.le_of_ble_eq_true rfl) ⟨rfl, rfl, by decide, by decide⟩ (cs0 hcs) dX11_factHere_16 (fun r2 μ => ?_)
    refine G_if_eq hX 26 (by decide) dX11_factHere_19 ?_ ?_
    · refine G_aload_n hX 0 rfl rfl dX11_factHere_26 ?_
      refine G_ldcS hX (tx := "l") 32 (by decide +kernel) dX11_factHere_27 ?_
      refine G_cVi hX 0 11 (fun ad adK => [.ref (adK 32)]) [] (fun z2 h2 => cX11_isWord_ok (cx_l X) N 32 μ z2 h2) ok_X11_isWord lm_X11_144 atM0.1 atM0.2 rfl rfl (fun _ _ => rfl) (Nat.le_of_ble_eq_true rfl) ⟨rfl, rfl, by decide, by decide⟩ (cs0 hcs) dX11_factHere_29 (fun r3 μ => ?_)
      refine G_if_eq hX 39 (by decide) dX11_factHere_32 ?_ ?_
      · refine G_aload_n hX 0 rfl rfl dX11_factHere_39 ?_
        refine G_ldcS hX (tx := "m") 33 (by decide +kernel) dX11_factHere_40 ?_
        refine G_cVi hX 0 11 (fun ad adK => [.ref (adK 33)]) [] (fun z2 h2 => cX11_isWord_ok (cx_l X) N 33 μ z2 h2) ok_X11_isWord lm_X11_144 atM0.1 atM0.2 rfl rfl (fun _ _ => rfl) (Nat.le_of_ble_eq_true rfl) ⟨rfl, rfl, by decide, by decide⟩ (cs0 hcs) dX11_factHere_42 (fun r4 μ => ?_)
        refine G_if_eq hX 52 (by decide) dX11_factHere_45 ?_ ?_
        · refine G_aload_n hX 0 rfl rfl dX11_factHere_52 ?_
          refine G_ldcS hX (tx := "c") 34 (by decide +kernel) dX11_factHere_53 ?_
          refine G_cVi hX 0 11 (fun ad adK => [.ref (adK 34)]) [] (fun z2 h2 => cX11_isWord_ok (cx_l X) N 34 μ z2 h2) ok_X11_isWord lm_X11_144 atM0.1 atM0.2 rfl rfl (fun _ _ => rfl) (Nat.le_of_ble_eq_true rfl) ⟨rfl, rfl, by decide, by decide⟩ (cs0 hcs) dX11_factHere_55 (fun r5 μ => ?_)
          refine G_if_eq hX 65 (by decide) dX11_factHere_58 ?_ ?_
          · refine G_iconst hX (-1 : Int32) rfl dX11_factHere_65 ?_
            exact G_iret hX hQ dX11_factHere_66
          · refine G_iconst hX (4 : Int32) rfl dX11_factHere_61 ?_
            refine G_goto hX 66 (by decide) dX11_factHere_62 ?_
            exact G_iret hX hQ dX11_factHere_66
        · refine G_iconst hX (3 : Int32) rfl dX11_factHere_48 ?_
          refine G_goto hX 66 (by decide) dX11_factHere_49 ?_
          exact G_iret hX hQ dX11_factHere_66
      · refine G_iconst hX (2 : Int32) rfl dX11_factHere_35 ?_
        refine G_goto hX 66 (by decide) dX11_factHere_36 ?_
        exact G_iret hX hQ dX11_factHere_66
    · refine G_iconst hX (1 : Int32) rfl dX11_factHere_22 ?_
      refine G_goto hX 66 (by decide) dX11_factHere_23 ?_
      exact G_iret hX hQ dX11_factHere_66
  · refine G_iconst hX (0 : Int32) rfl dX11_factHere_9 ?_
    refine G_goto hX 66 (by decide) dX11_factHere_10 ?_
    exact G_iret hX hQ dX11_factHere_66
theorem cX11_factHere_ok (l : Launch) (N : Nat) (μ : Mem) (z : Int32 × Mem) (h : fX11_factHere N μ = some z) : Mi wM l yX11_factHere cX11_factHere 1 .int (rmo 5 107) (fun ad adK => [.ref (ad 0)]) μ z := Mi.of h (by decide +kernel) (fun _ _ => Nat.le_of_ble_eq_true rfl) (fun X hX hQ hl hcs => gX11_factHere_E hX hQ hcs N μ)
/-! ===== DutyCaseModel.binds(I)I ===== -/
set_option maxHeartbeats 4000000 in
set_option maxRecDepth 100000 in
theorem gX11_binds_E {X : Ctx} {z : Int32 × Mem} (hX : Fx wM X cX11_binds 1 RX11 (some .int) (rmo 0 0)) (hQ : Qx_i wM X z) (hcs : cx_cells X = 0 ∧ cx_slots X = 0) (N : Nat) (p0 : Int32) (μ : Mem) : G wM X z 0 [(0, .int p0)] [] μ (fX11_binds N p0 μ) := by
  unfold fX11_binds
  refine G_iload_n hX 0 rfl rfl dX11_binds_0 ?_
  refine G_bipush hX (9 : Int32) rfl dX11_binds_1 ?_
  refine G_icmp_ne hX 10 (by decide) dX11_binds_3 ?_ ?_
  · refine G_iload_n hX 0 rfl rfl dX11_binds_10 ?_
    refine G_iconst hX (4 : Int32) rfl dX11_binds_11 ?_
    refine G_icmp_ge hX 19 (by decide) dX11_binds_12 ?_ ?_
    · refine G_iconst hX (2 : Int32) rfl dX11_binds_19 ?_
      exact G_iret hX hQ dX11_binds_20
    · refine G_iconst hX (1 : Int32) rfl dX11_binds_15 ?_
      refine G_goto hX 20 (by decide) dX11_binds_16 ?_
      exact G_iret hX hQ dX11_binds_20
  · refine G_iconst hX (0 : Int32) rfl dX11_binds_6 ?_
    refine G_goto hX 20 (by decide) dX11_binds_7 ?_
    exact G_iret hX hQ dX11_binds_20
theorem cX11_binds_ok (l : Launch) (N : Nat) (p0 : Int32) (μ : Mem) (z : Int32 × Mem) (h : fX11_binds N p0 μ = some z) : Mi wM l yX11_binds cX11_binds 1 .int (rmo 0 0) (fun ad adK => [.int p0]) μ z := Mi.of h (by decide +kernel) (fun _ _ => Nat.le_of_ble_eq_true rfl) (fun X hX hQ hl hcs => gX11_binds_E hX hQ hcs N p0 μ)
/-! ===== DutyCaseModel.settles(I)V ===== -/
set_option maxHeartbeats 4000000 in
set_option maxRecDepth 100000 in
theorem gX11_settles_0 {X : Ctx} {z : Unit × Mem} (hX : Fx wM X cX11_settles 2 RX11 none (rmo 2 42)) (hQ : Qx_v wM X z) (hcs : cx_cells X = 0 ∧ cx_slots X = 0) (N : Nat) : ∀ (n : Nat) (v1 : Int32) (μ : Mem), G wM X z 0 [(0, .ref (cx_ad X 0)), (1, .int v1)] [] μ (fX11_settles_0 N n v1 μ) := by
  intro n
  induction n with
  | zero =>
    intro v1 μ
    exact G_none
  | succ n ih =>
    intro v1 μ
    unfold fX11_settles_0
    refine G_aload_n hX 0 rfl rfl dX11_settles_0 ?_
    refine gf_X11_226_M0 hX dX11_settles_1 ?_
    refine G_nmi (fun x1 => ?_)
    refine G_if_le hX 52 (by decide) dX11_settles_4 ?_ ?_
    · exact G_vret hX hQ dX11_settles_52
    · refine G_aload_n hX 0 rfl rfl dX11_settles_7 ?_
      refine gf_X11_63_M0 hX dX11_settles_8 ?_
      refine G_aload_n hX 0 rfl rfl dX11_settles_11 ?_
      refine gf_X11_226_M0 hX dX11_settles_12 ?_
      refine G_nmi (fun x2 => ?_)
      refine G_iconst hX (1 : Int32) rfl dX11_settles_15 ?_
      refine G_isub hX dX11_settles_16 ?_
      refine G_aI hX atM17 dX11_settles_17 (fun x3 => ?_)
      refine G_cSi hX (fun ad adK => [.int x3]) [] (fun z2 h2 => cX11_binds_ok (cx_l X) N x3 μ z2 h2) ok_X11_binds lm_X11_229 rfl (fun _ _ => rfl) (Nat.le_of_ble_eq_true rfl) ⟨rfl, rfl, by decide, by decide⟩ (cs0 hcs) dX11_settles_18 (fun r4 μ => ?_)
      refine G_iload_n hX 1 rfl rfl dX11_settles_21 ?_
      refine G_icmp_lt hX 52 (by decide) dX11_settles_22 ?_ ?_
      · exact G_vret hX hQ dX11_settles_52
      · refine G_aload_n hX 0 rfl rfl dX11_settles_25 ?_
        refine G_dup hX rfl dX11_settles_26 ?_
        refine gf_X11_226_M0 hX dX11_settles_27 ?_
        refine G_nmi (fun x5 => ?_)
        refine G_iconst hX (1 : Int32) rfl dX11_settles_30 ?_
        refine G_isub hX dX11_settles_31 ?_
        refine G_nmi (fun x6 => ?_)
        refine pf_X11_226_M0 hX dX11_settles_32 (fun μ => ?_)
        refine G_aload_n hX 0 rfl rfl dX11_settles_35 ?_
        refine G_aload_n hX 0 rfl rfl dX11_settles_36 ?_
        refine gf_X11_63_M0 hX dX11_settles_37 ?_
        refine G_aload_n hX 0 rfl rfl dX11_settles_40 ?_
        refine gf_X11_226_M0 hX dX11_settles_41 ?_
        refine G_nmi (fun x7 => ?_)
        refine G_aI hX atM17 dX11_settles_44 (fun x8 => ?_)
        refine G_iconst hX (0 : Int32) rfl dX11_settles_45 ?_
        refine G_cVv hX 0 11 (fun ad adK => [.int x8, .int (0 : Int32)]) [] (fun z2 h2 => cX11_emits_ok (cx_l X) N x8 (0 : Int32) μ z2 h2) ok_X11_emits lm_X11_233 atM0.1 atM0.2 rfl rfl (fun _ _ => rfl) (Nat.le_of_ble_eq_true rfl) ⟨rfl, rfl, by decide, by decide⟩ (cs0 hcs) dX11_settles_46 (fun μ => ?_)
        refine G_goto hX 0 (by decide) dX11_settles_49 ?_
        exact G_sub [0, 1] rfl (ih v1 μ)
set_option maxHeartbeats 4000000 in
set_option maxRecDepth 100000 in
theorem gX11_settles_E {X : Ctx} {z : Unit × Mem} (hX : Fx wM X cX11_settles 2 RX11 none (rmo 2 42)) (hQ : Qx_v wM X z) (hcs : cx_cells X = 0 ∧ cx_slots X = 0) (N : Nat) (p0 : Int32) (μ : Mem) : G wM X z 0 [(0, .ref (cx_ad X 0)), (1, .int p0)] [] μ (fX11_settles N p0 μ) := by
  unfold fX11_settles
  exact G_sub [0, 1] rfl (gX11_settles_0 hX hQ hcs N N p0 μ)
theorem cX11_settles_ok (l : Launch) (N : Nat) (p0 : Int32) (μ : Mem) (z : Unit × Mem) (h : fX11_settles N p0 μ = some z) : Mv wM l yX11_settles cX11_settles 2 (rmo 2 42) (fun ad adK => [.ref (ad 0), .int p0]) μ z := Mv.of h (by decide +kernel) (fun _ _ => Nat.le_of_ble_eq_true rfl) (fun X hX hQ hl hcs => gX11_settles_E hX hQ hcs N p0 μ)
/-! ===== DutyCaseModel.pushes(I)V ===== -/
set_option maxHeartbeats 4000000 in
set_option maxRecDepth 100000 in
theorem gX11_pushes_E {X : Ctx} {z : Unit × Mem} (hX : Fx wM X cX11_pushes 2 RX11 none (rmo 0 0)) (hQ : Qx_v wM X z) (hcs : cx_cells X = 0 ∧ cx_slots X = 0) (N : Nat) (p0 : Int32) (μ : Mem) : G wM X z 0 [(0, .ref (cx_ad X 0)), (1, .int p0)] [] μ (fX11_pushes N p0 μ) := by
  unfold fX11_pushes
  refine G_aload_n hX 0 rfl rfl dX11_pushes_0 ?_
  refine gf_X11_63_M0 hX dX11_pushes_1 ?_
  refine G_aload_n hX 0 rfl rfl dX11_pushes_4 ?_
  refine gf_X11_226_M0 hX dX11_pushes_5 ?_
  refine G_nmi (fun x1 => ?_)
  refine G_iload_n hX 1 rfl rfl dX11_pushes_8 ?_
  refine G_sI hX atM17 dX11_pushes_9 (fun μ => ?_)
  refine G_aload_n hX 0 rfl rfl dX11_pushes_10 ?_
  refine G_dup hX rfl dX11_pushes_11 ?_
  refine gf_X11_226_M0 hX dX11_pushes_12 ?_
  refine G_nmi (fun x2 => ?_)
  refine G_iconst hX (1 : Int32) rfl dX11_pushes_15 ?_
  refine G_iadd hX dX11_pushes_16 ?_
  refine G_nmi (fun x3 => ?_)
  refine pf_X11_226_M0 hX dX11_pushes_17 (fun μ => ?_)
  refine G_aload_n hX 0 rfl rfl dX11_pushes_20 ?_
  refine G_dup hX rfl dX11_pushes_21 ?_
  refine gf_X11_110_M0 hX dX11_pushes_22 ?_
  refine G_nmi (fun x4 => ?_)
  refine G_iconst hX (1 : Int32) rfl dX11_pushes_25 ?_
  refine G_iadd hX dX11_pushes_26 ?_
  refine G_nmi (fun x5 => ?_)
  refine pf_X11_110_M0 hX dX11_pushes_27 (fun μ => ?_)
  exact G_vret hX hQ dX11_pushes_30
theorem cX11_pushes_ok (l : Launch) (N : Nat) (p0 : Int32) (μ : Mem) (z : Unit × Mem) (h : fX11_pushes N p0 μ = some z) : Mv wM l yX11_pushes cX11_pushes 2 (rmo 0 0) (fun ad adK => [.ref (ad 0), .int p0]) μ z := Mv.of h (by decide +kernel) (fun _ _ => Nat.le_of_ble_eq_true rfl) (fun X hX hQ hl hcs => gX11_pushes_E hX hQ hcs N p0 μ)
/-! ===== DutyCaseModel.opensOrAtom()Z ===== -/
set_option maxHeartbeats 4000000 in
set_option maxRecDepth 100000 in
theorem gX11_opensOrAtom_E {X : Ctx} {z : Int32 × Mem} (hX : Fx wM X cX11_opensOrAtom 3 RX11 (some .boolean) (rmo 6 127)) (hQ : Qx_i wM X z) (hcs : cx_cells X = 0 ∧ cx_slots X = 0) (N : Nat) (μ : Mem) : G wM X z 0 [(0, .ref (cx_ad X 0))] [] μ (fX11_opensOrAtom N μ) := by
  unfold fX11_opensOrAtom
  refine G_aload_n hX 0 rfl rfl dX11_opensOrAtom_0 ?_
  refine G_cVi hX 0 11 (fun ad adK => []) [] (fun z2 h2 => cX11_here_ok (cx_l X) N μ z2 h2) ok_X11_here lm_X11_120 atM0.1 atM0.2 rfl rfl (fun _ _ => rfl) (Nat.le_of_ble_eq_true rfl) ⟨rfl, rfl, by decide, by decide⟩ (cs0 hcs) dX11_opensOrAtom_1 (fun r1 μ => ?_)
  refine G_bipush hX (40 : Int32) rfl dX11_opensOrAtom_4 ?_
  refine G_icmp_ne hX 42 (by decide) dX11_opensOrAtom_6 ?_ ?_
  · refine G_aload_n hX 0 rfl rfl dX11_opensOrAtom_42 ?_
    refine G_cVi hX 0 11 (fun ad adK => []) [] (fun z2 h2 => cX11_factHere_ok (cx_l X) N μ z2 h2) ok_X11_factHere lm_X11_243 atM0.1 atM0.2 rfl rfl (fun _ _ => rfl) (Nat.le_of_ble_eq_true rfl) ⟨rfl, rfl, by decide, by decide⟩ (cs0 hcs) dX11_opensOrAtom_43 (fun r2 μ => ?_)
    refine G_istore_n hX [(1, .int r2), (0, .ref (cx_ad X 0))] rfl (by decide) rfl dX11_opensOrAtom_46 ?_
    refine G_iload_n hX 0 rfl rfl dX11_opensOrAtom_47 ?_
    refine G_iconst hX (-1 : Int32) rfl dX11_opensOrAtom_48 ?_
    refine G_icmp_eq hX 70 (by decide) dX11_opensOrAtom_49 ?_ ?_
    · refine G_aload_n hX 1 rfl rfl dX11_opensOrAtom_70 ?_
      refine G_iconst hX (4 : Int32) rfl dX11_opensOrAtom_71 ?_
      refine G_iconst hX (0 : Int32) rfl dX11_opensOrAtom_72 ?_
      refine G_sipush hX (9999 : Int32) rfl dX11_opensOrAtom_73 ?_
      refine G_cVi hX 0 11 (fun ad adK => [.int (4 : Int32), .int (0 : Int32), .int (9999 : Int32)]) [] (fun z2 h2 => cX11_number_ok (cx_l X) N (4 : Int32) (0 : Int32) (9999 : Int32) μ z2 h2) ok_X11_number lm_X11_154 atM0.1 atM0.2 rfl rfl (fun _ _ => rfl) (Nat.le_of_ble_eq_true rfl) ⟨rfl, rfl, by decide, by decide⟩ (cs0 hcs) dX11_opensOrAtom_76 (fun r3 μ => ?_)
      refine G_istore_n hX [(2, .int r3), (1, .int r2), (0, .ref (cx_ad X 0))] rfl (by decide) rfl dX11_opensOrAtom_79 ?_
      refine G_aload_n hX 2 rfl rfl dX11_opensOrAtom_80 ?_
      refine G_iconst hX (0 : Int32) rfl dX11_opensOrAtom_81 ?_
      refine G_iload_n hX 0 rfl rfl dX11_opensOrAtom_82 ?_
      refine G_cVv hX 0 11 (fun ad adK => [.int (0 : Int32), .int r3]) [] (fun z2 h2 => cX11_emits_ok (cx_l X) N (0 : Int32) r3 μ z2 h2) ok_X11_emits lm_X11_233 atM0.1 atM0.2 rfl rfl (fun _ _ => rfl) (Nat.le_of_ble_eq_true rfl) ⟨rfl, rfl, by decide, by decide⟩ (cs0 hcs) dX11_opensOrAtom_83 (fun μ => ?_)
      refine G_iconst hX (0 : Int32) rfl dX11_opensOrAtom_86 ?_
      exact G_zret hX hQ rfl dX11_opensOrAtom_87
    · refine G_aload_n hX 1 rfl rfl dX11_opensOrAtom_52 ?_
      refine G_dup hX rfl dX11_opensOrAtom_53 ?_
      refine gf_X11_110_M0 hX dX11_opensOrAtom_54 ?_
      refine G_nmi (fun x4 => ?_)
      refine G_iconst hX (1 : Int32) rfl dX11_opensOrAtom_57 ?_
      refine G_iadd hX dX11_opensOrAtom_58 ?_
      refine G_nmi (fun x5 => ?_)
      refine pf_X11_110_M0 hX dX11_opensOrAtom_59 (fun μ => ?_)
      refine G_aload_n hX 1 rfl rfl dX11_opensOrAtom_62 ?_
      refine G_iconst hX (1 : Int32) rfl dX11_opensOrAtom_63 ?_
      refine G_iload_n hX 0 rfl rfl dX11_opensOrAtom_64 ?_
      refine G_cVv hX 0 11 (fun ad adK => [.int (1 : Int32), .int r2]) [] (fun z2 h2 => cX11_emits_ok (cx_l X) N (1 : Int32) r2 μ z2 h2) ok_X11_emits lm_X11_233 atM0.1 atM0.2 rfl rfl (fun _ _ => rfl) (Nat.le_of_ble_eq_true rfl) ⟨rfl, rfl, by decide, by decide⟩ (cs0 hcs) dX11_opensOrAtom_65 (fun μ => ?_)
      refine G_iconst hX (0 : Int32) rfl dX11_opensOrAtom_68 ?_
      exact G_zret hX hQ rfl dX11_opensOrAtom_69
  · refine G_aload_n hX 0 rfl rfl dX11_opensOrAtom_9 ?_
    refine gf_X11_237_M0 hX dX11_opensOrAtom_10 ?_
    refine G_nmi (fun x6 => ?_)
    refine G_bipush hX (6 : Int32) rfl dX11_opensOrAtom_13 ?_
    refine G_icmp_ne hX 24 (by decide) dX11_opensOrAtom_15 ?_ ?_
    · refine G_aload_n hX 0 rfl rfl dX11_opensOrAtom_24 ?_
      refine G_dup hX rfl dX11_opensOrAtom_25 ?_
      refine gf_X11_237_M0 hX dX11_opensOrAtom_26 ?_
      refine G_nmi (fun x7 => ?_)
      refine G_iconst hX (1 : Int32) rfl dX11_opensOrAtom_29 ?_
      refine G_iadd hX dX11_opensOrAtom_30 ?_
      refine G_nmi (fun x8 => ?_)
      refine pf_X11_237_M0 hX dX11_opensOrAtom_31 (fun μ => ?_)
      refine G_aload_n hX 0 rfl rfl dX11_opensOrAtom_34 ?_
      refine G_bipush hX (9 : Int32) rfl dX11_opensOrAtom_35 ?_
      refine G_cVv hX 0 11 (fun ad adK => [.int (9 : Int32)]) [] (fun z2 h2 => cX11_pushes_ok (cx_l X) N (9 : Int32) μ z2 h2) ok_X11_pushes lm_X11_240 atM0.1 atM0.2 rfl rfl (fun _ _ => rfl) (Nat.le_of_ble_eq_true rfl) ⟨rfl, rfl, by decide, by decide⟩ (cs0 hcs) dX11_opensOrAtom_37 (fun μ => ?_)
      refine G_iconst hX (1 : Int32) rfl dX11_opensOrAtom_40 ?_
      exact G_zret hX hQ rfl dX11_opensOrAtom_41
    · refine G_aload_n hX 0 rfl rfl dX11_opensOrAtom_18 ?_
      refine G_cVv hX 0 11 (fun ad adK => []) [] (fun z2 h2 => cX11_wrong_ok (cx_l X) N μ z2 h2) ok_X11_wrong lm_X11_148 atM0.1 atM0.2 rfl rfl (fun _ _ => rfl) (Nat.le_of_ble_eq_true rfl) ⟨rfl, rfl, by decide, by decide⟩ (cs0 hcs) dX11_opensOrAtom_19 (fun μ => ?_)
      refine G_iconst hX (1 : Int32) rfl dX11_opensOrAtom_22 ?_
      exact G_zret hX hQ rfl dX11_opensOrAtom_23
theorem cX11_opensOrAtom_ok (l : Launch) (N : Nat) (μ : Mem) (z : Int32 × Mem) (h : fX11_opensOrAtom N μ = some z) : Mi wM l yX11_opensOrAtom cX11_opensOrAtom 3 .boolean (rmo 6 127) (fun ad adK => [.ref (ad 0)]) μ z := Mi.of h (by decide +kernel) (fun _ _ => Nat.le_of_ble_eq_true rfl) (fun X hX hQ hl hcs => gX11_opensOrAtom_E hX hQ hcs N μ)
/-! ===== DutyCaseModel.signOf(I)I ===== -/
set_option maxHeartbeats 4000000 in
set_option maxRecDepth 100000 in
theorem gX11_signOf_E {X : Ctx} {z : Int32 × Mem} (hX : Fx wM X cX11_signOf 1 RX11 (some .int) (rmo 0 0)) (hQ : Qx_i wM X z) (hcs : cx_cells X = 0 ∧ cx_slots X = 0) (N : Nat) (p0 : Int32) (μ : Mem) : G wM X z 0 [(0, .int p0)] [] μ (fX11_signOf N p0 μ) := by
  unfold fX11_signOf
  refine G_iload_n hX 0 rfl rfl dX11_signOf_0 ?_
  refine G_bipush hX (43 : Int32) rfl dX11_signOf_1 ?_
  refine G_icmp_ne hX 10 (by decide) dX11_signOf_3 ?_ ?_
  · refine G_iload_n hX 0 rfl rfl dX11_signOf_10 ?_
    refine G_bipush hX (45 : Int32) rfl dX11_signOf_11 ?_
    refine G_icmp_ne hX 20 (by decide) dX11_signOf_13 ?_ ?_
    · refine G_iload_n hX 0 rfl rfl dX11_signOf_20 ?_
      refine G_bipush hX (42 : Int32) rfl dX11_signOf_21 ?_
      refine G_icmp_ne hX 30 (by decide) dX11_signOf_23 ?_ ?_
      · refine G_iload_n hX 0 rfl rfl dX11_signOf_30 ?_
        refine G_bipush hX (47 : Int32) rfl dX11_signOf_31 ?_
        refine G_icmp_ne hX 40 (by decide) dX11_signOf_33 ?_ ?_
        · refine G_iconst hX (-1 : Int32) rfl dX11_signOf_40 ?_
          exact G_iret hX hQ dX11_signOf_41
        · refine G_iconst hX (5 : Int32) rfl dX11_signOf_36 ?_
          refine G_goto hX 41 (by decide) dX11_signOf_37 ?_
          exact G_iret hX hQ dX11_signOf_41
      · refine G_iconst hX (4 : Int32) rfl dX11_signOf_26 ?_
        refine G_goto hX 41 (by decide) dX11_signOf_27 ?_
        exact G_iret hX hQ dX11_signOf_41
    · refine G_iconst hX (3 : Int32) rfl dX11_signOf_16 ?_
      refine G_goto hX 41 (by decide) dX11_signOf_17 ?_
      exact G_iret hX hQ dX11_signOf_41
  · refine G_iconst hX (2 : Int32) rfl dX11_signOf_6 ?_
    refine G_goto hX 41 (by decide) dX11_signOf_7 ?_
    exact G_iret hX hQ dX11_signOf_41
theorem cX11_signOf_ok (l : Launch) (N : Nat) (p0 : Int32) (μ : Mem) (z : Int32 × Mem) (h : fX11_signOf N p0 μ = some z) : Mi wM l yX11_signOf cX11_signOf 1 .int (rmo 0 0) (fun ad adK => [.int p0]) μ z := Mi.of h (by decide +kernel) (fun _ _ => Nat.le_of_ble_eq_true rfl) (fun X hX hQ hl hcs => gX11_signOf_E hX hQ hcs N p0 μ)
/-! ===== DutyCaseModel.sumHere()V ===== -/
set_option maxHeartbeats 4000000 in
set_option maxRecDepth 100000 in
theorem gX11_sumHere_130 {X : Ctx} {z : Unit × Mem} (hX : Fx wM X cX11_sumHere 4 RX11 none (rmo 7 149)) (hQ : Qx_v wM X z) (hcs : cx_cells X = 0 ∧ cx_slots X = 0) (N : Nat) (μ : Mem) : G wM X z 130 [(0, .ref (cx_ad X 0))] [] μ (fX11_sumHere_130 N μ) := by
  unfold fX11_sumHere_130
  refine G_aload_n hX 0 rfl rfl dX11_sumHere_130 ?_
  refine G_iconst hX (1 : Int32) rfl dX11_sumHere_131 ?_
  refine G_cVv hX 0 11 (fun ad adK => [.int (1 : Int32)]) [] (fun z2 h2 => cX11_settles_ok (cx_l X) N (1 : Int32) μ z2 h2) ok_X11_settles lm_X11_252 atM0.1 atM0.2 rfl rfl (fun _ _ => rfl) (Nat.le_of_ble_eq_true rfl) ⟨rfl, rfl, by decide, by decide⟩ (cs0 hcs) dX11_sumHere_132 (fun μ => ?_)
  exact G_vret hX hQ dX11_sumHere_135
set_option maxHeartbeats 4000000 in
set_option maxRecDepth 100000 in
theorem gX11_sumHere_9 {X : Ctx} {z : Unit × Mem} (hX : Fx wM X cX11_sumHere 4 RX11 none (rmo 7 149)) (hQ : Qx_v wM X z) (hcs : cx_cells X = 0 ∧ cx_slots X = 0) (N : Nat) : ∀ (n : Nat) (v1 : Int32) (v2 : Int32) (μ : Mem), G wM X z 9 [(0, .ref (cx_ad X 0)), (1, .int v1), (2, .int v2)] [] μ (fX11_sumHere_9 N n v1 v2 μ) := by
  intro n
  induction n with
  | zero =>
    intro v1 v2 μ
    exact G_none
  | succ n ih =>
    intro v1 v2 μ
    unfold fX11_sumHere_9
    refine G_iload_n hX 2 rfl rfl dX11_sumHere_9 ?_
    refine G_if_eq hX 130 (by decide) dX11_sumHere_10 ?_ ?_
    · exact G_sub [0] rfl (gX11_sumHere_130 hX hQ hcs N μ)
    · refine G_aload_n hX 0 rfl rfl dX11_sumHere_13 ?_
      refine G_cVi hX 0 11 (fun ad adK => []) [] (fun z2 h2 => cX11_isWrong_ok (cx_l X) N μ z2 h2) ok_X11_isWrong lm_X11_140 atM0.1 atM0.2 rfl rfl (fun _ _ => rfl) (Nat.le_of_ble_eq_true rfl) ⟨rfl, rfl, by decide, by decide⟩ (cs0 hcs) dX11_sumHere_14 (fun r1 μ => ?_)
      refine G_if_ne hX 130 (by decide) dX11_sumHere_17 ?_ ?_
      · exact G_sub [0] rfl (gX11_sumHere_130 hX hQ hcs N μ)
      · refine G_aload_n hX 0 rfl rfl dX11_sumHere_20 ?_
        refine G_cVi hX 0 11 (fun ad adK => []) [] (fun z2 h2 => cX11_here_ok (cx_l X) N μ z2 h2) ok_X11_here lm_X11_120 atM0.1 atM0.2 rfl rfl (fun _ _ => rfl) (Nat.le_of_ble_eq_true rfl) ⟨rfl, rfl, by decide, by decide⟩ (cs0 hcs) dX11_sumHere_21 (fun r2 μ => ?_)
        refine G_istore_n hX [(3, .int r2), (0, .ref (cx_ad X 0)), (1, .int v1), (2, .int v2)] rfl (by decide) rfl dX11_sumHere_24 ?_
        refine G_iload_n hX 2 rfl rfl dX11_sumHere_25 ?_
        refine G_if_eq hX 37 (by decide) dX11_sumHere_26 ?_ ?_
        · refine G_iload_n hX 0 rfl rfl dX11_sumHere_37 ?_
          refine G_cSi hX (fun ad adK => [.int r2]) [] (fun z2 h2 => cX11_signOf_ok (cx_l X) N r2 μ z2 h2) ok_X11_signOf lm_X11_249 rfl (fun _ _ => rfl) (Nat.le_of_ble_eq_true rfl) ⟨rfl, rfl, by decide, by decide⟩ (cs0 hcs) dX11_sumHere_38 (fun r3 μ => ?_)
          refine G_iconst hX (-1 : Int32) rfl dX11_sumHere_41 ?_
          refine G_icmp_eq hX 69 (by decide) dX11_sumHere_42 ?_ ?_
          · refine G_aload_n hX 1 rfl rfl dX11_sumHere_69 ?_
            refine gf_X11_237_M0 hX dX11_sumHere_70 ?_
            refine G_nmi (fun x4 => ?_)
            refine G_if_le hX 125 (by decide) dX11_sumHere_73 ?_ ?_
            · refine G_iconst hX (0 : Int32) rfl dX11_sumHere_125 ?_
              refine G_istore_n hX [(2, .int (0 : Int32)), (3, .int r2), (0, .ref (cx_ad X 0)), (1, .int v1)] rfl (by decide) rfl dX11_sumHere_126 ?_
              refine G_goto hX 9 (by decide) dX11_sumHere_127 ?_
              exact G_sub [2, 3, 0] rfl (ih v1 (0 : Int32) μ)
            · refine G_iload_n hX 0 rfl rfl dX11_sumHere_76 ?_
              refine G_bipush hX (41 : Int32) rfl dX11_sumHere_77 ?_
              refine G_icmp_eq hX 87 (by decide) dX11_sumHere_79 ?_ ?_
              · refine G_aload_n hX 1 rfl rfl dX11_sumHere_87 ?_
                refine G_iconst hX (1 : Int32) rfl dX11_sumHere_88 ?_
                refine G_cVv hX 0 11 (fun ad adK => [.int (1 : Int32)]) [] (fun z2 h2 => cX11_settles_ok (cx_l X) N (1 : Int32) μ z2 h2) ok_X11_settles lm_X11_252 atM0.1 atM0.2 rfl rfl (fun _ _ => rfl) (Nat.le_of_ble_eq_true rfl) ⟨rfl, rfl, by decide, by decide⟩ (cs0 hcs) dX11_sumHere_89 (fun μ => ?_)
                refine G_aload_n hX 1 rfl rfl dX11_sumHere_92 ?_
                refine G_dup hX rfl dX11_sumHere_93 ?_
                refine gf_X11_226_M0 hX dX11_sumHere_94 ?_
                refine G_nmi (fun x5 => ?_)
                refine G_iconst hX (1 : Int32) rfl dX11_sumHere_97 ?_
                refine G_isub hX dX11_sumHere_98 ?_
                refine G_nmi (fun x6 => ?_)
                refine pf_X11_226_M0 hX dX11_sumHere_99 (fun μ => ?_)
                refine G_aload_n hX 1 rfl rfl dX11_sumHere_102 ?_
                refine G_dup hX rfl dX11_sumHere_103 ?_
                refine gf_X11_237_M0 hX dX11_sumHere_104 ?_
                refine G_nmi (fun x7 => ?_)
                refine G_iconst hX (1 : Int32) rfl dX11_sumHere_107 ?_
                refine G_isub hX dX11_sumHere_108 ?_
                refine G_nmi (fun x8 => ?_)
                refine pf_X11_237_M0 hX dX11_sumHere_109 (fun μ => ?_)
                refine G_aload_n hX 1 rfl rfl dX11_sumHere_112 ?_
                refine G_dup hX rfl dX11_sumHere_113 ?_
                refine gf_X11_110_M0 hX dX11_sumHere_114 ?_
                refine G_nmi (fun x9 => ?_)
                refine G_iconst hX (1 : Int32) rfl dX11_sumHere_117 ?_
                refine G_iadd hX dX11_sumHere_118 ?_
                refine G_nmi (fun x10 => ?_)
                refine pf_X11_110_M0 hX dX11_sumHere_119 (fun μ => ?_)
                refine G_goto hX 127 (by decide) dX11_sumHere_122 ?_
                refine G_goto hX 9 (by decide) dX11_sumHere_127 ?_
                exact G_sub [1, 2, 3] rfl (ih v1 v2 μ)
              · refine G_aload_n hX 1 rfl rfl dX11_sumHere_82 ?_
                refine G_cVv hX 0 11 (fun ad adK => []) [] (fun z2 h2 => cX11_wrong_ok (cx_l X) N μ z2 h2) ok_X11_wrong lm_X11_148 atM0.1 atM0.2 rfl rfl (fun _ _ => rfl) (Nat.le_of_ble_eq_true rfl) ⟨rfl, rfl, by decide, by decide⟩ (cs0 hcs) dX11_sumHere_83 (fun μ => ?_)
                exact G_vret hX hQ dX11_sumHere_86
          · refine G_aload_n hX 1 rfl rfl dX11_sumHere_45 ?_
            refine G_iload_n hX 0 rfl rfl dX11_sumHere_46 ?_
            refine G_cSi hX (fun ad adK => [.int r2]) [.ref (cx_ad X 0)] (fun z2 h2 => cX11_signOf_ok (cx_l X) N r2 μ z2 h2) ok_X11_signOf lm_X11_249 rfl (fun _ _ => rfl) (Nat.le_of_ble_eq_true rfl) ⟨rfl, rfl, by decide, by decide⟩ (cs0 hcs) dX11_sumHere_47 (fun r11 μ => ?_)
            refine G_cSi hX (fun ad adK => [.int r11]) [.ref (cx_ad X 0)] (fun z2 h2 => cX11_binds_ok (cx_l X) N r11 μ z2 h2) ok_X11_binds lm_X11_229 rfl (fun _ _ => rfl) (Nat.le_of_ble_eq_true rfl) ⟨rfl, rfl, by decide, by decide⟩ (cs0 hcs) dX11_sumHere_50 (fun r12 μ => ?_)
            refine G_cVv hX 0 11 (fun ad adK => [.int r12]) [] (fun z2 h2 => cX11_settles_ok (cx_l X) N r12 μ z2 h2) ok_X11_settles lm_X11_252 atM0.1 atM0.2 rfl rfl (fun _ _ => rfl) (Nat.le_of_ble_eq_true rfl) ⟨rfl, rfl, by decide, by decide⟩ (cs0 hcs) dX11_sumHere_53 (fun μ => ?_)
            refine G_aload_n hX 1 rfl rfl dX11_sumHere_56 ?_
            refine G_iload_n hX 0 rfl rfl dX11_sumHere_57 ?_
            refine G_cSi hX (fun ad adK => [.int r2]) [.ref (cx_ad X 0)] (fun z2 h2 => cX11_signOf_ok (cx_l X) N r2 μ z2 h2) ok_X11_signOf lm_X11_249 rfl (fun _ _ => rfl) (Nat.le_of_ble_eq_true rfl) ⟨rfl, rfl, by decide, by decide⟩ (cs0 hcs) dX11_sumHere_58 (fun r13 μ => ?_)
            refine G_cVv hX 0 11 (fun ad adK => [.int r13]) [] (fun z2 h2 => cX11_pushes_ok (cx_l X) N r13 μ z2 h2) ok_X11_pushes lm_X11_240 atM0.1 atM0.2 rfl rfl (fun _ _ => rfl) (Nat.le_of_ble_eq_true rfl) ⟨rfl, rfl, by decide, by decide⟩ (cs0 hcs) dX11_sumHere_61 (fun μ => ?_)
            refine G_iconst hX (1 : Int32) rfl dX11_sumHere_64 ?_
            refine G_istore_n hX [(1, .int (1 : Int32)), (3, .int r2), (0, .ref (cx_ad X 0)), (2, .int v2)] rfl (by decide) rfl dX11_sumHere_65 ?_
            refine G_goto hX 127 (by decide) dX11_sumHere_66 ?_
            refine G_goto hX 9 (by decide) dX11_sumHere_127 ?_
            exact G_sub [2, 0, 3] rfl (ih (1 : Int32) v2 μ)
        · refine G_aload_n hX 1 rfl rfl dX11_sumHere_29 ?_
          refine G_cVi hX 0 11 (fun ad adK => []) [] (fun z2 h2 => cX11_opensOrAtom_ok (cx_l X) N μ z2 h2) ok_X11_opensOrAtom lm_X11_246 atM0.1 atM0.2 rfl rfl (fun _ _ => rfl) (Nat.le_of_ble_eq_true rfl) ⟨rfl, rfl, by decide, by decide⟩ (cs0 hcs) dX11_sumHere_30 (fun r14 μ => ?_)
          refine G_istore_n hX [(1, .int r14), (3, .int r2), (0, .ref (cx_ad X 0)), (2, .int v2)] rfl (by decide) rfl dX11_sumHere_33 ?_
          refine G_goto hX 127 (by decide) dX11_sumHere_34 ?_
          refine G_goto hX 9 (by decide) dX11_sumHere_127 ?_
          exact G_sub [2, 0, 3] rfl (ih r14 v2 μ)
set_option maxHeartbeats 4000000 in
set_option maxRecDepth 100000 in
theorem gX11_sumHere_E {X : Ctx} {z : Unit × Mem} (hX : Fx wM X cX11_sumHere 4 RX11 none (rmo 7 149)) (hQ : Qx_v wM X z) (hcs : cx_cells X = 0 ∧ cx_slots X = 0) (N : Nat) (μ : Mem) : G wM X z 0 [(0, .ref (cx_ad X 0))] [] μ (fX11_sumHere N μ) := by
  unfold fX11_sumHere
  refine G_aload_n hX 0 rfl rfl dX11_sumHere_0 ?_
  refine G_iconst hX (0 : Int32) rfl dX11_sumHere_1 ?_
  refine pf_X11_226_M0 hX dX11_sumHere_2 (fun μ => ?_)
  refine G_iconst hX (1 : Int32) rfl dX11_sumHere_5 ?_
  refine G_istore_n hX [(1, .int (1 : Int32)), (0, .ref (cx_ad X 0))] rfl (by decide) rfl dX11_sumHere_6 ?_
  refine G_iconst hX (1 : Int32) rfl dX11_sumHere_7 ?_
  refine G_istore_n hX [(2, .int (1 : Int32)), (1, .int (1 : Int32)), (0, .ref (cx_ad X 0))] rfl (by decide) rfl dX11_sumHere_8 ?_
  exact G_sub [2, 1, 0] rfl (gX11_sumHere_9 hX hQ hcs N N (1 : Int32) (1 : Int32) μ)
theorem cX11_sumHere_ok (l : Launch) (N : Nat) (μ : Mem) (z : Unit × Mem) (h : fX11_sumHere N μ = some z) : Mv wM l yX11_sumHere cX11_sumHere 4 (rmo 7 149) (fun ad adK => [.ref (ad 0)]) μ z := Mv.of h (by decide +kernel) (fun _ _ => Nat.le_of_ble_eq_true rfl) (fun X hX hQ hl hcs => gX11_sumHere_E hX hQ hcs N μ)
/-! ===== DutyCaseModel.adjustLine()V ===== -/
set_option maxHeartbeats 4000000 in
set_option maxRecDepth 100000 in
theorem gX11_adjustLine_E {X : Ctx} {z : Unit × Mem} (hX : Fx wM X cX11_adjustLine 1 RX11 none (rmo 8 172)) (hQ : Qx_v wM X z) (hcs : cx_cells X = 0 ∧ cx_slots X = 0) (N : Nat) (μ : Mem) : G wM X z 0 [(0, .ref (cx_ad X 0))] [] μ (fX11_adjustLine N μ) := by
  unfold fX11_adjustLine
  refine G_aload_n hX 0 rfl rfl dX11_adjustLine_0 ?_
  refine G_aload_n hX 0 rfl rfl dX11_adjustLine_1 ?_
  refine G_cVi hX 0 11 (fun ad adK => []) [.ref (cx_ad X 0)] (fun z2 h2 => cX11_marketHere_ok (cx_l X) N μ z2 h2) ok_X11_marketHere lm_X11_210 atM0.1 atM0.2 rfl rfl (fun _ _ => rfl) (Nat.le_of_ble_eq_true rfl) ⟨rfl, rfl, by decide, by decide⟩ (cs0 hcs) dX11_adjustLine_2 (fun r1 μ => ?_)
  refine pf_X11_213_M0 hX dX11_adjustLine_5 (fun μ => ?_)
  refine G_aload_n hX 0 rfl rfl dX11_adjustLine_8 ?_
  refine G_cVi hX 0 11 (fun ad adK => []) [] (fun z2 h2 => cX11_isWrong_ok (cx_l X) N μ z2 h2) ok_X11_isWrong lm_X11_140 atM0.1 atM0.2 rfl rfl (fun _ _ => rfl) (Nat.le_of_ble_eq_true rfl) ⟨rfl, rfl, by decide, by decide⟩ (cs0 hcs) dX11_adjustLine_9 (fun r2 μ => ?_)
  refine G_if_eq hX 16 (by decide) dX11_adjustLine_12 ?_ ?_
  · refine G_aload_n hX 0 rfl rfl dX11_adjustLine_16 ?_
    refine gf_X11_60_M0 hX dX11_adjustLine_17 ?_
    refine G_aload_n hX 0 rfl rfl dX11_adjustLine_20 ?_
    refine gf_X11_213_M0 hX dX11_adjustLine_21 ?_
    refine G_nmi (fun x3 => ?_)
    refine G_iconst hX (0 : Int32) rfl dX11_adjustLine_24 ?_
    refine G_sI hX atM16 dX11_adjustLine_25 (fun μ => ?_)
    refine G_aload_n hX 0 rfl rfl dX11_adjustLine_26 ?_
    refine G_iconst hX (0 : Int32) rfl dX11_adjustLine_27 ?_
    refine pf_X11_237_M0 hX dX11_adjustLine_28 (fun μ => ?_)
    refine G_aload_n hX 0 rfl rfl dX11_adjustLine_31 ?_
    refine G_cVv hX 0 11 (fun ad adK => []) [] (fun z2 h2 => cX11_sumHere_ok (cx_l X) N μ z2 h2) ok_X11_sumHere lm_X11_255 atM0.1 atM0.2 rfl rfl (fun _ _ => rfl) (Nat.le_of_ble_eq_true rfl) ⟨rfl, rfl, by decide, by decide⟩ (cs0 hcs) dX11_adjustLine_32 (fun μ => ?_)
    exact G_vret hX hQ dX11_adjustLine_35
  · exact G_vret hX hQ dX11_adjustLine_15
theorem cX11_adjustLine_ok (l : Launch) (N : Nat) (μ : Mem) (z : Unit × Mem) (h : fX11_adjustLine N μ = some z) : Mv wM l yX11_adjustLine cX11_adjustLine 1 (rmo 8 172) (fun ad adK => [.ref (ad 0)]) μ z := Mv.of h (by decide +kernel) (fun _ _ => Nat.le_of_ble_eq_true rfl) (fun X hX hQ hl hcs => gX11_adjustLine_E hX hQ hcs N μ)
/-! ===== DutyCaseModel.line()V ===== -/
set_option maxHeartbeats 4000000 in
set_option maxRecDepth 100000 in
theorem gX11_line_217 {X : Ctx} {z : Unit × Mem} (hX : Fx wM X cX11_line 2 RX11 none (rmo 10 221)) (hQ : Qx_v wM X z) (hcs : cx_cells X = 0 ∧ cx_slots X = 0) (N : Nat) (s0 : Int32) (s1 : Int32) (μ : Mem) : G wM X z 217 [(0, .ref (cx_ad X 0))] [.int s0, .int s1, .ref (cx_ad X 0)] μ (fX11_line_217 N s0 s1 μ) := by
  unfold fX11_line_217
  refine G_iadd hX dX11_line_217 ?_
  refine G_nmi (fun x27 => ?_)
  refine pf_X11_110_M0 hX dX11_line_218 (fun μ => ?_)
  refine G_aload_n hX 0 rfl rfl dX11_line_221 ?_
  refine G_cVi hX 0 11 (fun ad adK => []) [] (fun z2 h2 => cX11_isWrong_ok (cx_l X) N μ z2 h2) ok_X11_isWrong lm_X11_140 atM0.1 atM0.2 rfl rfl (fun _ _ => rfl) (Nat.le_of_ble_eq_true rfl) ⟨rfl, rfl, by decide, by decide⟩ (cs0 hcs) dX11_line_222 (fun r28 μ => ?_)
  refine G_if_ne hX 291 (by decide) dX11_line_225 ?_ ?_
  · refine G_aload_n hX 0 rfl rfl dX11_line_291 ?_
    refine G_bipush hX (59 : Int32) rfl dX11_line_292 ?_
    refine G_cVv hX 0 11 (fun ad adK => [.int (59 : Int32)]) [] (fun z2 h2 => cX11_sign_ok (cx_l X) N (59 : Int32) μ z2 h2) ok_X11_sign lm_X11_276 atM0.1 atM0.2 rfl rfl (fun _ _ => rfl) (Nat.le_of_ble_eq_true rfl) ⟨rfl, rfl, by decide, by decide⟩ (cs0 hcs) dX11_line_294 (fun μ => ?_)
    exact G_vret hX hQ dX11_line_297
  · refine G_aload_n hX 0 rfl rfl dX11_line_228 ?_
    refine G_cVv hX 0 11 (fun ad adK => []) [] (fun z2 h2 => cX11_sellLine_ok (cx_l X) N μ z2 h2) ok_X11_sellLine lm_X11_273 atM0.1 atM0.2 rfl rfl (fun _ _ => rfl) (Nat.le_of_ble_eq_true rfl) ⟨rfl, rfl, by decide, by decide⟩ (cs0 hcs) dX11_line_229 (fun μ => ?_)
    refine G_goto hX 291 (by decide) dX11_line_232 ?_
    refine G_aload_n hX 0 rfl rfl dX11_line_291 ?_
    refine G_bipush hX (59 : Int32) rfl dX11_line_292 ?_
    refine G_cVv hX 0 11 (fun ad adK => [.int (59 : Int32)]) [] (fun z2 h2 => cX11_sign_ok (cx_l X) N (59 : Int32) μ z2 h2) ok_X11_sign lm_X11_276 atM0.1 atM0.2 rfl rfl (fun _ _ => rfl) (Nat.le_of_ble_eq_true rfl) ⟨rfl, rfl, by decide, by decide⟩ (cs0 hcs) dX11_line_294 (fun μ => ?_)
    exact G_vret hX hQ dX11_line_297
set_option maxHeartbeats 4000000 in
set_option maxRecDepth 100000 in
theorem gX11_line_200 {X : Ctx} {z : Unit × Mem} (hX : Fx wM X cX11_line 2 RX11 none (rmo 10 221)) (hQ : Qx_v wM X z) (hcs : cx_cells X = 0 ∧ cx_slots X = 0) (N : Nat) (μ : Mem) : G wM X z 200 [(0, .ref (cx_ad X 0))] [] μ (fX11_line_200 N μ) := by
  unfold fX11_line_200
  refine G_aload_n hX 0 rfl rfl dX11_line_200 ?_
  refine G_dup hX rfl dX11_line_201 ?_
  refine gf_X11_110_M0 hX dX11_line_202 ?_
  refine G_nmi (fun x17 => ?_)
  refine G_aload_n hX 0 rfl rfl dX11_line_205 ?_
  refine G_cVi hX 0 11 (fun ad adK => []) [.int x17, .ref (cx_ad X 0)] (fun z2 h2 => cX11_isWrong_ok (cx_l X) N μ z2 h2) ok_X11_isWrong lm_X11_140 atM0.1 atM0.2 rfl rfl (fun _ _ => rfl) (Nat.le_of_ble_eq_true rfl) ⟨rfl, rfl, by decide, by decide⟩ (cs0 hcs) dX11_line_206 (fun r18 μ => ?_)
  refine G_if_eq hX 216 (by decide) dX11_line_209 ?_ ?_
  · refine G_iconst hX (4 : Int32) rfl dX11_line_216 ?_
    exact G_sub [0] rfl (gX11_line_217 hX hQ hcs N (4 : Int32) x17 μ)
  · refine G_iconst hX (0 : Int32) rfl dX11_line_212 ?_
    refine G_goto hX 217 (by decide) dX11_line_213 ?_
    exact G_sub [0] rfl (gX11_line_217 hX hQ hcs N (0 : Int32) x17 μ)
set_option maxHeartbeats 4000000 in
set_option maxRecDepth 100000 in
theorem gX11_line_76 {X : Ctx} {z : Unit × Mem} (hX : Fx wM X cX11_line 2 RX11 none (rmo 10 221)) (hQ : Qx_v wM X z) (hcs : cx_cells X = 0 ∧ cx_slots X = 0) (N : Nat) (μ : Mem) : G wM X z 76 [(0, .ref (cx_ad X 0))] [] μ (fX11_line_76 N μ) := by
  unfold fX11_line_76
  refine G_aload_n hX 0 rfl rfl dX11_line_76 ?_
  refine G_dup hX rfl dX11_line_77 ?_
  refine gf_X11_110_M0 hX dX11_line_78 ?_
  refine G_nmi (fun x19 => ?_)
  refine G_aload_n hX 0 rfl rfl dX11_line_81 ?_
  refine G_cVi hX 0 11 (fun ad adK => []) [.int x19, .ref (cx_ad X 0)] (fun z2 h2 => cX11_isWrong_ok (cx_l X) N μ z2 h2) ok_X11_isWrong lm_X11_140 atM0.1 atM0.2 rfl rfl (fun _ _ => rfl) (Nat.le_of_ble_eq_true rfl) ⟨rfl, rfl, by decide, by decide⟩ (cs0 hcs) dX11_line_82 (fun r20 μ => ?_)
  refine G_if_eq hX 92 (by decide) dX11_line_85 ?_ ?_
  · refine G_iconst hX (4 : Int32) rfl dX11_line_92 ?_
    refine G_iadd hX dX11_line_93 ?_
    refine G_nmi (fun x21 => ?_)
    refine pf_X11_110_M0 hX dX11_line_94 (fun μ => ?_)
    refine G_aload_n hX 0 rfl rfl dX11_line_97 ?_
    refine G_cVv hX 0 11 (fun ad adK => []) [] (fun z2 h2 => cX11_firmLine_ok (cx_l X) N μ z2 h2) ok_X11_firmLine lm_X11_261 atM0.1 atM0.2 rfl rfl (fun _ _ => rfl) (Nat.le_of_ble_eq_true rfl) ⟨rfl, rfl, by decide, by decide⟩ (cs0 hcs) dX11_line_98 (fun μ => ?_)
    refine G_goto hX 291 (by decide) dX11_line_101 ?_
    refine G_aload_n hX 0 rfl rfl dX11_line_291 ?_
    refine G_bipush hX (59 : Int32) rfl dX11_line_292 ?_
    refine G_cVv hX 0 11 (fun ad adK => [.int (59 : Int32)]) [] (fun z2 h2 => cX11_sign_ok (cx_l X) N (59 : Int32) μ z2 h2) ok_X11_sign lm_X11_276 atM0.1 atM0.2 rfl rfl (fun _ _ => rfl) (Nat.le_of_ble_eq_true rfl) ⟨rfl, rfl, by decide, by decide⟩ (cs0 hcs) dX11_line_294 (fun μ => ?_)
    exact G_vret hX hQ dX11_line_297
  · refine G_iconst hX (0 : Int32) rfl dX11_line_88 ?_
    refine G_goto hX 93 (by decide) dX11_line_89 ?_
    refine G_iadd hX dX11_line_93 ?_
    refine G_nmi (fun x22 => ?_)
    refine pf_X11_110_M0 hX dX11_line_94 (fun μ => ?_)
    refine G_aload_n hX 0 rfl rfl dX11_line_97 ?_
    refine G_cVv hX 0 11 (fun ad adK => []) [] (fun z2 h2 => cX11_firmLine_ok (cx_l X) N μ z2 h2) ok_X11_firmLine lm_X11_261 atM0.1 atM0.2 rfl rfl (fun _ _ => rfl) (Nat.le_of_ble_eq_true rfl) ⟨rfl, rfl, by decide, by decide⟩ (cs0 hcs) dX11_line_98 (fun μ => ?_)
    refine G_goto hX 291 (by decide) dX11_line_101 ?_
    refine G_aload_n hX 0 rfl rfl dX11_line_291 ?_
    refine G_bipush hX (59 : Int32) rfl dX11_line_292 ?_
    refine G_cVv hX 0 11 (fun ad adK => [.int (59 : Int32)]) [] (fun z2 h2 => cX11_sign_ok (cx_l X) N (59 : Int32) μ z2 h2) ok_X11_sign lm_X11_276 atM0.1 atM0.2 rfl rfl (fun _ _ => rfl) (Nat.le_of_ble_eq_true rfl) ⟨rfl, rfl, by decide, by decide⟩ (cs0 hcs) dX11_line_294 (fun μ => ?_)
    exact G_vret hX hQ dX11_line_297
set_option maxHeartbeats 4000000 in
set_option maxRecDepth 100000 in
theorem gX11_line_27 {X : Ctx} {z : Unit × Mem} (hX : Fx wM X cX11_line 2 RX11 none (rmo 10 221)) (hQ : Qx_v wM X z) (hcs : cx_cells X = 0 ∧ cx_slots X = 0) (N : Nat) (μ : Mem) : G wM X z 27 [(0, .ref (cx_ad X 0))] [] μ (fX11_line_27 N μ) := by
  unfold fX11_line_27
  refine G_aload_n hX 0 rfl rfl dX11_line_27 ?_
  refine G_dup hX rfl dX11_line_28 ?_
  refine gf_X11_110_M0 hX dX11_line_29 ?_
  refine G_nmi (fun x23 => ?_)
  refine G_aload_n hX 0 rfl rfl dX11_line_32 ?_
  refine G_cVi hX 0 11 (fun ad adK => []) [.int x23, .ref (cx_ad X 0)] (fun z2 h2 => cX11_isWrong_ok (cx_l X) N μ z2 h2) ok_X11_isWrong lm_X11_140 atM0.1 atM0.2 rfl rfl (fun _ _ => rfl) (Nat.le_of_ble_eq_true rfl) ⟨rfl, rfl, by decide, by decide⟩ (cs0 hcs) dX11_line_33 (fun r24 μ => ?_)
  refine G_if_eq hX 43 (by decide) dX11_line_36 ?_ ?_
  · refine G_iconst hX (5 : Int32) rfl dX11_line_43 ?_
    refine G_iadd hX dX11_line_44 ?_
    refine G_nmi (fun x25 => ?_)
    refine pf_X11_110_M0 hX dX11_line_45 (fun μ => ?_)
    refine G_aload_n hX 0 rfl rfl dX11_line_48 ?_
    refine G_cVv hX 0 11 (fun ad adK => []) [] (fun z2 h2 => cX11_modelLine_ok (cx_l X) N μ z2 h2) ok_X11_modelLine lm_X11_258 atM0.1 atM0.2 rfl rfl (fun _ _ => rfl) (Nat.le_of_ble_eq_true rfl) ⟨rfl, rfl, by decide, by decide⟩ (cs0 hcs) dX11_line_49 (fun μ => ?_)
    refine G_goto hX 291 (by decide) dX11_line_52 ?_
    refine G_aload_n hX 0 rfl rfl dX11_line_291 ?_
    refine G_bipush hX (59 : Int32) rfl dX11_line_292 ?_
    refine G_cVv hX 0 11 (fun ad adK => [.int (59 : Int32)]) [] (fun z2 h2 => cX11_sign_ok (cx_l X) N (59 : Int32) μ z2 h2) ok_X11_sign lm_X11_276 atM0.1 atM0.2 rfl rfl (fun _ _ => rfl) (Nat.le_of_ble_eq_true rfl) ⟨rfl, rfl, by decide, by decide⟩ (cs0 hcs) dX11_line_294 (fun μ => ?_)
    exact G_vret hX hQ dX11_line_297
  · refine G_iconst hX (0 : Int32) rfl dX11_line_39 ?_
    refine G_goto hX 44 (by decide) dX11_line_40 ?_
    refine G_iadd hX dX11_line_44 ?_
    refine G_nmi (fun x26 => ?_)
    refine pf_X11_110_M0 hX dX11_line_45 (fun μ => ?_)
    refine G_aload_n hX 0 rfl rfl dX11_line_48 ?_
    refine G_cVv hX 0 11 (fun ad adK => []) [] (fun z2 h2 => cX11_modelLine_ok (cx_l X) N μ z2 h2) ok_X11_modelLine lm_X11_258 atM0.1 atM0.2 rfl rfl (fun _ _ => rfl) (Nat.le_of_ble_eq_true rfl) ⟨rfl, rfl, by decide, by decide⟩ (cs0 hcs) dX11_line_49 (fun μ => ?_)
    refine G_goto hX 291 (by decide) dX11_line_52 ?_
    refine G_aload_n hX 0 rfl rfl dX11_line_291 ?_
    refine G_bipush hX (59 : Int32) rfl dX11_line_292 ?_
    refine G_cVv hX 0 11 (fun ad adK => [.int (59 : Int32)]) [] (fun z2 h2 => cX11_sign_ok (cx_l X) N (59 : Int32) μ z2 h2) ok_X11_sign lm_X11_276 atM0.1 atM0.2 rfl rfl (fun _ _ => rfl) (Nat.le_of_ble_eq_true rfl) ⟨rfl, rfl, by decide, by decide⟩ (cs0 hcs) dX11_line_294 (fun μ => ?_)
    exact G_vret hX hQ dX11_line_297
set_option maxHeartbeats 4000000 in
set_option maxRecDepth 100000 in
theorem gX11_line_E {X : Ctx} {z : Unit × Mem} (hX : Fx wM X cX11_line 2 RX11 none (rmo 10 221)) (hQ : Qx_v wM X z) (hcs : cx_cells X = 0 ∧ cx_slots X = 0) (N : Nat) (μ : Mem) : G wM X z 0 [(0, .ref (cx_ad X 0))] [] μ (fX11_line N μ) := by
  unfold fX11_line
  refine G_aload_n hX 0 rfl rfl dX11_line_0 ?_
  refine G_cVi hX 0 11 (fun ad adK => []) [] (fun z2 h2 => cX11_here_ok (cx_l X) N μ z2 h2) ok_X11_here lm_X11_120 atM0.1 atM0.2 rfl rfl (fun _ _ => rfl) (Nat.le_of_ble_eq_true rfl) ⟨rfl, rfl, by decide, by decide⟩ (cs0 hcs) dX11_line_1 (fun r1 μ => ?_)
  refine G_pop hX rfl dX11_line_4 ?_
  refine G_aload_n hX 0 rfl rfl dX11_line_5 ?_
  refine G_ldcS hX (tx := "model") 0 (by decide +kernel) dX11_line_6 ?_
  refine G_cVi hX 0 11 (fun ad adK => [.ref (adK 0)]) [] (fun z2 h2 => cX11_isWord_ok (cx_l X) N 0 μ z2 h2) ok_X11_isWord lm_X11_144 atM0.1 atM0.2 rfl rfl (fun _ _ => rfl) (Nat.le_of_ble_eq_true rfl) ⟨rfl, rfl, by decide, by decide⟩ (cs0 hcs) dX11_line_8 (fun r2 μ => ?_)
  refine G_if_eq hX 55 (by decide) dX11_line_11 ?_ ?_
  · refine G_aload_n hX 0 rfl rfl dX11_line_55 ?_
    refine G_ldcS hX (tx := "firm") 1 (by decide +kernel) dX11_line_56 ?_
    refine G_cVi hX 0 11 (fun ad adK => [.ref (adK 1)]) [] (fun z2 h2 => cX11_isWord_ok (cx_l X) N 1 μ z2 h2) ok_X11_isWord lm_X11_144 atM0.1 atM0.2 rfl rfl (fun _ _ => rfl) (Nat.le_of_ble_eq_true rfl) ⟨rfl, rfl, by decide, by decide⟩ (cs0 hcs) dX11_line_58 (fun r3 μ => ?_)
    refine G_if_eq hX 104 (by decide) dX11_line_61 ?_ ?_
    · refine G_aload_n hX 0 rfl rfl dX11_line_104 ?_
      refine G_ldcS hX (tx := "silent") 2 (by decide +kernel) dX11_line_105 ?_
      refine G_cVi hX 0 11 (fun ad adK => [.ref (adK 2)]) [] (fun z2 h2 => cX11_takes_ok (cx_l X) N 2 μ z2 h2) ok_X11_takes lm_X11_264 atM0.1 atM0.2 rfl rfl (fun _ _ => rfl) (Nat.le_of_ble_eq_true rfl) ⟨rfl, rfl, by decide, by decide⟩ (cs0 hcs) dX11_line_107 (fun r4 μ => ?_)
      refine G_if_eq hX 143 (by decide) dX11_line_110 ?_ ?_
      · refine G_aload_n hX 0 rfl rfl dX11_line_143 ?_
        refine G_ldcS hX (tx := "cost") 3 (by decide +kernel) dX11_line_144 ?_
        refine G_cVi hX 0 11 (fun ad adK => [.ref (adK 3)]) [] (fun z2 h2 => cX11_takes_ok (cx_l X) N 3 μ z2 h2) ok_X11_takes lm_X11_264 atM0.1 atM0.2 rfl rfl (fun _ _ => rfl) (Nat.le_of_ble_eq_true rfl) ⟨rfl, rfl, by decide, by decide⟩ (cs0 hcs) dX11_line_146 (fun r5 μ => ?_)
        refine G_if_eq hX 159 (by decide) dX11_line_149 ?_ ?_
        · refine G_aload_n hX 0 rfl rfl dX11_line_159 ?_
          refine G_ldcS hX (tx := "adjust") 4 (by decide +kernel) dX11_line_160 ?_
          refine G_cVi hX 0 11 (fun ad adK => [.ref (adK 4)]) [] (fun z2 h2 => cX11_takes_ok (cx_l X) N 4 μ z2 h2) ok_X11_takes lm_X11_264 atM0.1 atM0.2 rfl rfl (fun _ _ => rfl) (Nat.le_of_ble_eq_true rfl) ⟨rfl, rfl, by decide, by decide⟩ (cs0 hcs) dX11_line_162 (fun r6 μ => ?_)
          refine G_if_eq hX 175 (by decide) dX11_line_165 ?_ ?_
          · refine G_aload_n hX 0 rfl rfl dX11_line_175 ?_
            refine G_ldcS hX (tx := "sell") 5 (by decide +kernel) dX11_line_176 ?_
            refine G_cVi hX 0 11 (fun ad adK => [.ref (adK 5)]) [] (fun z2 h2 => cX11_isWord_ok (cx_l X) N 5 μ z2 h2) ok_X11_isWord lm_X11_144 atM0.1 atM0.2 rfl rfl (fun _ _ => rfl) (Nat.le_of_ble_eq_true rfl) ⟨rfl, rfl, by decide, by decide⟩ (cs0 hcs) dX11_line_178 (fun r7 μ => ?_)
            refine G_if_eq hX 235 (by decide) dX11_line_181 ?_ ?_
            · refine G_aload_n hX 0 rfl rfl dX11_line_235 ?_
              refine G_ldcS hX (tx := "profit") 6 (by decide +kernel) dX11_line_236 ?_
              refine G_cVi hX 0 11 (fun ad adK => [.ref (adK 6)]) [] (fun z2 h2 => cX11_takes_ok (cx_l X) N 6 μ z2 h2) ok_X11_takes lm_X11_264 atM0.1 atM0.2 rfl rfl (fun _ _ => rfl) (Nat.le_of_ble_eq_true rfl) ⟨rfl, rfl, by decide, by decide⟩ (cs0 hcs) dX11_line_238 (fun r8 μ => ?_)
              refine G_if_eq hX 261 (by decide) dX11_line_241 ?_ ?_
              · refine G_aload_n hX 0 rfl rfl dX11_line_261 ?_
                refine G_ldcS hX (tx := "step") 7 (by decide +kernel) dX11_line_262 ?_
                refine G_cVi hX 0 11 (fun ad adK => [.ref (adK 7)]) [] (fun z2 h2 => cX11_takes_ok (cx_l X) N 7 μ z2 h2) ok_X11_takes lm_X11_264 atM0.1 atM0.2 rfl rfl (fun _ _ => rfl) (Nat.le_of_ble_eq_true rfl) ⟨rfl, rfl, by decide, by decide⟩ (cs0 hcs) dX11_line_264 (fun r9 μ => ?_)
                refine G_if_eq hX 287 (by decide) dX11_line_267 ?_ ?_
                · refine G_aload_n hX 0 rfl rfl dX11_line_287 ?_
                  refine G_cVv hX 0 11 (fun ad adK => []) [] (fun z2 h2 => cX11_wrong_ok (cx_l X) N μ z2 h2) ok_X11_wrong lm_X11_148 atM0.1 atM0.2 rfl rfl (fun _ _ => rfl) (Nat.le_of_ble_eq_true rfl) ⟨rfl, rfl, by decide, by decide⟩ (cs0 hcs) dX11_line_288 (fun μ => ?_)
                  refine G_aload_n hX 0 rfl rfl dX11_line_291 ?_
                  refine G_bipush hX (59 : Int32) rfl dX11_line_292 ?_
                  refine G_cVv hX 0 11 (fun ad adK => [.int (59 : Int32)]) [] (fun z2 h2 => cX11_sign_ok (cx_l X) N (59 : Int32) μ z2 h2) ok_X11_sign lm_X11_276 atM0.1 atM0.2 rfl rfl (fun _ _ => rfl) (Nat.le_of_ble_eq_true rfl) ⟨rfl, rfl, by decide, by decide⟩ (cs0 hcs) dX11_line_294 (fun μ => ?_)
                  exact G_vret hX hQ dX11_line_297
                · refine G_aload_n hX 0 rfl rfl dX11_line_270 ?_
                  refine gf_X11_13_M0 hX dX11_line_271 ?_
                  refine G_bipush hX (33 : Int32) rfl dX11_line_274 ?_
                  refine G_aload_n hX 0 rfl rfl dX11_line_276 ?_
                  refine G_iconst hX (0 : Int32) rfl dX11_line_277 ?_
                  refine G_bipush hX (99 : Int32) rfl dX11_line_278 ?_
                  refine G_cVi hX 0 11 (fun ad adK => [.int (0 : Int32), .int (99 : Int32)]) [.int (33 : Int32), .ref (cx_ad X 2)] (fun z2 h2 => cX11_numberIn_ok (cx_l X) N (0 : Int32) (99 : Int32) μ z2 h2) ok_X11_numberIn lm_X11_203 atM0.1 atM0.2 rfl rfl (fun _ _ => rfl) (Nat.le_of_ble_eq_true rfl) ⟨rfl, rfl, by decide, by decide⟩ (cs0 hcs) dX11_line_280 (fun r10 μ => ?_)
                  refine G_sI hX atM2 dX11_line_283 (fun μ => ?_)
                  refine G_goto hX 291 (by decide) dX11_line_284 ?_
                  refine G_aload_n hX 0 rfl rfl dX11_line_291 ?_
                  refine G_bipush hX (59 : Int32) rfl dX11_line_292 ?_
                  refine G_cVv hX 0 11 (fun ad adK => [.int (59 : Int32)]) [] (fun z2 h2 => cX11_sign_ok (cx_l X) N (59 : Int32) μ z2 h2) ok_X11_sign lm_X11_276 atM0.1 atM0.2 rfl rfl (fun _ _ => rfl) (Nat.le_of_ble_eq_true rfl) ⟨rfl, rfl, by decide, by decide⟩ (cs0 hcs) dX11_line_294 (fun μ => ?_)
                  exact G_vret hX hQ dX11_line_297
              · refine G_aload_n hX 0 rfl rfl dX11_line_244 ?_
                refine gf_X11_13_M0 hX dX11_line_245 ?_
                refine G_bipush hX (32 : Int32) rfl dX11_line_248 ?_
                refine G_aload_n hX 0 rfl rfl dX11_line_250 ?_
                refine G_iconst hX (0 : Int32) rfl dX11_line_251 ?_
                refine G_bipush hX (99 : Int32) rfl dX11_line_252 ?_
                refine G_cVi hX 0 11 (fun ad adK => [.int (0 : Int32), .int (99 : Int32)]) [.int (32 : Int32), .ref (cx_ad X 2)] (fun z2 h2 => cX11_numberIn_ok (cx_l X) N (0 : Int32) (99 : Int32) μ z2 h2) ok_X11_numberIn lm_X11_203 atM0.1 atM0.2 rfl rfl (fun _ _ => rfl) (Nat.le_of_ble_eq_true rfl) ⟨rfl, rfl, by decide, by decide⟩ (cs0 hcs) dX11_line_254 (fun r11 μ => ?_)
                refine G_sI hX atM2 dX11_line_257 (fun μ => ?_)
                refine G_goto hX 291 (by decide) dX11_line_258 ?_
                refine G_aload_n hX 0 rfl rfl dX11_line_291 ?_
                refine G_bipush hX (59 : Int32) rfl dX11_line_292 ?_
                refine G_cVv hX 0 11 (fun ad adK => [.int (59 : Int32)]) [] (fun z2 h2 => cX11_sign_ok (cx_l X) N (59 : Int32) μ z2 h2) ok_X11_sign lm_X11_276 atM0.1 atM0.2 rfl rfl (fun _ _ => rfl) (Nat.le_of_ble_eq_true rfl) ⟨rfl, rfl, by decide, by decide⟩ (cs0 hcs) dX11_line_294 (fun μ => ?_)
                exact G_vret hX hQ dX11_line_297
            · refine G_aload_n hX 0 rfl rfl dX11_line_184 ?_
              refine gf_X11_13_M0 hX dX11_line_185 ?_
              refine G_bipush hX (34 : Int32) rfl dX11_line_188 ?_
              refine G_aI hX atM2 dX11_line_190 (fun x12 => ?_)
              refine G_bipush hX (40 : Int32) rfl dX11_line_191 ?_
              refine G_icmp_ne hX 200 (by decide) dX11_line_193 ?_ ?_
              · exact G_sub [0] rfl (gX11_line_200 hX hQ hcs N μ)
              · refine G_aload_n hX 0 rfl rfl dX11_line_196 ?_
                refine G_cVv hX 0 11 (fun ad adK => []) [] (fun z2 h2 => cX11_wrong_ok (cx_l X) N μ z2 h2) ok_X11_wrong lm_X11_148 atM0.1 atM0.2 rfl rfl (fun _ _ => rfl) (Nat.le_of_ble_eq_true rfl) ⟨rfl, rfl, by decide, by decide⟩ (cs0 hcs) dX11_line_197 (fun μ => ?_)
                exact G_sub [0] rfl (gX11_line_200 hX hQ hcs N μ)
          · refine G_aload_n hX 0 rfl rfl dX11_line_168 ?_
            refine G_cVv hX 0 11 (fun ad adK => []) [] (fun z2 h2 => cX11_adjustLine_ok (cx_l X) N μ z2 h2) ok_X11_adjustLine lm_X11_270 atM0.1 atM0.2 rfl rfl (fun _ _ => rfl) (Nat.le_of_ble_eq_true rfl) ⟨rfl, rfl, by decide, by decide⟩ (cs0 hcs) dX11_line_169 (fun μ => ?_)
            refine G_goto hX 291 (by decide) dX11_line_172 ?_
            refine G_aload_n hX 0 rfl rfl dX11_line_291 ?_
            refine G_bipush hX (59 : Int32) rfl dX11_line_292 ?_
            refine G_cVv hX 0 11 (fun ad adK => [.int (59 : Int32)]) [] (fun z2 h2 => cX11_sign_ok (cx_l X) N (59 : Int32) μ z2 h2) ok_X11_sign lm_X11_276 atM0.1 atM0.2 rfl rfl (fun _ _ => rfl) (Nat.le_of_ble_eq_true rfl) ⟨rfl, rfl, by decide, by decide⟩ (cs0 hcs) dX11_line_294 (fun μ => ?_)
            exact G_vret hX hQ dX11_line_297
        · refine G_aload_n hX 0 rfl rfl dX11_line_152 ?_
          refine G_cVv hX 0 11 (fun ad adK => []) [] (fun z2 h2 => cX11_costLine_ok (cx_l X) N μ z2 h2) ok_X11_costLine lm_X11_267 atM0.1 atM0.2 rfl rfl (fun _ _ => rfl) (Nat.le_of_ble_eq_true rfl) ⟨rfl, rfl, by decide, by decide⟩ (cs0 hcs) dX11_line_153 (fun μ => ?_)
          refine G_goto hX 291 (by decide) dX11_line_156 ?_
          refine G_aload_n hX 0 rfl rfl dX11_line_291 ?_
          refine G_bipush hX (59 : Int32) rfl dX11_line_292 ?_
          refine G_cVv hX 0 11 (fun ad adK => [.int (59 : Int32)]) [] (fun z2 h2 => cX11_sign_ok (cx_l X) N (59 : Int32) μ z2 h2) ok_X11_sign lm_X11_276 atM0.1 atM0.2 rfl rfl (fun _ _ => rfl) (Nat.le_of_ble_eq_true rfl) ⟨rfl, rfl, by decide, by decide⟩ (cs0 hcs) dX11_line_294 (fun μ => ?_)
          exact G_vret hX hQ dX11_line_297
      · refine G_aload_n hX 0 rfl rfl dX11_line_113 ?_
        refine G_iconst hX (1 : Int32) rfl dX11_line_114 ?_
        refine G_cVi hX 0 11 (fun ad adK => [.int (1 : Int32)]) [] (fun z2 h2 => cX11_told_ok (cx_l X) N (1 : Int32) μ z2 h2) ok_X11_told lm_X11_207 atM0.1 atM0.2 rfl rfl (fun _ _ => rfl) (Nat.le_of_ble_eq_true rfl) ⟨rfl, rfl, by decide, by decide⟩ (cs0 hcs) dX11_line_115 (fun r13 μ => ?_)
        refine G_istore_n hX [(1, .int r13), (0, .ref (cx_ad X 0))] rfl (by decide) rfl dX11_line_118 ?_
        refine G_aload_n hX 1 rfl rfl dX11_line_119 ?_
        refine gf_X11_13_M0 hX dX11_line_120 ?_
        refine G_bipush hX (24 : Int32) rfl dX11_line_123 ?_
        refine G_iload_n hX 0 rfl rfl dX11_line_125 ?_
        refine G_iadd hX dX11_line_126 ?_
        refine G_aload_n hX 1 rfl rfl dX11_line_127 ?_
        refine G_cVi hX 0 11 (fun ad adK => []) [.int ((24 : Int32) + r13), .ref (cx_ad X 2)] (fun z2 h2 => cX11_isWrong_ok (cx_l X) N μ z2 h2) ok_X11_isWrong lm_X11_140 atM0.1 atM0.2 rfl rfl (fun _ _ => rfl) (Nat.le_of_ble_eq_true rfl) ⟨rfl, rfl, by decide, by decide⟩ (cs0 hcs) dX11_line_128 (fun r14 μ => ?_)
        refine G_if_eq hX 138 (by decide) dX11_line_131 ?_ ?_
        · refine G_iconst hX (1 : Int32) rfl dX11_line_138 ?_
          refine G_sI hX atM2 dX11_line_139 (fun μ => ?_)
          refine G_goto hX 291 (by decide) dX11_line_140 ?_
          refine G_aload_n hX 1 rfl rfl dX11_line_291 ?_
          refine G_bipush hX (59 : Int32) rfl dX11_line_292 ?_
          refine G_cVv hX 0 11 (fun ad adK => [.int (59 : Int32)]) [] (fun z2 h2 => cX11_sign_ok (cx_l X) N (59 : Int32) μ z2 h2) ok_X11_sign lm_X11_276 atM0.1 atM0.2 rfl rfl (fun _ _ => rfl) (Nat.le_of_ble_eq_true rfl) ⟨rfl, rfl, by decide, by decide⟩ (cs0 hcs) dX11_line_294 (fun μ => ?_)
          exact G_vret hX hQ dX11_line_297
        · refine G_iconst hX (0 : Int32) rfl dX11_line_134 ?_
          refine G_goto hX 139 (by decide) dX11_line_135 ?_
          refine G_sI hX atM2 dX11_line_139 (fun μ => ?_)
          refine G_goto hX 291 (by decide) dX11_line_140 ?_
          refine G_aload_n hX 1 rfl rfl dX11_line_291 ?_
          refine G_bipush hX (59 : Int32) rfl dX11_line_292 ?_
          refine G_cVv hX 0 11 (fun ad adK => [.int (59 : Int32)]) [] (fun z2 h2 => cX11_sign_ok (cx_l X) N (59 : Int32) μ z2 h2) ok_X11_sign lm_X11_276 atM0.1 atM0.2 rfl rfl (fun _ _ => rfl) (Nat.le_of_ble_eq_true rfl) ⟨rfl, rfl, by decide, by decide⟩ (cs0 hcs) dX11_line_294 (fun μ => ?_)
          exact G_vret hX hQ dX11_line_297
    · refine G_aload_n hX 0 rfl rfl dX11_line_64 ?_
      refine gf_X11_189_M0 hX dX11_line_65 ?_
      refine G_nmi (fun x15 => ?_)
      refine G_iconst hX (4 : Int32) rfl dX11_line_68 ?_
      refine G_icmp_ne hX 76 (by decide) dX11_line_69 ?_ ?_
      · exact G_sub [0] rfl (gX11_line_76 hX hQ hcs N μ)
      · refine G_aload_n hX 0 rfl rfl dX11_line_72 ?_
        refine G_cVv hX 0 11 (fun ad adK => []) [] (fun z2 h2 => cX11_wrong_ok (cx_l X) N μ z2 h2) ok_X11_wrong lm_X11_148 atM0.1 atM0.2 rfl rfl (fun _ _ => rfl) (Nat.le_of_ble_eq_true rfl) ⟨rfl, rfl, by decide, by decide⟩ (cs0 hcs) dX11_line_73 (fun μ => ?_)
        exact G_sub [0] rfl (gX11_line_76 hX hQ hcs N μ)
  · refine G_aload_n hX 0 rfl rfl dX11_line_14 ?_
    refine gf_X11_196_M0 hX dX11_line_15 ?_
    refine G_nmi (fun x16 => ?_)
    refine G_bipush hX (6 : Int32) rfl dX11_line_18 ?_
    refine G_icmp_ne hX 27 (by decide) dX11_line_20 ?_ ?_
    · exact G_sub [0] rfl (gX11_line_27 hX hQ hcs N μ)
    · refine G_aload_n hX 0 rfl rfl dX11_line_23 ?_
      refine G_cVv hX 0 11 (fun ad adK => []) [] (fun z2 h2 => cX11_wrong_ok (cx_l X) N μ z2 h2) ok_X11_wrong lm_X11_148 atM0.1 atM0.2 rfl rfl (fun _ _ => rfl) (Nat.le_of_ble_eq_true rfl) ⟨rfl, rfl, by decide, by decide⟩ (cs0 hcs) dX11_line_24 (fun μ => ?_)
      exact G_sub [0] rfl (gX11_line_27 hX hQ hcs N μ)
theorem cX11_line_ok (l : Launch) (N : Nat) (μ : Mem) (z : Unit × Mem) (h : fX11_line N μ = some z) : Mv wM l yX11_line cX11_line 2 (rmo 10 221) (fun ad adK => [.ref (ad 0)]) μ z := Mv.of h (by decide +kernel) (fun _ _ => Nat.le_of_ble_eq_true rfl) (fun X hX hQ hl hcs => gX11_line_E hX hQ hcs N μ)
/-! ===== DutyCaseModel.takesAll()V ===== -/
set_option maxHeartbeats 4000000 in
set_option maxRecDepth 100000 in
theorem gX11_takesAll_184 {X : Ctx} {z : Unit × Mem} (hX : Fx wM X cX11_takesAll 2 RX11 none (rmo 0 0)) (hQ : Qx_v wM X z) (hcs : cx_cells X = 0 ∧ cx_slots X = 0) (N : Nat) (μ : Mem) : G wM X z 184 [(0, .ref (cx_ad X 0))] [] μ (fX11_takesAll_184 N μ) := by
  unfold fX11_takesAll_184
  refine G_aload_n hX 0 rfl rfl dX11_takesAll_184 ?_
  refine G_iconst hX (0 : Int32) rfl dX11_takesAll_185 ?_
  refine pf_X11_294_M0 hX dX11_takesAll_186 (fun μ => ?_)
  refine G_aload_n hX 0 rfl rfl dX11_takesAll_189 ?_
  refine G_iconst hX (0 : Int32) rfl dX11_takesAll_190 ?_
  refine pf_X11_297_M0 hX ⟨rfl, rfl⟩ dX11_takesAll_191 (fun μ => ?_)
  exact G_vret hX hQ dX11_takesAll_194
set_option maxHeartbeats 4000000 in
set_option maxRecDepth 100000 in
theorem gX11_takesAll_161 {X : Ctx} {z : Unit × Mem} (hX : Fx wM X cX11_takesAll 2 RX11 none (rmo 0 0)) (hQ : Qx_v wM X z) (hcs : cx_cells X = 0 ∧ cx_slots X = 0) (N : Nat) : ∀ (n : Nat) (v1 : Int32) (μ : Mem), G wM X z 161 [(0, .ref (cx_ad X 0)), (1, .int v1)] [] μ (fX11_takesAll_161 N n v1 μ) := by
  intro n
  induction n with
  | zero =>
    intro v1 μ
    exact G_none
  | succ n ih =>
    intro v1 μ
    unfold fX11_takesAll_161
    refine G_iload_n hX 1 rfl rfl dX11_takesAll_161 ?_
    refine G_iconst hX (3 : Int32) rfl dX11_takesAll_162 ?_
    refine G_icmp_ge hX 184 (by decide) dX11_takesAll_163 ?_ ?_
    · exact G_sub [0] rfl (gX11_takesAll_184 hX hQ hcs N μ)
    · refine G_aload_n hX 0 rfl rfl dX11_takesAll_166 ?_
      refine gf_X11_34_M0 hX dX11_takesAll_167 ?_
      refine G_iload_n hX 1 rfl rfl dX11_takesAll_170 ?_
      refine G_aload_n hX 0 rfl rfl dX11_takesAll_171 ?_
      refine gf_X11_60_M0 hX dX11_takesAll_172 ?_
      refine G_iload_n hX 1 rfl rfl dX11_takesAll_175 ?_
      refine G_aI hX atM16 dX11_takesAll_176 (fun x14 => ?_)
      refine G_sI hX atM9 dX11_takesAll_177 (fun μ => ?_)
      refine G_iincN hX 1 (fun x15 => [(1, .int x15), (0, .ref (cx_ad X 0))]) rfl rfl (by decide) (fun _ => rfl) dX11_takesAll_178 (fun x15 => ?_)
      refine G_goto hX 161 (by decide) dX11_takesAll_181 ?_
      exact G_sub [1, 0] rfl (ih x15 μ)
set_option maxHeartbeats 4000000 in
set_option maxRecDepth 100000 in
theorem gX11_takesAll_122 {X : Ctx} {z : Unit × Mem} (hX : Fx wM X cX11_takesAll 2 RX11 none (rmo 0 0)) (hQ : Qx_v wM X z) (hcs : cx_cells X = 0 ∧ cx_slots X = 0) (N : Nat) : ∀ (n : Nat) (v1 : Int32) (μ : Mem), G wM X z 122 [(0, .ref (cx_ad X 0)), (1, .int v1)] [] μ (fX11_takesAll_122 N n v1 μ) := by
  intro n
  induction n with
  | zero =>
    intro v1 μ
    exact G_none
  | succ n ih =>
    intro v1 μ
    unfold fX11_takesAll_122
    refine G_iload_n hX 1 rfl rfl dX11_takesAll_122 ?_
    refine G_sipush hX (1200 : Int32) rfl dX11_takesAll_123 ?_
    refine G_icmp_ge hX 159 (by decide) dX11_takesAll_126 ?_ ?_
    · refine G_iconst hX (0 : Int32) rfl dX11_takesAll_159 ?_
      refine G_istore_n hX [(1, .int (0 : Int32)), (0, .ref (cx_ad X 0))] rfl (by decide) rfl dX11_takesAll_160 ?_
      exact G_sub [1, 0] rfl (gX11_takesAll_161 hX hQ hcs N N (0 : Int32) μ)
    · refine G_aload_n hX 0 rfl rfl dX11_takesAll_129 ?_
      refine gf_X11_28_M0 hX dX11_takesAll_130 ?_
      refine G_iload_n hX 1 rfl rfl dX11_takesAll_133 ?_
      refine G_aload_n hX 0 rfl rfl dX11_takesAll_134 ?_
      refine gf_X11_54_M0 hX dX11_takesAll_135 ?_
      refine G_iload_n hX 1 rfl rfl dX11_takesAll_138 ?_
      refine G_aI hX atM14 dX11_takesAll_139 (fun x11 => ?_)
      refine G_sI hX atM7 dX11_takesAll_140 (fun μ => ?_)
      refine G_aload_n hX 0 rfl rfl dX11_takesAll_141 ?_
      refine gf_X11_31_M0 hX dX11_takesAll_142 ?_
      refine G_iload_n hX 1 rfl rfl dX11_takesAll_145 ?_
      refine G_aload_n hX 0 rfl rfl dX11_takesAll_146 ?_
      refine gf_X11_57_M0 hX dX11_takesAll_147 ?_
      refine G_iload_n hX 1 rfl rfl dX11_takesAll_150 ?_
      refine G_aI hX atM15 dX11_takesAll_151 (fun x12 => ?_)
      refine G_sI hX atM8 dX11_takesAll_152 (fun μ => ?_)
      refine G_iincN hX 1 (fun x13 => [(1, .int x13), (0, .ref (cx_ad X 0))]) rfl rfl (by decide) (fun _ => rfl) dX11_takesAll_153 (fun x13 => ?_)
      refine G_goto hX 122 (by decide) dX11_takesAll_156 ?_
      exact G_sub [1, 0] rfl (ih x13 μ)
set_option maxHeartbeats 4000000 in
set_option maxRecDepth 100000 in
theorem gX11_takesAll_96 {X : Ctx} {z : Unit × Mem} (hX : Fx wM X cX11_takesAll 2 RX11 none (rmo 0 0)) (hQ : Qx_v wM X z) (hcs : cx_cells X = 0 ∧ cx_slots X = 0) (N : Nat) : ∀ (n : Nat) (v1 : Int32) (μ : Mem), G wM X z 96 [(0, .ref (cx_ad X 0)), (1, .int v1)] [] μ (fX11_takesAll_96 N n v1 μ) := by
  intro n
  induction n with
  | zero =>
    intro v1 μ
    exact G_none
  | succ n ih =>
    intro v1 μ
    unfold fX11_takesAll_96
    refine G_iload_n hX 1 rfl rfl dX11_takesAll_96 ?_
    refine G_bipush hX (18 : Int32) rfl dX11_takesAll_97 ?_
    refine G_icmp_ge hX 120 (by decide) dX11_takesAll_99 ?_ ?_
    · refine G_iconst hX (0 : Int32) rfl dX11_takesAll_120 ?_
      refine G_istore_n hX [(1, .int (0 : Int32)), (0, .ref (cx_ad X 0))] rfl (by decide) rfl dX11_takesAll_121 ?_
      exact G_sub [1, 0] rfl (gX11_takesAll_122 hX hQ hcs N N (0 : Int32) μ)
    · refine G_aload_n hX 0 rfl rfl dX11_takesAll_102 ?_
      refine gf_X11_25_M0 hX dX11_takesAll_103 ?_
      refine G_iload_n hX 1 rfl rfl dX11_takesAll_106 ?_
      refine G_aload_n hX 0 rfl rfl dX11_takesAll_107 ?_
      refine gf_X11_51_M0 hX dX11_takesAll_108 ?_
      refine G_iload_n hX 1 rfl rfl dX11_takesAll_111 ?_
      refine G_aI hX atM13 dX11_takesAll_112 (fun x9 => ?_)
      refine G_sI hX atM6 dX11_takesAll_113 (fun μ => ?_)
      refine G_iincN hX 1 (fun x10 => [(1, .int x10), (0, .ref (cx_ad X 0))]) rfl rfl (by decide) (fun _ => rfl) dX11_takesAll_114 (fun x10 => ?_)
      refine G_goto hX 96 (by decide) dX11_takesAll_117 ?_
      exact G_sub [1, 0] rfl (ih x10 μ)
set_option maxHeartbeats 4000000 in
set_option maxRecDepth 100000 in
theorem gX11_takesAll_71 {X : Ctx} {z : Unit × Mem} (hX : Fx wM X cX11_takesAll 2 RX11 none (rmo 0 0)) (hQ : Qx_v wM X z) (hcs : cx_cells X = 0 ∧ cx_slots X = 0) (N : Nat) : ∀ (n : Nat) (v1 : Int32) (μ : Mem), G wM X z 71 [(0, .ref (cx_ad X 0)), (1, .int v1)] [] μ (fX11_takesAll_71 N n v1 μ) := by
  intro n
  induction n with
  | zero =>
    intro v1 μ
    exact G_none
  | succ n ih =>
    intro v1 μ
    unfold fX11_takesAll_71
    refine G_iload_n hX 1 rfl rfl dX11_takesAll_71 ?_
    refine G_iconst hX (4 : Int32) rfl dX11_takesAll_72 ?_
    refine G_icmp_ge hX 94 (by decide) dX11_takesAll_73 ?_ ?_
    · refine G_iconst hX (0 : Int32) rfl dX11_takesAll_94 ?_
      refine G_istore_n hX [(1, .int (0 : Int32)), (0, .ref (cx_ad X 0))] rfl (by decide) rfl dX11_takesAll_95 ?_
      exact G_sub [1, 0] rfl (gX11_takesAll_96 hX hQ hcs N N (0 : Int32) μ)
    · refine G_aload_n hX 0 rfl rfl dX11_takesAll_76 ?_
      refine gf_X11_22_M0 hX dX11_takesAll_77 ?_
      refine G_iload_n hX 1 rfl rfl dX11_takesAll_80 ?_
      refine G_aload_n hX 0 rfl rfl dX11_takesAll_81 ?_
      refine gf_X11_48_M0 hX dX11_takesAll_82 ?_
      refine G_iload_n hX 1 rfl rfl dX11_takesAll_85 ?_
      refine G_aI hX atM12 dX11_takesAll_86 (fun x7 => ?_)
      refine G_sI hX atM5 dX11_takesAll_87 (fun μ => ?_)
      refine G_iincN hX 1 (fun x8 => [(1, .int x8), (0, .ref (cx_ad X 0))]) rfl rfl (by decide) (fun _ => rfl) dX11_takesAll_88 (fun x8 => ?_)
      refine G_goto hX 71 (by decide) dX11_takesAll_91 ?_
      exact G_sub [1, 0] rfl (ih x8 μ)
set_option maxHeartbeats 4000000 in
set_option maxRecDepth 100000 in
theorem gX11_takesAll_45 {X : Ctx} {z : Unit × Mem} (hX : Fx wM X cX11_takesAll 2 RX11 none (rmo 0 0)) (hQ : Qx_v wM X z) (hcs : cx_cells X = 0 ∧ cx_slots X = 0) (N : Nat) : ∀ (n : Nat) (v1 : Int32) (μ : Mem), G wM X z 45 [(0, .ref (cx_ad X 0)), (1, .int v1)] [] μ (fX11_takesAll_45 N n v1 μ) := by
  intro n
  induction n with
  | zero =>
    intro v1 μ
    exact G_none
  | succ n ih =>
    intro v1 μ
    unfold fX11_takesAll_45
    refine G_iload_n hX 1 rfl rfl dX11_takesAll_45 ?_
    refine G_bipush hX (6 : Int32) rfl dX11_takesAll_46 ?_
    refine G_icmp_ge hX 69 (by decide) dX11_takesAll_48 ?_ ?_
    · refine G_iconst hX (0 : Int32) rfl dX11_takesAll_69 ?_
      refine G_istore_n hX [(1, .int (0 : Int32)), (0, .ref (cx_ad X 0))] rfl (by decide) rfl dX11_takesAll_70 ?_
      exact G_sub [1, 0] rfl (gX11_takesAll_71 hX hQ hcs N N (0 : Int32) μ)
    · refine G_aload_n hX 0 rfl rfl dX11_takesAll_51 ?_
      refine gf_X11_19_M0 hX dX11_takesAll_52 ?_
      refine G_iload_n hX 1 rfl rfl dX11_takesAll_55 ?_
      refine G_aload_n hX 0 rfl rfl dX11_takesAll_56 ?_
      refine gf_X11_45_M0 hX dX11_takesAll_57 ?_
      refine G_iload_n hX 1 rfl rfl dX11_takesAll_60 ?_
      refine G_aI hX atM11 dX11_takesAll_61 (fun x5 => ?_)
      refine G_sI hX atM4 dX11_takesAll_62 (fun μ => ?_)
      refine G_iincN hX 1 (fun x6 => [(1, .int x6), (0, .ref (cx_ad X 0))]) rfl rfl (by decide) (fun _ => rfl) dX11_takesAll_63 (fun x6 => ?_)
      refine G_goto hX 45 (by decide) dX11_takesAll_66 ?_
      exact G_sub [1, 0] rfl (ih x6 μ)
set_option maxHeartbeats 4000000 in
set_option maxRecDepth 100000 in
theorem gX11_takesAll_27 {X : Ctx} {z : Unit × Mem} (hX : Fx wM X cX11_takesAll 2 RX11 none (rmo 0 0)) (hQ : Qx_v wM X z) (hcs : cx_cells X = 0 ∧ cx_slots X = 0) (N : Nat) (μ : Mem) : G wM X z 27 [(0, .ref (cx_ad X 0))] [] μ (fX11_takesAll_27 N μ) := by
  unfold fX11_takesAll_27
  refine G_aload_n hX 0 rfl rfl dX11_takesAll_27 ?_
  refine G_aload_n hX 0 rfl rfl dX11_takesAll_28 ?_
  refine gf_X11_196_M0 hX dX11_takesAll_29 ?_
  refine G_nmi (fun x3 => ?_)
  refine pf_X11_288_M0 hX dX11_takesAll_32 (fun μ => ?_)
  refine G_aload_n hX 0 rfl rfl dX11_takesAll_35 ?_
  refine G_aload_n hX 0 rfl rfl dX11_takesAll_36 ?_
  refine gf_X11_189_M0 hX dX11_takesAll_37 ?_
  refine G_nmi (fun x4 => ?_)
  refine pf_X11_291_M0 hX dX11_takesAll_40 (fun μ => ?_)
  refine G_iconst hX (0 : Int32) rfl dX11_takesAll_43 ?_
  refine G_istore_n hX [(1, .int (0 : Int32)), (0, .ref (cx_ad X 0))] rfl (by decide) rfl dX11_takesAll_44 ?_
  exact G_sub [1, 0] rfl (gX11_takesAll_45 hX hQ hcs N N (0 : Int32) μ)
set_option maxHeartbeats 4000000 in
set_option maxRecDepth 100000 in
theorem gX11_takesAll_2 {X : Ctx} {z : Unit × Mem} (hX : Fx wM X cX11_takesAll 2 RX11 none (rmo 0 0)) (hQ : Qx_v wM X z) (hcs : cx_cells X = 0 ∧ cx_slots X = 0) (N : Nat) : ∀ (n : Nat) (v1 : Int32) (μ : Mem), G wM X z 2 [(0, .ref (cx_ad X 0)), (1, .int v1)] [] μ (fX11_takesAll_2 N n v1 μ) := by
  intro n
  induction n with
  | zero =>
    intro v1 μ
    exact G_none
  | succ n ih =>
    intro v1 μ
    unfold fX11_takesAll_2
    refine G_iload_n hX 1 rfl rfl dX11_takesAll_2 ?_
    refine G_sipush hX (355 : Int32) rfl dX11_takesAll_3 ?_
    refine G_icmp_ge hX 27 (by decide) dX11_takesAll_6 ?_ ?_
    · exact G_sub [0] rfl (gX11_takesAll_27 hX hQ hcs N μ)
    · refine G_aload_n hX 0 rfl rfl dX11_takesAll_9 ?_
      refine gf_X11_7_M0 hX dX11_takesAll_10 ?_
      refine G_iload_n hX 1 rfl rfl dX11_takesAll_13 ?_
      refine G_aload_n hX 0 rfl rfl dX11_takesAll_14 ?_
      refine gf_X11_13_M0 hX dX11_takesAll_15 ?_
      refine G_iload_n hX 1 rfl rfl dX11_takesAll_18 ?_
      refine G_aI hX atM2 dX11_takesAll_19 (fun x1 => ?_)
      refine G_sI hX atM1 dX11_takesAll_20 (fun μ => ?_)
      refine G_iincN hX 1 (fun x2 => [(1, .int x2), (0, .ref (cx_ad X 0))]) rfl rfl (by decide) (fun _ => rfl) dX11_takesAll_21 (fun x2 => ?_)
      refine G_goto hX 2 (by decide) dX11_takesAll_24 ?_
      exact G_sub [1, 0] rfl (ih x2 μ)
set_option maxHeartbeats 4000000 in
set_option maxRecDepth 100000 in
theorem gX11_takesAll_E {X : Ctx} {z : Unit × Mem} (hX : Fx wM X cX11_takesAll 2 RX11 none (rmo 0 0)) (hQ : Qx_v wM X z) (hcs : cx_cells X = 0 ∧ cx_slots X = 0) (N : Nat) (μ : Mem) : G wM X z 0 [(0, .ref (cx_ad X 0))] [] μ (fX11_takesAll N μ) := by
  unfold fX11_takesAll
  refine G_iconst hX (0 : Int32) rfl dX11_takesAll_0 ?_
  refine G_istore_n hX [(1, .int (0 : Int32)), (0, .ref (cx_ad X 0))] rfl (by decide) rfl dX11_takesAll_1 ?_
  exact G_sub [1, 0] rfl (gX11_takesAll_2 hX hQ hcs N N (0 : Int32) μ)
theorem cX11_takesAll_ok (l : Launch) (N : Nat) (μ : Mem) (z : Unit × Mem) (h : fX11_takesAll N μ = some z) : Mv wM l yX11_takesAll cX11_takesAll 2 (rmo 0 0) (fun ad adK => [.ref (ad 0)]) μ z := Mv.of h (by decide +kernel) (fun _ _ => Nat.le_of_ble_eq_true rfl) (fun X hX hQ hl hcs => gX11_takesAll_E hX hQ hcs N μ)
/-! ===== DutyCaseModel.read()I ===== -/
set_option maxHeartbeats 4000000 in
set_option maxRecDepth 100000 in
theorem gX11_read_111 {X : Ctx} {z : Int32 × Mem} (hX : Fx wM X cX11_read 2 RX11 (some .int) (rmo 11 242)) (hQ : Qx_i wM X z) (hcs : cx_cells X = 0 ∧ cx_slots X = 0) (N : Nat) (μ : Mem) : G wM X z 111 [(0, .ref (cx_ad X 0))] [] μ (fX11_read_111 N μ) := by
  unfold fX11_read_111
  refine G_aload_n hX 0 rfl rfl dX11_read_111 ?_
  refine G_cVi hX 0 11 (fun ad adK => []) [] (fun z2 h2 => cX11_isWrong_ok (cx_l X) N μ z2 h2) ok_X11_isWrong lm_X11_140 atM0.1 atM0.2 rfl rfl (fun _ _ => rfl) (Nat.le_of_ble_eq_true rfl) ⟨rfl, rfl, by decide, by decide⟩ (cs0 hcs) dX11_read_112 (fun r6 μ => ?_)
  refine G_if_eq hX 124 (by decide) dX11_read_115 ?_ ?_
  · refine G_aload_n hX 0 rfl rfl dX11_read_124 ?_
    refine G_cVv hX 0 11 (fun ad adK => []) [] (fun z2 h2 => cX11_takesAll_ok (cx_l X) N μ z2 h2) ok_X11_takesAll lm_X11_285 atM0.1 atM0.2 rfl rfl (fun _ _ => rfl) (Nat.le_of_ble_eq_true rfl) ⟨rfl, rfl, by decide, by decide⟩ (cs0 hcs) dX11_read_125 (fun μ => ?_)
    refine G_aload_n hX 0 rfl rfl dX11_read_128 ?_
    refine gf_X11_7_M0 hX dX11_read_129 ?_
    refine G_bipush hX (34 : Int32) rfl dX11_read_132 ?_
    refine G_aI hX atM1 dX11_read_134 (fun x7 => ?_)
    exact G_iret hX hQ dX11_read_135
  · refine G_aload_n hX 0 rfl rfl dX11_read_118 ?_
    refine G_iconst hX (1 : Int32) rfl dX11_read_119 ?_
    refine G_cVi hX 0 11 (fun ad adK => [.int (1 : Int32)]) [] (fun z2 h2 => cX11_fails_ok (cx_l X) N (1 : Int32) μ z2 h2) ok_X11_fails lm_X11_282 atM0.1 atM0.2 rfl rfl (fun _ _ => rfl) (Nat.le_of_ble_eq_true rfl) ⟨rfl, rfl, by decide, by decide⟩ (cs0 hcs) dX11_read_120 (fun r8 μ => ?_)
    exact G_iret hX hQ dX11_read_123
set_option maxHeartbeats 4000000 in
set_option maxRecDepth 100000 in
theorem gX11_read_89 {X : Ctx} {z : Int32 × Mem} (hX : Fx wM X cX11_read 2 RX11 (some .int) (rmo 11 242)) (hQ : Qx_i wM X z) (hcs : cx_cells X = 0 ∧ cx_slots X = 0) (N : Nat) : ∀ (n : Nat) (μ : Mem), G wM X z 89 [(0, .ref (cx_ad X 0))] [] μ (fX11_read_89 N n μ) := by
  intro n
  induction n with
  | zero =>
    intro μ
    exact G_none
  | succ n ih =>
    intro μ
    unfold fX11_read_89
    refine G_aload_n hX 0 rfl rfl dX11_read_89 ?_
    refine G_cVi hX 0 11 (fun ad adK => []) [] (fun z2 h2 => cX11_isWrong_ok (cx_l X) N μ z2 h2) ok_X11_isWrong lm_X11_140 atM0.1 atM0.2 rfl rfl (fun _ _ => rfl) (Nat.le_of_ble_eq_true rfl) ⟨rfl, rfl, by decide, by decide⟩ (cs0 hcs) dX11_read_90 (fun r4 μ => ?_)
    refine G_if_ne hX 111 (by decide) dX11_read_93 ?_ ?_
    · exact G_sub [0] rfl (gX11_read_111 hX hQ hcs N μ)
    · refine G_aload_n hX 0 rfl rfl dX11_read_96 ?_
      refine G_cVi hX 0 11 (fun ad adK => []) [] (fun z2 h2 => cX11_here_ok (cx_l X) N μ z2 h2) ok_X11_here lm_X11_120 atM0.1 atM0.2 rfl rfl (fun _ _ => rfl) (Nat.le_of_ble_eq_true rfl) ⟨rfl, rfl, by decide, by decide⟩ (cs0 hcs) dX11_read_97 (fun r5 μ => ?_)
      refine G_iconst hX (-1 : Int32) rfl dX11_read_100 ?_
      refine G_icmp_eq hX 111 (by decide) dX11_read_101 ?_ ?_
      · exact G_sub [0] rfl (gX11_read_111 hX hQ hcs N μ)
      · refine G_aload_n hX 0 rfl rfl dX11_read_104 ?_
        refine G_cVv hX 0 11 (fun ad adK => []) [] (fun z2 h2 => cX11_line_ok (cx_l X) N μ z2 h2) ok_X11_line lm_X11_279 atM0.1 atM0.2 rfl rfl (fun _ _ => rfl) (Nat.le_of_ble_eq_true rfl) ⟨rfl, rfl, by decide, by decide⟩ (cs0 hcs) dX11_read_105 (fun μ => ?_)
        refine G_goto hX 89 (by decide) dX11_read_108 ?_
        exact G_sub [0] rfl (ih μ)
set_option maxHeartbeats 4000000 in
set_option maxRecDepth 100000 in
theorem gX11_read_71 {X : Ctx} {z : Int32 × Mem} (hX : Fx wM X cX11_read 2 RX11 (some .int) (rmo 11 242)) (hQ : Qx_i wM X z) (hcs : cx_cells X = 0 ∧ cx_slots X = 0) (N : Nat) : ∀ (n : Nat) (v1 : Int32) (μ : Mem), G wM X z 71 [(0, .ref (cx_ad X 0)), (1, .int v1)] [] μ (fX11_read_71 N n v1 μ) := by
  intro n
  induction n with
  | zero =>
    intro v1 μ
    exact G_none
  | succ n ih =>
    intro v1 μ
    unfold fX11_read_71
    refine G_iload_n hX 1 rfl rfl dX11_read_71 ?_
    refine G_iconst hX (3 : Int32) rfl dX11_read_72 ?_
    refine G_icmp_ge hX 89 (by decide) dX11_read_73 ?_ ?_
    · exact G_sub [0] rfl (gX11_read_89 hX hQ hcs N N μ)
    · refine G_aload_n hX 0 rfl rfl dX11_read_76 ?_
      refine gf_X11_60_M0 hX dX11_read_77 ?_
      refine G_iload_n hX 1 rfl rfl dX11_read_80 ?_
      refine G_iconst hX (0 : Int32) rfl dX11_read_81 ?_
      refine G_sI hX atM16 dX11_read_82 (fun μ => ?_)
      refine G_iincN hX 1 (fun x3 => [(1, .int x3), (0, .ref (cx_ad X 0))]) rfl rfl (by decide) (fun _ => rfl) dX11_read_83 (fun x3 => ?_)
      refine G_goto hX 71 (by decide) dX11_read_86 ?_
      exact G_sub [1, 0] rfl (ih x3 μ)
set_option maxHeartbeats 4000000 in
set_option maxRecDepth 100000 in
theorem gX11_read_50 {X : Ctx} {z : Int32 × Mem} (hX : Fx wM X cX11_read 2 RX11 (some .int) (rmo 11 242)) (hQ : Qx_i wM X z) (hcs : cx_cells X = 0 ∧ cx_slots X = 0) (N : Nat) (μ : Mem) : G wM X z 50 [(0, .ref (cx_ad X 0))] [] μ (fX11_read_50 N μ) := by
  unfold fX11_read_50
  refine G_aload_n hX 0 rfl rfl dX11_read_50 ?_
  refine gf_X11_13_M0 hX dX11_read_51 ?_
  refine G_bipush hX (32 : Int32) rfl dX11_read_54 ?_
  refine G_bipush hX (10 : Int32) rfl dX11_read_56 ?_
  refine G_sI hX atM2 dX11_read_58 (fun μ => ?_)
  refine G_aload_n hX 0 rfl rfl dX11_read_59 ?_
  refine G_iconst hX (0 : Int32) rfl dX11_read_60 ?_
  refine pf_X11_196_M0 hX dX11_read_61 (fun μ => ?_)
  refine G_aload_n hX 0 rfl rfl dX11_read_64 ?_
  refine G_iconst hX (0 : Int32) rfl dX11_read_65 ?_
  refine pf_X11_189_M0 hX dX11_read_66 (fun μ => ?_)
  refine G_iconst hX (0 : Int32) rfl dX11_read_69 ?_
  refine G_istore_n hX [(1, .int (0 : Int32)), (0, .ref (cx_ad X 0))] rfl (by decide) rfl dX11_read_70 ?_
  exact G_sub [1, 0] rfl (gX11_read_71 hX hQ hcs N N (0 : Int32) μ)
set_option maxHeartbeats 4000000 in
set_option maxRecDepth 100000 in
theorem gX11_read_30 {X : Ctx} {z : Int32 × Mem} (hX : Fx wM X cX11_read 2 RX11 (some .int) (rmo 11 242)) (hQ : Qx_i wM X z) (hcs : cx_cells X = 0 ∧ cx_slots X = 0) (N : Nat) : ∀ (n : Nat) (v1 : Int32) (μ : Mem), G wM X z 30 [(0, .ref (cx_ad X 0)), (1, .int v1)] [] μ (fX11_read_30 N n v1 μ) := by
  intro n
  induction n with
  | zero =>
    intro v1 μ
    exact G_none
  | succ n ih =>
    intro v1 μ
    unfold fX11_read_30
    refine G_iload_n hX 1 rfl rfl dX11_read_30 ?_
    refine G_sipush hX (355 : Int32) rfl dX11_read_31 ?_
    refine G_icmp_ge hX 50 (by decide) dX11_read_34 ?_ ?_
    · exact G_sub [0] rfl (gX11_read_50 hX hQ hcs N μ)
    · refine G_aload_n hX 0 rfl rfl dX11_read_37 ?_
      refine gf_X11_13_M0 hX dX11_read_38 ?_
      refine G_iload_n hX 1 rfl rfl dX11_read_41 ?_
      refine G_iconst hX (0 : Int32) rfl dX11_read_42 ?_
      refine G_sI hX atM2 dX11_read_43 (fun μ => ?_)
      refine G_iincN hX 1 (fun x2 => [(1, .int x2), (0, .ref (cx_ad X 0))]) rfl rfl (by decide) (fun _ => rfl) dX11_read_44 (fun x2 => ?_)
      refine G_goto hX 30 (by decide) dX11_read_47 ?_
      exact G_sub [1, 0] rfl (ih x2 μ)
set_option maxHeartbeats 4000000 in
set_option maxRecDepth 100000 in
theorem gX11_read_E {X : Ctx} {z : Int32 × Mem} (hX : Fx wM X cX11_read 2 RX11 (some .int) (rmo 11 242)) (hQ : Qx_i wM X z) (hcs : cx_cells X = 0 ∧ cx_slots X = 0) (N : Nat) (μ : Mem) : G wM X z 0 [(0, .ref (cx_ad X 0))] [] μ (fX11_read N μ) := by
  unfold fX11_read
  refine G_aload_n hX 0 rfl rfl dX11_read_0 ?_
  refine G_iconst hX (0 : Int32) rfl dX11_read_1 ?_
  refine pf_X11_104_M0 hX dX11_read_2 (fun μ => ?_)
  refine G_aload_n hX 0 rfl rfl dX11_read_5 ?_
  refine G_aload_n hX 0 rfl rfl dX11_read_6 ?_
  refine gf_X11_107_M0 hX dX11_read_7 ?_
  refine G_nmi (fun x1 => ?_)
  refine pf_X11_117_M0 hX dX11_read_10 (fun μ => ?_)
  refine G_aload_n hX 0 rfl rfl dX11_read_13 ?_
  refine G_iconst hX (0 : Int32) rfl dX11_read_14 ?_
  refine pf_X11_107_M0 hX dX11_read_15 (fun μ => ?_)
  refine G_aload_n hX 0 rfl rfl dX11_read_18 ?_
  refine G_iconst hX (0 : Int32) rfl dX11_read_19 ?_
  refine pf_X11_110_M0 hX dX11_read_20 (fun μ => ?_)
  refine G_aload_n hX 0 rfl rfl dX11_read_23 ?_
  refine G_iconst hX (-1 : Int32) rfl dX11_read_24 ?_
  refine pf_X11_41_M0 hX dX11_read_25 (fun μ => ?_)
  refine G_iconst hX (0 : Int32) rfl dX11_read_28 ?_
  refine G_istore_n hX [(1, .int (0 : Int32)), (0, .ref (cx_ad X 0))] rfl (by decide) rfl dX11_read_29 ?_
  exact G_sub [1, 0] rfl (gX11_read_30 hX hQ hcs N N (0 : Int32) μ)
theorem cX11_read_ok (l : Launch) (N : Nat) (μ : Mem) (z : Int32 × Mem) (h : fX11_read N μ = some z) : Mi wM l yX11_read cX11_read 2 .int (rmo 11 242) (fun ad adK => [.ref (ad 0)]) μ z := Mi.of h (by decide +kernel) (fun _ _ => Nat.le_of_ble_eq_true rfl) (fun X hX hQ hl hcs => gX11_read_E hX hQ hcs N μ)
/-! ===== DutyCaseModel.fault()I ===== -/
set_option maxHeartbeats 4000000 in
set_option maxRecDepth 100000 in
theorem gX11_fault_E {X : Ctx} {z : Int32 × Mem} (hX : Fx wM X cX11_fault 1 RX11 (some .int) (rmo 0 0)) (hQ : Qx_i wM X z) (hcs : cx_cells X = 0 ∧ cx_slots X = 0) (N : Nat) (μ : Mem) : G wM X z 0 [(0, .ref (cx_ad X 0))] [] μ (fX11_fault N μ) := by
  unfold fX11_fault
  refine G_aload_n hX 0 rfl rfl dX11_fault_0 ?_
  refine G_iconst hX (0 : Int32) rfl dX11_fault_1 ?_
  refine pf_X11_104_M0 hX dX11_fault_2 (fun μ => ?_)
  refine G_aload_n hX 0 rfl rfl dX11_fault_5 ?_
  refine gf_X11_41_M0 hX dX11_fault_6 ?_
  refine G_nmi (fun x1 => ?_)
  exact G_iret hX hQ dX11_fault_9
theorem cX11_fault_ok (l : Launch) (N : Nat) (μ : Mem) (z : Int32 × Mem) (h : fX11_fault N μ = some z) : Mi wM l yX11_fault cX11_fault 1 .int (rmo 0 0) (fun ad adK => [.ref (ad 0)]) μ z := Mi.of h (by decide +kernel) (fun _ _ => Nat.le_of_ble_eq_true rfl) (fun X hX hQ hl hcs => gX11_fault_E hX hQ hcs N μ)
/-! ===== DutyCaseModel.isModel(I)Z ===== -/
set_option maxHeartbeats 4000000 in
set_option maxRecDepth 100000 in
theorem gX11_isModel_E {X : Ctx} {z : Int32 × Mem} (hX : Fx wM X cX11_isModel 2 RX11 (some .boolean) (rmo 1 25)) (hQ : Qx_i wM X z) (hcs : cx_cells X = 0 ∧ cx_slots X = 0) (N : Nat) (p0 : Int32) (μ : Mem) : G wM X z 0 [(0, .ref (cx_ad X 0)), (1, .int p0)] [] μ (fX11_isModel N p0 μ) := by
  unfold fX11_isModel
  refine G_iload_n hX 1 rfl rfl dX11_isModel_0 ?_
  refine G_i2l hX dX11_isModel_1 ?_
  refine G_lconst hX (0 : Int64) rfl dX11_isModel_2 ?_
  refine G_aload_n hX 0 rfl rfl dX11_isModel_3 ?_
  refine gf_X11_288_M0 hX dX11_isModel_4 ?_
  refine G_nmi (fun x1 => ?_)
  refine G_iconst hX (1 : Int32) rfl dX11_isModel_7 ?_
  refine G_isub hX dX11_isModel_8 ?_
  refine G_i2l hX dX11_isModel_9 ?_
  refine G_cSi hX (fun ad adK => [.long p0.toInt64, .long (0 : Int64), .long ((x1 - (1 : Int32)).toInt64)]) [] (fun z2 h2 => cX11_isIn_ok (cx_l X) N p0.toInt64 (0 : Int64) ((x1 - (1 : Int32)).toInt64) μ z2 h2) ok_X11_isIn lm_X11_301 rfl (fun _ _ => rfl) (Nat.le_of_ble_eq_true rfl) ⟨rfl, rfl, by decide, by decide⟩ (cs0 hcs) dX11_isModel_10 (fun r2 μ => ?_)
  exact G_zretZ hX hQ dX11_isModel_13
theorem cX11_isModel_ok (l : Launch) (N : Nat) (p0 : Int32) (μ : Mem) (z : Int32 × Mem) (h : fX11_isModel N p0 μ = some z) : Mi wM l yX11_isModel cX11_isModel 2 .boolean (rmo 1 25) (fun ad adK => [.ref (ad 0), .int p0]) μ z := Mi.of h (by decide +kernel) (fun _ _ => Nat.le_of_ble_eq_true rfl) (fun X hX hQ hl hcs => gX11_isModel_E hX hQ hcs N p0 μ)
/-! ===== DutyCaseModel.isFirm(I)Z ===== -/
set_option maxHeartbeats 4000000 in
set_option maxRecDepth 100000 in
theorem gX11_isFirm_E {X : Ctx} {z : Int32 × Mem} (hX : Fx wM X cX11_isFirm 2 RX11 (some .boolean) (rmo 1 25)) (hQ : Qx_i wM X z) (hcs : cx_cells X = 0 ∧ cx_slots X = 0) (N : Nat) (p0 : Int32) (μ : Mem) : G wM X z 0 [(0, .ref (cx_ad X 0)), (1, .int p0)] [] μ (fX11_isFirm N p0 μ) := by
  unfold fX11_isFirm
  refine G_iload_n hX 1 rfl rfl dX11_isFirm_0 ?_
  refine G_i2l hX dX11_isFirm_1 ?_
  refine G_lconst hX (0 : Int64) rfl dX11_isFirm_2 ?_
  refine G_aload_n hX 0 rfl rfl dX11_isFirm_3 ?_
  refine gf_X11_291_M0 hX dX11_isFirm_4 ?_
  refine G_nmi (fun x1 => ?_)
  refine G_iconst hX (1 : Int32) rfl dX11_isFirm_7 ?_
  refine G_isub hX dX11_isFirm_8 ?_
  refine G_i2l hX dX11_isFirm_9 ?_
  refine G_cSi hX (fun ad adK => [.long p0.toInt64, .long (0 : Int64), .long ((x1 - (1 : Int32)).toInt64)]) [] (fun z2 h2 => cX11_isIn_ok (cx_l X) N p0.toInt64 (0 : Int64) ((x1 - (1 : Int32)).toInt64) μ z2 h2) ok_X11_isIn lm_X11_301 rfl (fun _ _ => rfl) (Nat.le_of_ble_eq_true rfl) ⟨rfl, rfl, by decide, by decide⟩ (cs0 hcs) dX11_isFirm_10 (fun r2 μ => ?_)
  exact G_zretZ hX hQ dX11_isFirm_13
theorem cX11_isFirm_ok (l : Launch) (N : Nat) (p0 : Int32) (μ : Mem) (z : Int32 × Mem) (h : fX11_isFirm N p0 μ = some z) : Mi wM l yX11_isFirm cX11_isFirm 2 .boolean (rmo 1 25) (fun ad adK => [.ref (ad 0), .int p0]) μ z := Mi.of h (by decide +kernel) (fun _ _ => Nat.le_of_ble_eq_true rfl) (fun X hX hQ hl hcs => gX11_isFirm_E hX hQ hcs N p0 μ)
/-! ===== DutyCaseModel.of(II)I ===== -/
set_option maxHeartbeats 4000000 in
set_option maxRecDepth 100000 in
theorem gX11_of_E {X : Ctx} {z : Int32 × Mem} (hX : Fx wM X cX11_of 3 RX11 (some .int) (rmo 0 0)) (hQ : Qx_i wM X z) (hcs : cx_cells X = 0 ∧ cx_slots X = 0) (N : Nat) (p0 : Int32) (p1 : Int32) (μ : Mem) : G wM X z 0 [(0, .ref (cx_ad X 0)), (1, .int p0), (2, .int p1)] [] μ (fX11_of N p0 p1 μ) := by
  unfold fX11_of
  refine G_aload_n hX 0 rfl rfl dX11_of_0 ?_
  refine gf_X11_7_M0 hX dX11_of_1 ?_
  refine G_bipush hX (35 : Int32) rfl dX11_of_4 ?_
  refine G_bipush hX (8 : Int32) rfl dX11_of_6 ?_
  refine G_iload_n hX 1 rfl rfl dX11_of_8 ?_
  refine G_imul hX dX11_of_9 ?_
  refine G_iadd hX dX11_of_10 ?_
  refine G_iload_n hX 2 rfl rfl dX11_of_11 ?_
  refine G_iadd hX dX11_of_12 ?_
  refine G_aI hX atM1 dX11_of_13 (fun x1 => ?_)
  exact G_iret hX hQ dX11_of_14
theorem cX11_of_ok (l : Launch) (N : Nat) (p0 : Int32) (p1 : Int32) (μ : Mem) (z : Int32 × Mem) (h : fX11_of N p0 p1 μ = some z) : Mi wM l yX11_of cX11_of 3 .int (rmo 0 0) (fun ad adK => [.ref (ad 0), .int p0, .int p1]) μ z := Mi.of h (by decide +kernel) (fun _ _ => Nat.le_of_ble_eq_true rfl) (fun X hX hQ hl hcs => gX11_of_E hX hQ hcs N p0 p1 μ)
/-! ===== DutyCaseModel.isSale(I)Z ===== -/
set_option maxHeartbeats 4000000 in
set_option maxRecDepth 100000 in
theorem gX11_isSale_E {X : Ctx} {z : Int32 × Mem} (hX : Fx wM X cX11_isSale 2 RX11 (some .boolean) (rmo 1 25)) (hQ : Qx_i wM X z) (hcs : cx_cells X = 0 ∧ cx_slots X = 0) (N : Nat) (p0 : Int32) (μ : Mem) : G wM X z 0 [(0, .ref (cx_ad X 0)), (1, .int p0)] [] μ (fX11_isSale N p0 μ) := by
  unfold fX11_isSale
  refine G_iload_n hX 1 rfl rfl dX11_isSale_0 ?_
  refine G_i2l hX dX11_isSale_1 ?_
  refine G_lconst hX (0 : Int64) rfl dX11_isSale_2 ?_
  refine G_aload_n hX 0 rfl rfl dX11_isSale_3 ?_
  refine gf_X11_7_M0 hX dX11_isSale_4 ?_
  refine G_bipush hX (34 : Int32) rfl dX11_isSale_7 ?_
  refine G_aI hX atM1 dX11_isSale_9 (fun x1 => ?_)
  refine G_iconst hX (1 : Int32) rfl dX11_isSale_10 ?_
  refine G_isub hX dX11_isSale_11 ?_
  refine G_i2l hX dX11_isSale_12 ?_
  refine G_cSi hX (fun ad adK => [.long p0.toInt64, .long (0 : Int64), .long ((x1 - (1 : Int32)).toInt64)]) [] (fun z2 h2 => cX11_isIn_ok (cx_l X) N p0.toInt64 (0 : Int64) ((x1 - (1 : Int32)).toInt64) μ z2 h2) ok_X11_isIn lm_X11_301 rfl (fun _ _ => rfl) (Nat.le_of_ble_eq_true rfl) ⟨rfl, rfl, by decide, by decide⟩ (cs0 hcs) dX11_isSale_13 (fun r2 μ => ?_)
  refine G_if_eq hX 34 (by decide) dX11_isSale_16 ?_ ?_
  · refine G_iconst hX (0 : Int32) rfl dX11_isSale_34 ?_
    exact G_zret hX hQ rfl dX11_isSale_35
  · refine G_aload_n hX 0 rfl rfl dX11_isSale_19 ?_
    refine G_iload_n hX 1 rfl rfl dX11_isSale_20 ?_
    refine G_bipush hX (7 : Int32) rfl dX11_isSale_21 ?_
    refine G_cVi hX 0 11 (fun ad adK => [.int p0, .int (7 : Int32)]) [] (fun z2 h2 => cX11_of_ok (cx_l X) N p0 (7 : Int32) μ z2 h2) ok_X11_of lm_X11_305 atM0.1 atM0.2 rfl rfl (fun _ _ => rfl) (Nat.le_of_ble_eq_true rfl) ⟨rfl, rfl, by decide, by decide⟩ (cs0 hcs) dX11_isSale_23 (fun r3 μ => ?_)
    refine G_iconst hX (1 : Int32) rfl dX11_isSale_26 ?_
    refine G_icmp_ne hX 34 (by decide) dX11_isSale_27 ?_ ?_
    · refine G_iconst hX (0 : Int32) rfl dX11_isSale_34 ?_
      exact G_zret hX hQ rfl dX11_isSale_35
    · refine G_iconst hX (1 : Int32) rfl dX11_isSale_30 ?_
      refine G_goto hX 35 (by decide) dX11_isSale_31 ?_
      exact G_zret hX hQ rfl dX11_isSale_35
theorem cX11_isSale_ok (l : Launch) (N : Nat) (p0 : Int32) (μ : Mem) (z : Int32 × Mem) (h : fX11_isSale N p0 μ = some z) : Mi wM l yX11_isSale cX11_isSale 2 .boolean (rmo 1 25) (fun ad adK => [.ref (ad 0), .int p0]) μ z := Mi.of h (by decide +kernel) (fun _ _ => Nat.le_of_ble_eq_true rfl) (fun X hX hQ hl hcs => gX11_isSale_E hX hQ hcs N p0 μ)
